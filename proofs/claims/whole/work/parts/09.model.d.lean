set_option maxHeartbeats 4000000 in
set_option maxRecDepth 100000 in
theorem c_X4_come (l : Launch) (g : kG) (a : Nat → Nat) (m9 : MSt) (j : Nat) (hj : j ≤ 6) (hjm : msm m9 = nI j) (row con : Int32) : KI l yX4_come wsX4_come ({ frames := 2, cells := 0, slots := 0, locals := 43 }) g [.ref (a 0), .int row, .int con] (wM g a m9) (McomeR row con m9) (wM g a (Mcome j row con m9)) 0 0 := by
  refine k_begin (cc := cX4_come) (maxL := 3) (ret := (some .int)) (Qc := fun A => kQi g (McomeR row con m9) (wM g a (Mcome j row con m9)) A) (by decide) rfl (Nat.le_of_ble_eq_true rfl) ?_
  intro p e s m below meth c A ls hF hr hlocks hin hE hP hD hS hA hl
  obtain ⟨hx, hb, hml, hown, hts⟩ := id hF
  have hown : s.vm.findClass RX4 = some m.cls := hown
  have hl : lv_has ls 3 [(0, .ref (a 0)), (1, .int row), (2, .int con)] := hl
  have hiX4 : ∀ w ∈ wsX40, w ∈ wsX4_come := fun _ h => List.mem_cons_of_mem _ (List.mem_append_right _ (h))
  have f25 : (Cond.fieldLink RX4 25 "ConcertUsherModel" "thrown" "I").before _ s = true := hts _ (List.mem_of_getElem? (i := 1) rfl)
  have f7 : (Cond.fieldLink RX4 7 "ConcertUsherModel" "s" "[I").before _ s = true := hts _ (List.mem_of_getElem? (i := 2) rfl)
  refine lv_aload_n hx hb dX4_come_0 rfl (lv_at hl 0 rfl) ?_
  refine lv_iconst (v := (nI 0)) hx hb dX4_come_1 (by decide) ?_
  refine va_put (D := g.1) (ci := 4) (v := .int (nI 0)) (ty := .int) (C := RX4) (T := TX4) (N := 12) hx hb hts hiX4 tyX4 tyX4_ok nmX4 hown hE.1 hP hD hS 0 rfl rfl 0 (by decide) f25 (fun _ h9 => h9) rfl (tyX4_ok 0 (by decide)) rfl rfl (Nat.le_of_ble_eq_true rfl) dX4_come_2 (fun H locs hP hD hS => ?_)
  have hP : va_P g.1 vwCl (wM g a (sMth m9 (nI 0))) _ := hP
  have hD : va_D A (wM g a (sMth m9 (nI 0))) := hD
  refine lv_iload_n hx hb dX4_come_5 rfl (lv_at hl 1 rfl) ?_
  refine lv_iload_n hx hb dX4_come_6 rfl (lv_at hl 2 rfl) ?_
  refine k_Si (w0 := []) (w1 := []) (As := [.int row, .int con]) (r := (bI (pairOK row con))) hF (c_X4_isPair l g row con) (va_cwS 2 hts gX4_come_X4_isPair rfl rfl rfl (by decide +kernel) ⟨Nat.le_of_ble_eq_true rfl, Nat.le_of_ble_eq_true rfl⟩) hE hP hD hS hA (List.Perm.refl _) (List.Perm.refl _) rfl hl.1 rfl (Nat.le_of_ble_eq_true rfl) dX4_come_7 ⟨Nat.le_of_ble_eq_true rfl, Nat.le_of_ble_eq_true rfl⟩ (fun H locs hP hD hS => ?_)
  have hP : va_P g.1 vwCl (wM g a (sMth m9 (nI 0))) _ := hP
  have hD : va_D A (wM g a (sMth m9 (nI 0))) := hD
  refine k_ifneB (tgt := 19) hx hb dX4_come_10 (by decide) (fun c1 => ?_) (fun c1 => ?_)
  ·
    obtain ⟨r9, hr9, hre⟩ := in_nat (by decide) (by decide) c1.1
    obtain ⟨c9, hc9, hce⟩ := in_nat (by decide) (by decide) c1.2
    have hpl : plM row con = 6 * r9 + c9 := plM_eq hr9.2 hc9.2 hre hce
    refine lv_aload_n hx hb dX4_come_19 rfl (lv_at hl 0 rfl) ?_
    refine va_get (D := g.1) (ci := 4) (v := .ref (a 1)) (C := RX4) (T := TX4) (N := 12) hx hb hts hiX4 hown hE.1 hP 0 rfl rfl 1 (by decide) f7 (fun _ h9 => h9) rfl dX4_come_20 ?_
    refine lv_bipush (v := (nI 21)) hx hb dX4_come_23 (by decide) ?_
    refine lv_iload_n hx hb dX4_come_25 rfl (lv_at hl 1 rfl) ?_
    refine k_top hre ?_
    refine lv_iload_n hx hb dX4_come_26 rfl (lv_at hl 2 rfl) ?_
    refine k_top hce ?_
    refine k_Si (w0 := []) (w1 := []) (As := [.int (nI r9), .int (nI c9)]) (r := (nI (6 * r9 + c9))) hF (c_X4_cellOf l g r9 c9) (va_cwS 2 hts gX4_come_X4_cellOf rfl rfl rfl (by decide +kernel) ⟨Nat.le_of_ble_eq_true rfl, Nat.le_of_ble_eq_true rfl⟩) hE hP hD hS hA (List.Perm.refl _) (List.Perm.refl _) rfl hl.1 rfl (Nat.le_of_ble_eq_true rfl) dX4_come_27 ⟨Nat.le_of_ble_eq_true rfl, Nat.le_of_ble_eq_true rfl⟩ (fun H locs hP hD hS => ?_)
    have hP : va_P g.1 vwCl (wM g a (sMth m9 (nI 0))) _ := hP
    have hD : va_D A (wM g a (sMth m9 (nI 0))) := hD
    refine lv_iadd hx hb dX4_come_30 ?_
    refine k_top (nI_add _ _) ?_
    refine k_iald (f := (ms m9)) hx hb hE hP 1 rfl (21 + (6 * r9 + c9)) rfl (by omega) (by decide) dX4_come_31 ?_
    refine lv_bipush (v := (nI 9)) hx hb dX4_come_32 (by decide) ?_
    refine lv_icmp_ne (tgt := 43) hx hb dX4_come_34 (by decide) (fun c2 => ?_) (fun c2 => ?_)
    ·
      refine lv_aload_n hx hb dX4_come_43 rfl (lv_at hl 0 rfl) ?_
      refine k_Vv (As := []) hF (c_X4_saves l g a (sMth m9 (nI 0)) j (by omega) hjm) (cwV 0 hts gX4_come_X4_saves rfl rfl rfl (by decide +kernel) ⟨Nat.le_of_ble_eq_true rfl, Nat.le_of_ble_eq_true rfl⟩) hE hP hD hS hA (k_pall _) ((k_pall _).symm) 0 rfl rfl rfl rfl hl.1 rfl (Nat.le_of_ble_eq_true rfl) dX4_come_44 ⟨Nat.le_of_ble_eq_true rfl, Nat.le_of_ble_eq_true rfl⟩ (fun H locs hP hD hS => ?_)
      have hP : va_P g.1 vwCl (wM g a (sMsm (sMsv (sMth m9 (nI 0)) (Msv (ms m9) (msv m9) j)) (nI (kSz j)))) _ := hP
      have hD : va_D A (wM g a (sMsm (sMsv (sMth m9 (nI 0)) (Msv (ms m9) (msv m9) j)) (nI (kSz j)))) := hD
      refine lv_aload_n hx hb dX4_come_47 rfl (lv_at hl 0 rfl) ?_
      refine lv_iload_n hx hb dX4_come_48 rfl (lv_at hl 1 rfl) ?_
      refine k_top hre ?_
      refine lv_iload_n hx hb dX4_come_49 rfl (lv_at hl 2 rfl) ?_
      refine k_top hce ?_
      refine k_Si (w0 := []) (w1 := []) (As := [.int (nI r9), .int (nI c9)]) (r := (nI (6 * r9 + c9))) hF (c_X4_cellOf l g r9 c9) (va_cwS 2 hts gX4_come_X4_cellOf rfl rfl rfl (by decide +kernel) ⟨Nat.le_of_ble_eq_true rfl, Nat.le_of_ble_eq_true rfl⟩) hE hP hD hS hA (List.Perm.refl _) (List.Perm.refl _) rfl hl.1 rfl (Nat.le_of_ble_eq_true rfl) dX4_come_50 ⟨Nat.le_of_ble_eq_true rfl, Nat.le_of_ble_eq_true rfl⟩ (fun H locs hP hD hS => ?_)
      have hP : va_P g.1 vwCl (wM g a (sMsm (sMsv (sMth m9 (nI 0)) (Msv (ms m9) (msv m9) j)) (nI (kSz j)))) _ := hP
      have hD : va_D A (wM g a (sMsm (sMsv (sMth m9 (nI 0)) (Msv (ms m9) (msv m9) j)) (nI (kSz j)))) := hD
      refine k_Vi (As := [.int (nI (6 * r9 + c9))]) (r := (Mcomes (6 * r9 + c9) (ms m9) (21 + (6 * r9 + c9)))) hF (c_X4_comes l g a (sMsm (sMsv (sMth m9 (nI 0)) (Msv (ms m9) (msv m9) j)) (nI (kSz j))) (6 * r9 + c9) (by omega)) (cwV 1 hts gX4_come_X4_comes rfl rfl rfl (by decide +kernel) ⟨Nat.le_of_ble_eq_true rfl, Nat.le_of_ble_eq_true rfl⟩) hE hP hD hS hA (k_pall _) ((k_pall _).symm) 0 rfl rfl rfl rfl hl.1 rfl (Nat.le_of_ble_eq_true rfl) dX4_come_53 ⟨Nat.le_of_ble_eq_true rfl, Nat.le_of_ble_eq_true rfl⟩ (fun H locs hP hD hS => ?_)
      have hP : va_P g.1 vwCl (wM g a (sMs (sMsm (sMsv (sMth m9 (nI 0)) (Msv (ms m9) (msv m9) j)) (nI (kSz j))) (Mcomes (6 * r9 + c9) (ms m9)))) _ := hP
      have hD : va_D A (wM g a (sMs (sMsm (sMsv (sMth m9 (nI 0)) (Msv (ms m9) (msv m9) j)) (nI (kSz j))) (Mcomes (6 * r9 + c9) (ms m9)))) := hD
      have e3 : (Mcome j row con m9) = (sMs (sMsm (sMsv (sMth m9 (nI 0)) (Msv (ms m9) (msv m9) j)) (nI (kSz j))) (Mcomes (6 * r9 + c9) (ms m9))) := (by first | (simp only [Mcome, McomeR, if_pos c1, if_neg (not_not_intro c1), if_neg c2, if_pos c2, hpl]; done) | (simp only [Mcome, McomeR, if_pos c1, if_neg (not_not_intro c1), if_neg c2, if_pos c2, hpl]; rfl) | rfl | (simp [Mcome, McomeR, if_pos c1, if_neg (not_not_intro c1), if_neg c2, if_pos c2, hpl]; done))
      have hP : va_P g.1 vwCl (wM g a (Mcome j row con m9)) H := by rw [e3]; exact hP
      have hD : va_D A (wM g a (Mcome j row con m9)) := by rw [e3]; exact hD
      exact k_iret hx hb hr hlocks rfl (by first | (simp only [Mcome, McomeR, bI, if_pos c1, if_neg (not_not_intro c1), if_neg c2, if_pos c2, hpl]; done) | (simp only [Mcome, McomeR, bI, if_pos c1, if_neg (not_not_intro c1), if_neg c2, if_pos c2, hpl]; rfl) | rfl | (simp [Mcome, McomeR, bI, if_pos c1, if_neg (not_not_intro c1), if_neg c2, if_pos c2, hpl]; done)) hP hD hS (Nat.le_of_ble_eq_true rfl) (Nat.le_of_ble_eq_true rfl) dX4_come_56
    ·
      refine lv_aload_n hx hb dX4_come_37 rfl (lv_at hl 0 rfl) ?_
      refine lv_iconst (v := (nI 2)) hx hb dX4_come_38 (by decide) ?_
      refine k_Vi (As := [.int (nI 2)]) (r := (nI 0)) hF (c_X4_fails l g a (sMth m9 (nI 0)) (nI 2)) (cwV 1 hts gX4_come_X4_fails rfl rfl rfl (by decide +kernel) ⟨Nat.le_of_ble_eq_true rfl, Nat.le_of_ble_eq_true rfl⟩) hE hP hD hS hA (k_pall _) ((k_pall _).symm) 0 rfl rfl rfl rfl hl.1 rfl (Nat.le_of_ble_eq_true rfl) dX4_come_39 ⟨Nat.le_of_ble_eq_true rfl, Nat.le_of_ble_eq_true rfl⟩ (fun H locs hP hD hS => ?_)
      have hP : va_P g.1 vwCl (wM g a (sMth m9 (nI 2))) _ := hP
      have hD : va_D A (wM g a (sMth m9 (nI 2))) := hD
      have e4 : (Mcome j row con m9) = (sMth m9 (nI 2)) := (by first | (simp only [Mcome, McomeR, if_pos c1, if_neg (not_not_intro c1), if_pos c2, if_neg (not_not_intro c2), hpl]; done) | (simp only [Mcome, McomeR, if_pos c1, if_neg (not_not_intro c1), if_pos c2, if_neg (not_not_intro c2), hpl]; rfl) | rfl | (simp [Mcome, McomeR, if_pos c1, if_neg (not_not_intro c1), if_pos c2, if_neg (not_not_intro c2), hpl]; done))
      have hP : va_P g.1 vwCl (wM g a (Mcome j row con m9)) H := by rw [e4]; exact hP
      have hD : va_D A (wM g a (Mcome j row con m9)) := by rw [e4]; exact hD
      exact k_iret hx hb hr hlocks rfl (by first | (simp only [Mcome, McomeR, bI, if_pos c1, if_neg (not_not_intro c1), if_pos c2, if_neg (not_not_intro c2), hpl]; done) | (simp only [Mcome, McomeR, bI, if_pos c1, if_neg (not_not_intro c1), if_pos c2, if_neg (not_not_intro c2), hpl]; rfl) | rfl | (simp [Mcome, McomeR, bI, if_pos c1, if_neg (not_not_intro c1), if_pos c2, if_neg (not_not_intro c2), hpl]; done)) hP hD hS (Nat.le_of_ble_eq_true rfl) (Nat.le_of_ble_eq_true rfl) dX4_come_42
  ·
    refine lv_aload_n hx hb dX4_come_13 rfl (lv_at hl 0 rfl) ?_
    refine lv_iconst (v := (nI 1)) hx hb dX4_come_14 (by decide) ?_
    refine k_Vi (As := [.int (nI 1)]) (r := (nI 0)) hF (c_X4_fails l g a (sMth m9 (nI 0)) (nI 1)) (cwV 1 hts gX4_come_X4_fails rfl rfl rfl (by decide +kernel) ⟨Nat.le_of_ble_eq_true rfl, Nat.le_of_ble_eq_true rfl⟩) hE hP hD hS hA (k_pall _) ((k_pall _).symm) 0 rfl rfl rfl rfl hl.1 rfl (Nat.le_of_ble_eq_true rfl) dX4_come_15 ⟨Nat.le_of_ble_eq_true rfl, Nat.le_of_ble_eq_true rfl⟩ (fun H locs hP hD hS => ?_)
    have hP : va_P g.1 vwCl (wM g a (sMth m9 (nI 1))) _ := hP
    have hD : va_D A (wM g a (sMth m9 (nI 1))) := hD
    have e5 : (Mcome j row con m9) = (sMth m9 (nI 1)) := (by first | (simp only [Mcome, McomeR, if_neg c1, if_pos c1]; done) | (simp only [Mcome, McomeR, if_neg c1, if_pos c1]; rfl) | rfl | (simp [Mcome, McomeR, if_neg c1, if_pos c1]; done))
    have hP : va_P g.1 vwCl (wM g a (Mcome j row con m9)) H := by rw [e5]; exact hP
    have hD : va_D A (wM g a (Mcome j row con m9)) := by rw [e5]; exact hD
    exact k_iret hx hb hr hlocks rfl (by first | (simp only [Mcome, McomeR, bI, if_neg c1, if_pos c1]; done) | (simp only [Mcome, McomeR, bI, if_neg c1, if_pos c1]; rfl) | rfl | (simp [Mcome, McomeR, bI, if_neg c1, if_pos c1]; done)) hP hD hS (Nat.le_of_ble_eq_true rfl) (Nat.le_of_ble_eq_true rfl) dX4_come_18
set_option maxHeartbeats 4000000 in
set_option maxRecDepth 100000 in
theorem c_X4_leave (l : Launch) (g : kG) (a : Nat → Nat) (m9 : MSt) (j : Nat) (hj : j ≤ 6) (hjm : msm m9 = nI j) (row con : Int32) (b : Nat) (hb2 : b < 2) : KI l yX4_leave wsX4_leave ({ frames := 3, cells := 0, slots := 0, locals := 64 }) g [.ref (a 0), .int row, .int con, .int (nI b)] (wM g a m9) (MleaveR row con b m9) (wM g a (Mleave j row con b m9)) 0 0 := by
  refine k_begin (cc := cX4_leave) (maxL := 4) (ret := (some .int)) (Qc := fun A => kQi g (MleaveR row con b m9) (wM g a (Mleave j row con b m9)) A) (by decide) rfl (Nat.le_of_ble_eq_true rfl) ?_
  intro p e s m below meth c A ls hF hr hlocks hin hE hP hD hS hA hl
  obtain ⟨hx, hb, hml, hown, hts⟩ := id hF
  have hown : s.vm.findClass RX4 = some m.cls := hown
  have hl : lv_has ls 4 [(0, .ref (a 0)), (1, .int row), (2, .int con), (3, .int (nI b))] := hl
  have hiX4 : ∀ w ∈ wsX40, w ∈ wsX4_leave := fun _ h => List.mem_cons_of_mem _ (List.mem_append_right _ (h))
  have f25 : (Cond.fieldLink RX4 25 "ConcertUsherModel" "thrown" "I").before _ s = true := hts _ (List.mem_of_getElem? (i := 1) rfl)
  have f7 : (Cond.fieldLink RX4 7 "ConcertUsherModel" "s" "[I").before _ s = true := hts _ (List.mem_of_getElem? (i := 2) rfl)
  refine lv_aload_n hx hb dX4_leave_0 rfl (lv_at hl 0 rfl) ?_
  refine lv_iconst (v := (nI 0)) hx hb dX4_leave_1 (by decide) ?_
  refine va_put (D := g.1) (ci := 4) (v := .int (nI 0)) (ty := .int) (C := RX4) (T := TX4) (N := 12) hx hb hts hiX4 tyX4 tyX4_ok nmX4 hown hE.1 hP hD hS 0 rfl rfl 0 (by decide) f25 (fun _ h9 => h9) rfl (tyX4_ok 0 (by decide)) rfl rfl (Nat.le_of_ble_eq_true rfl) dX4_leave_2 (fun H locs hP hD hS => ?_)
  have hP : va_P g.1 vwCl (wM g a (sMth m9 (nI 0))) _ := hP
  have hD : va_D A (wM g a (sMth m9 (nI 0))) := hD
  refine lv_iload_n hx hb dX4_leave_5 rfl (lv_at hl 1 rfl) ?_
  refine lv_iload_n hx hb dX4_leave_6 rfl (lv_at hl 2 rfl) ?_
  refine k_Si (w0 := []) (w1 := []) (As := [.int row, .int con]) (r := (bI (pairOK row con))) hF (c_X4_isPair l g row con) (va_cwS 2 hts gX4_leave_X4_isPair rfl rfl rfl (by decide +kernel) ⟨Nat.le_of_ble_eq_true rfl, Nat.le_of_ble_eq_true rfl⟩) hE hP hD hS hA (List.Perm.refl _) (List.Perm.refl _) rfl hl.1 rfl (Nat.le_of_ble_eq_true rfl) dX4_leave_7 ⟨Nat.le_of_ble_eq_true rfl, Nat.le_of_ble_eq_true rfl⟩ (fun H locs hP hD hS => ?_)
  have hP : va_P g.1 vwCl (wM g a (sMth m9 (nI 0))) _ := hP
  have hD : va_D A (wM g a (sMth m9 (nI 0))) := hD
  refine k_ifneB (tgt := 19) hx hb dX4_leave_10 (by decide) (fun c1 => ?_) (fun c1 => ?_)
  ·
    obtain ⟨r9, hr9, hre⟩ := in_nat (by decide) (by decide) c1.1
    obtain ⟨c9, hc9, hce⟩ := in_nat (by decide) (by decide) c1.2
    have hpl : plM row con = 6 * r9 + c9 := plM_eq hr9.2 hc9.2 hre hce
    refine lv_aload_n hx hb dX4_leave_19 rfl (lv_at hl 0 rfl) ?_
    refine va_get (D := g.1) (ci := 4) (v := .ref (a 1)) (C := RX4) (T := TX4) (N := 12) hx hb hts hiX4 hown hE.1 hP 0 rfl rfl 1 (by decide) f7 (fun _ h9 => h9) rfl dX4_leave_20 ?_
    refine lv_bipush (v := (nI 21)) hx hb dX4_leave_23 (by decide) ?_
    refine lv_iload_n hx hb dX4_leave_25 rfl (lv_at hl 1 rfl) ?_
    refine k_top hre ?_
    refine lv_iload_n hx hb dX4_leave_26 rfl (lv_at hl 2 rfl) ?_
    refine k_top hce ?_
    refine k_Si (w0 := []) (w1 := []) (As := [.int (nI r9), .int (nI c9)]) (r := (nI (6 * r9 + c9))) hF (c_X4_cellOf l g r9 c9) (va_cwS 2 hts gX4_leave_X4_cellOf rfl rfl rfl (by decide +kernel) ⟨Nat.le_of_ble_eq_true rfl, Nat.le_of_ble_eq_true rfl⟩) hE hP hD hS hA (List.Perm.refl _) (List.Perm.refl _) rfl hl.1 rfl (Nat.le_of_ble_eq_true rfl) dX4_leave_27 ⟨Nat.le_of_ble_eq_true rfl, Nat.le_of_ble_eq_true rfl⟩ (fun H locs hP hD hS => ?_)
    have hP : va_P g.1 vwCl (wM g a (sMth m9 (nI 0))) _ := hP
    have hD : va_D A (wM g a (sMth m9 (nI 0))) := hD
    refine lv_iadd hx hb dX4_leave_30 ?_
    refine k_top (nI_add _ _) ?_
    refine k_iald (f := (ms m9)) hx hb hE hP 1 rfl (21 + (6 * r9 + c9)) rfl (by omega) (by decide) dX4_leave_31 ?_
    refine lv_if_ne (tgt := 41) hx hb dX4_leave_32 (by decide) (fun c2 => ?_) (fun c2 => ?_)
    ·
      refine lv_aload_n hx hb dX4_leave_41 rfl (lv_at hl 0 rfl) ?_
      refine k_Vv (As := []) hF (c_X4_saves l g a (sMth m9 (nI 0)) j (by omega) hjm) (cwV 0 hts gX4_leave_X4_saves rfl rfl rfl (by decide +kernel) ⟨Nat.le_of_ble_eq_true rfl, Nat.le_of_ble_eq_true rfl⟩) hE hP hD hS hA (k_pall _) ((k_pall _).symm) 0 rfl rfl rfl rfl hl.1 rfl (Nat.le_of_ble_eq_true rfl) dX4_leave_42 ⟨Nat.le_of_ble_eq_true rfl, Nat.le_of_ble_eq_true rfl⟩ (fun H locs hP hD hS => ?_)
      have hP : va_P g.1 vwCl (wM g a (sMsm (sMsv (sMth m9 (nI 0)) (Msv (ms m9) (msv m9) j)) (nI (kSz j)))) _ := hP
      have hD : va_D A (wM g a (sMsm (sMsv (sMth m9 (nI 0)) (Msv (ms m9) (msv m9) j)) (nI (kSz j)))) := hD
      refine lv_aload_n hx hb dX4_leave_45 rfl (lv_at hl 0 rfl) ?_
      refine lv_iload_n hx hb dX4_leave_46 rfl (lv_at hl 1 rfl) ?_
      refine k_top hre ?_
      refine lv_iload_n hx hb dX4_leave_47 rfl (lv_at hl 2 rfl) ?_
      refine k_top hce ?_
      refine k_Si (w0 := []) (w1 := []) (As := [.int (nI r9), .int (nI c9)]) (r := (nI (6 * r9 + c9))) hF (c_X4_cellOf l g r9 c9) (va_cwS 2 hts gX4_leave_X4_cellOf rfl rfl rfl (by decide +kernel) ⟨Nat.le_of_ble_eq_true rfl, Nat.le_of_ble_eq_true rfl⟩) hE hP hD hS hA (List.Perm.refl _) (List.Perm.refl _) rfl hl.1 rfl (Nat.le_of_ble_eq_true rfl) dX4_leave_48 ⟨Nat.le_of_ble_eq_true rfl, Nat.le_of_ble_eq_true rfl⟩ (fun H locs hP hD hS => ?_)
      have hP : va_P g.1 vwCl (wM g a (sMsm (sMsv (sMth m9 (nI 0)) (Msv (ms m9) (msv m9) j)) (nI (kSz j)))) _ := hP
      have hD : va_D A (wM g a (sMsm (sMsv (sMth m9 (nI 0)) (Msv (ms m9) (msv m9) j)) (nI (kSz j)))) := hD
      refine lv_iload_n hx hb dX4_leave_51 rfl (lv_at hl 3 rfl) ?_
      refine k_Vi (As := [.int (nI (6 * r9 + c9)), .int (nI b)]) (r := (Mleaves (6 * r9 + c9) b (ms m9) (21 + (6 * r9 + c9)))) hF (c_X4_leaves l g a (sMsm (sMsv (sMth m9 (nI 0)) (Msv (ms m9) (msv m9) j)) (nI (kSz j))) (6 * r9 + c9) (by omega) b (by omega)) (cwV 2 hts gX4_leave_X4_leaves rfl rfl rfl (by decide +kernel) ⟨Nat.le_of_ble_eq_true rfl, Nat.le_of_ble_eq_true rfl⟩) hE hP hD hS hA (k_pall _) ((k_pall _).symm) 0 rfl rfl rfl rfl hl.1 rfl (Nat.le_of_ble_eq_true rfl) dX4_leave_52 ⟨Nat.le_of_ble_eq_true rfl, Nat.le_of_ble_eq_true rfl⟩ (fun H locs hP hD hS => ?_)
      have hP : va_P g.1 vwCl (wM g a (sMs (sMsm (sMsv (sMth m9 (nI 0)) (Msv (ms m9) (msv m9) j)) (nI (kSz j))) (Mleaves (6 * r9 + c9) b (ms m9)))) _ := hP
      have hD : va_D A (wM g a (sMs (sMsm (sMsv (sMth m9 (nI 0)) (Msv (ms m9) (msv m9) j)) (nI (kSz j))) (Mleaves (6 * r9 + c9) b (ms m9)))) := hD
      have e3 : (Mleave j row con b m9) = (sMs (sMsm (sMsv (sMth m9 (nI 0)) (Msv (ms m9) (msv m9) j)) (nI (kSz j))) (Mleaves (6 * r9 + c9) b (ms m9))) := (by first | (simp only [Mleave, MleaveR, if_pos c1, if_neg (not_not_intro c1), if_neg c2, if_pos c2, hpl]; done) | (simp only [Mleave, MleaveR, if_pos c1, if_neg (not_not_intro c1), if_neg c2, if_pos c2, hpl]; rfl) | rfl | (simp [Mleave, MleaveR, if_pos c1, if_neg (not_not_intro c1), if_neg c2, if_pos c2, hpl]; done))
      have hP : va_P g.1 vwCl (wM g a (Mleave j row con b m9)) H := by rw [e3]; exact hP
      have hD : va_D A (wM g a (Mleave j row con b m9)) := by rw [e3]; exact hD
      exact k_iret hx hb hr hlocks rfl (by first | (simp only [Mleave, MleaveR, bI, if_pos c1, if_neg (not_not_intro c1), if_neg c2, if_pos c2, hpl]; done) | (simp only [Mleave, MleaveR, bI, if_pos c1, if_neg (not_not_intro c1), if_neg c2, if_pos c2, hpl]; rfl) | rfl | (simp [Mleave, MleaveR, bI, if_pos c1, if_neg (not_not_intro c1), if_neg c2, if_pos c2, hpl]; done)) hP hD hS (Nat.le_of_ble_eq_true rfl) (Nat.le_of_ble_eq_true rfl) dX4_leave_55
    ·
      refine lv_aload_n hx hb dX4_leave_35 rfl (lv_at hl 0 rfl) ?_
      refine lv_iconst (v := (nI 2)) hx hb dX4_leave_36 (by decide) ?_
      refine k_Vi (As := [.int (nI 2)]) (r := (nI 0)) hF (c_X4_fails l g a (sMth m9 (nI 0)) (nI 2)) (cwV 1 hts gX4_leave_X4_fails rfl rfl rfl (by decide +kernel) ⟨Nat.le_of_ble_eq_true rfl, Nat.le_of_ble_eq_true rfl⟩) hE hP hD hS hA (k_pall _) ((k_pall _).symm) 0 rfl rfl rfl rfl hl.1 rfl (Nat.le_of_ble_eq_true rfl) dX4_leave_37 ⟨Nat.le_of_ble_eq_true rfl, Nat.le_of_ble_eq_true rfl⟩ (fun H locs hP hD hS => ?_)
      have hP : va_P g.1 vwCl (wM g a (sMth m9 (nI 2))) _ := hP
      have hD : va_D A (wM g a (sMth m9 (nI 2))) := hD
      have e4 : (Mleave j row con b m9) = (sMth m9 (nI 2)) := (by first | (simp only [Mleave, MleaveR, if_pos c1, if_neg (not_not_intro c1), if_pos c2, if_neg (not_not_intro c2), hpl]; done) | (simp only [Mleave, MleaveR, if_pos c1, if_neg (not_not_intro c1), if_pos c2, if_neg (not_not_intro c2), hpl]; rfl) | rfl | (simp [Mleave, MleaveR, if_pos c1, if_neg (not_not_intro c1), if_pos c2, if_neg (not_not_intro c2), hpl]; done))
      have hP : va_P g.1 vwCl (wM g a (Mleave j row con b m9)) H := by rw [e4]; exact hP
      have hD : va_D A (wM g a (Mleave j row con b m9)) := by rw [e4]; exact hD
      exact k_iret hx hb hr hlocks rfl (by first | (simp only [Mleave, MleaveR, bI, if_pos c1, if_neg (not_not_intro c1), if_pos c2, if_neg (not_not_intro c2), hpl]; done) | (simp only [Mleave, MleaveR, bI, if_pos c1, if_neg (not_not_intro c1), if_pos c2, if_neg (not_not_intro c2), hpl]; rfl) | rfl | (simp [Mleave, MleaveR, bI, if_pos c1, if_neg (not_not_intro c1), if_pos c2, if_neg (not_not_intro c2), hpl]; done)) hP hD hS (Nat.le_of_ble_eq_true rfl) (Nat.le_of_ble_eq_true rfl) dX4_leave_40
  ·
    refine lv_aload_n hx hb dX4_leave_13 rfl (lv_at hl 0 rfl) ?_
    refine lv_iconst (v := (nI 1)) hx hb dX4_leave_14 (by decide) ?_
    refine k_Vi (As := [.int (nI 1)]) (r := (nI 0)) hF (c_X4_fails l g a (sMth m9 (nI 0)) (nI 1)) (cwV 1 hts gX4_leave_X4_fails rfl rfl rfl (by decide +kernel) ⟨Nat.le_of_ble_eq_true rfl, Nat.le_of_ble_eq_true rfl⟩) hE hP hD hS hA (k_pall _) ((k_pall _).symm) 0 rfl rfl rfl rfl hl.1 rfl (Nat.le_of_ble_eq_true rfl) dX4_leave_15 ⟨Nat.le_of_ble_eq_true rfl, Nat.le_of_ble_eq_true rfl⟩ (fun H locs hP hD hS => ?_)
    have hP : va_P g.1 vwCl (wM g a (sMth m9 (nI 1))) _ := hP
    have hD : va_D A (wM g a (sMth m9 (nI 1))) := hD
    have e5 : (Mleave j row con b m9) = (sMth m9 (nI 1)) := (by first | (simp only [Mleave, MleaveR, if_neg c1, if_pos c1]; done) | (simp only [Mleave, MleaveR, if_neg c1, if_pos c1]; rfl) | rfl | (simp [Mleave, MleaveR, if_neg c1, if_pos c1]; done))
    have hP : va_P g.1 vwCl (wM g a (Mleave j row con b m9)) H := by rw [e5]; exact hP
    have hD : va_D A (wM g a (Mleave j row con b m9)) := by rw [e5]; exact hD
    exact k_iret hx hb hr hlocks rfl (by first | (simp only [Mleave, MleaveR, bI, if_neg c1, if_pos c1]; done) | (simp only [Mleave, MleaveR, bI, if_neg c1, if_pos c1]; rfl) | rfl | (simp [Mleave, MleaveR, bI, if_neg c1, if_pos c1]; done)) hP hD hS (Nat.le_of_ble_eq_true rfl) (Nat.le_of_ble_eq_true rfl) dX4_leave_18
set_option maxHeartbeats 4000000 in
set_option maxRecDepth 100000 in
theorem c_X4_listeners (l : Launch) (g : kG) (a : Nat → Nat) (m9 : MSt) (j : Nat) (hj : j ≤ 6) (hjm : msm m9 = nI j) (row con : Int32) : KI l yX4_listeners wsX4_listeners ({ frames := 2, cells := 0, slots := 0, locals := 43 }) g [.ref (a 0), .int row, .int con] (wM g a m9) (MlisR row con m9) (wM g a (Mpair row con m9)) 0 0 := by
  refine k_begin (cc := cX4_listeners) (maxL := 3) (ret := (some .int)) (Qc := fun A => kQi g (MlisR row con m9) (wM g a (Mpair row con m9)) A) (by decide) rfl (Nat.le_of_ble_eq_true rfl) ?_
  intro p e s m below meth c A ls hF hr hlocks hin hE hP hD hS hA hl
  obtain ⟨hx, hb, hml, hown, hts⟩ := id hF
  have hown : s.vm.findClass RX4 = some m.cls := hown
  have hl : lv_has ls 3 [(0, .ref (a 0)), (1, .int row), (2, .int con)] := hl
  have hiX4 : ∀ w ∈ wsX40, w ∈ wsX4_listeners := fun _ h => List.mem_cons_of_mem _ (List.mem_append_right _ (h))
  have f25 : (Cond.fieldLink RX4 25 "ConcertUsherModel" "thrown" "I").before _ s = true := hts _ (List.mem_of_getElem? (i := 1) rfl)
  have f7 : (Cond.fieldLink RX4 7 "ConcertUsherModel" "s" "[I").before _ s = true := hts _ (List.mem_of_getElem? (i := 2) rfl)
  refine lv_aload_n hx hb dX4_listeners_0 rfl (lv_at hl 0 rfl) ?_
  refine lv_iconst (v := (nI 0)) hx hb dX4_listeners_1 (by decide) ?_
  refine va_put (D := g.1) (ci := 4) (v := .int (nI 0)) (ty := .int) (C := RX4) (T := TX4) (N := 12) hx hb hts hiX4 tyX4 tyX4_ok nmX4 hown hE.1 hP hD hS 0 rfl rfl 0 (by decide) f25 (fun _ h9 => h9) rfl (tyX4_ok 0 (by decide)) rfl rfl (Nat.le_of_ble_eq_true rfl) dX4_listeners_2 (fun H locs hP hD hS => ?_)
  have hP : va_P g.1 vwCl (wM g a (sMth m9 (nI 0))) _ := hP
  have hD : va_D A (wM g a (sMth m9 (nI 0))) := hD
  refine lv_iload_n hx hb dX4_listeners_5 rfl (lv_at hl 1 rfl) ?_
  refine lv_iload_n hx hb dX4_listeners_6 rfl (lv_at hl 2 rfl) ?_
  refine k_Si (w0 := []) (w1 := []) (As := [.int row, .int con]) (r := (bI (pairOK row con))) hF (c_X4_isPair l g row con) (va_cwS 2 hts gX4_listeners_X4_isPair rfl rfl rfl (by decide +kernel) ⟨Nat.le_of_ble_eq_true rfl, Nat.le_of_ble_eq_true rfl⟩) hE hP hD hS hA (List.Perm.refl _) (List.Perm.refl _) rfl hl.1 rfl (Nat.le_of_ble_eq_true rfl) dX4_listeners_7 ⟨Nat.le_of_ble_eq_true rfl, Nat.le_of_ble_eq_true rfl⟩ (fun H locs hP hD hS => ?_)
  have hP : va_P g.1 vwCl (wM g a (sMth m9 (nI 0))) _ := hP
  have hD : va_D A (wM g a (sMth m9 (nI 0))) := hD
  refine k_ifeqB (tgt := 29) hx hb dX4_listeners_10 (by decide) (fun c1 => ?_) (fun c1 => ?_)
  ·
    refine lv_aload_n hx hb dX4_listeners_29 rfl (lv_at hl 0 rfl) ?_
    refine lv_iconst (v := (nI 1)) hx hb dX4_listeners_30 (by decide) ?_
    refine k_Vi (As := [.int (nI 1)]) (r := (nI 0)) hF (c_X4_fails l g a (sMth m9 (nI 0)) (nI 1)) (cwV 1 hts gX4_listeners_X4_fails rfl rfl rfl (by decide +kernel) ⟨Nat.le_of_ble_eq_true rfl, Nat.le_of_ble_eq_true rfl⟩) hE hP hD hS hA (k_pall _) ((k_pall _).symm) 0 rfl rfl rfl rfl hl.1 rfl (Nat.le_of_ble_eq_true rfl) dX4_listeners_31 ⟨Nat.le_of_ble_eq_true rfl, Nat.le_of_ble_eq_true rfl⟩ (fun H locs hP hD hS => ?_)
    have hP : va_P g.1 vwCl (wM g a (sMth m9 (nI 1))) _ := hP
    have hD : va_D A (wM g a (sMth m9 (nI 1))) := hD
    have e2 : (Mpair row con m9) = (sMth m9 (nI 1)) := (by first | (simp only [Mpair, MlisR, if_neg c1, if_pos c1]; done) | (simp only [Mpair, MlisR, if_neg c1, if_pos c1]; rfl) | rfl | (simp [Mpair, MlisR, if_neg c1, if_pos c1]; done))
    have hP : va_P g.1 vwCl (wM g a (Mpair row con m9)) H := by rw [e2]; exact hP
    have hD : va_D A (wM g a (Mpair row con m9)) := by rw [e2]; exact hD
    exact k_iret hx hb hr hlocks rfl (by first | (simp only [Mpair, MlisR, bI, if_neg c1, if_pos c1]; done) | (simp only [Mpair, MlisR, bI, if_neg c1, if_pos c1]; rfl) | rfl | (simp [Mpair, MlisR, bI, if_neg c1, if_pos c1]; done)) hP hD hS (Nat.le_of_ble_eq_true rfl) (Nat.le_of_ble_eq_true rfl) dX4_listeners_34
  ·
    obtain ⟨r9, hr9, hre⟩ := in_nat (by decide) (by decide) c1.1
    obtain ⟨c9, hc9, hce⟩ := in_nat (by decide) (by decide) c1.2
    have hpl : plM row con = 6 * r9 + c9 := plM_eq hr9.2 hc9.2 hre hce
    refine lv_aload_n hx hb dX4_listeners_13 rfl (lv_at hl 0 rfl) ?_
    refine va_get (D := g.1) (ci := 4) (v := .ref (a 1)) (C := RX4) (T := TX4) (N := 12) hx hb hts hiX4 hown hE.1 hP 0 rfl rfl 1 (by decide) f7 (fun _ h9 => h9) rfl dX4_listeners_14 ?_
    refine lv_bipush (v := (nI 21)) hx hb dX4_listeners_17 (by decide) ?_
    refine lv_iload_n hx hb dX4_listeners_19 rfl (lv_at hl 1 rfl) ?_
    refine k_top hre ?_
    refine lv_iload_n hx hb dX4_listeners_20 rfl (lv_at hl 2 rfl) ?_
    refine k_top hce ?_
    refine k_Si (w0 := []) (w1 := []) (As := [.int (nI r9), .int (nI c9)]) (r := (nI (6 * r9 + c9))) hF (c_X4_cellOf l g r9 c9) (va_cwS 2 hts gX4_listeners_X4_cellOf rfl rfl rfl (by decide +kernel) ⟨Nat.le_of_ble_eq_true rfl, Nat.le_of_ble_eq_true rfl⟩) hE hP hD hS hA (List.Perm.refl _) (List.Perm.refl _) rfl hl.1 rfl (Nat.le_of_ble_eq_true rfl) dX4_listeners_21 ⟨Nat.le_of_ble_eq_true rfl, Nat.le_of_ble_eq_true rfl⟩ (fun H locs hP hD hS => ?_)
    have hP : va_P g.1 vwCl (wM g a (sMth m9 (nI 0))) _ := hP
    have hD : va_D A (wM g a (sMth m9 (nI 0))) := hD
    refine lv_iadd hx hb dX4_listeners_24 ?_
    refine k_top (nI_add _ _) ?_
    refine k_iald (f := (ms m9)) hx hb hE hP 1 rfl (21 + (6 * r9 + c9)) rfl (by omega) (by decide) dX4_listeners_25 ?_
    refine lv_goto (tgt := 34) hx hb dX4_listeners_26 (by decide) ?_
    have e3 : (Mpair row con m9) = (sMth m9 (nI 0)) := (by first | (simp only [Mpair, MlisR, if_pos c1, if_neg (not_not_intro c1), hpl]; done) | (simp only [Mpair, MlisR, if_pos c1, if_neg (not_not_intro c1), hpl]; rfl) | rfl | (simp [Mpair, MlisR, if_pos c1, if_neg (not_not_intro c1), hpl]; done))
    have hP : va_P g.1 vwCl (wM g a (Mpair row con m9)) H := by rw [e3]; exact hP
    have hD : va_D A (wM g a (Mpair row con m9)) := by rw [e3]; exact hD
    exact k_iret hx hb hr hlocks rfl (by first | (simp only [Mpair, MlisR, bI, if_pos c1, if_neg (not_not_intro c1), hpl]; done) | (simp only [Mpair, MlisR, bI, if_pos c1, if_neg (not_not_intro c1), hpl]; rfl) | rfl | (simp [Mpair, MlisR, bI, if_pos c1, if_neg (not_not_intro c1), hpl]; done)) hP hD hS (Nat.le_of_ble_eq_true rfl) (Nat.le_of_ble_eq_true rfl) dX4_listeners_34
set_option maxHeartbeats 4000000 in
set_option maxRecDepth 100000 in
theorem c_X4_rest (l : Launch) (g : kG) (a : Nat → Nat) (m9 : MSt) (j : Nat) (hj : j ≤ 6) (hjm : msm m9 = nI j) (row con : Int32) : KI l yX4_rest wsX4_rest ({ frames := 2, cells := 0, slots := 0, locals := 43 }) g [.ref (a 0), .int row, .int con] (wM g a m9) (MrestR row con m9) (wM g a (Mpair row con m9)) 0 0 := by
  refine k_begin (cc := cX4_rest) (maxL := 3) (ret := (some .int)) (Qc := fun A => kQi g (MrestR row con m9) (wM g a (Mpair row con m9)) A) (by decide) rfl (Nat.le_of_ble_eq_true rfl) ?_
  intro p e s m below meth c A ls hF hr hlocks hin hE hP hD hS hA hl
  obtain ⟨hx, hb, hml, hown, hts⟩ := id hF
  have hown : s.vm.findClass RX4 = some m.cls := hown
  have hl : lv_has ls 3 [(0, .ref (a 0)), (1, .int row), (2, .int con)] := hl
  have hiX4 : ∀ w ∈ wsX40, w ∈ wsX4_rest := fun _ h => List.mem_cons_of_mem _ (List.mem_append_right _ (h))
  have f25 : (Cond.fieldLink RX4 25 "ConcertUsherModel" "thrown" "I").before _ s = true := hts _ (List.mem_of_getElem? (i := 1) rfl)
  have f7 : (Cond.fieldLink RX4 7 "ConcertUsherModel" "s" "[I").before _ s = true := hts _ (List.mem_of_getElem? (i := 2) rfl)
  refine lv_aload_n hx hb dX4_rest_0 rfl (lv_at hl 0 rfl) ?_
  refine lv_iconst (v := (nI 0)) hx hb dX4_rest_1 (by decide) ?_
  refine va_put (D := g.1) (ci := 4) (v := .int (nI 0)) (ty := .int) (C := RX4) (T := TX4) (N := 12) hx hb hts hiX4 tyX4 tyX4_ok nmX4 hown hE.1 hP hD hS 0 rfl rfl 0 (by decide) f25 (fun _ h9 => h9) rfl (tyX4_ok 0 (by decide)) rfl rfl (Nat.le_of_ble_eq_true rfl) dX4_rest_2 (fun H locs hP hD hS => ?_)
  have hP : va_P g.1 vwCl (wM g a (sMth m9 (nI 0))) _ := hP
  have hD : va_D A (wM g a (sMth m9 (nI 0))) := hD
  refine lv_iload_n hx hb dX4_rest_5 rfl (lv_at hl 1 rfl) ?_
  refine lv_iload_n hx hb dX4_rest_6 rfl (lv_at hl 2 rfl) ?_
  refine k_Si (w0 := []) (w1 := []) (As := [.int row, .int con]) (r := (bI (pairOK row con))) hF (c_X4_isPair l g row con) (va_cwS 2 hts gX4_rest_X4_isPair rfl rfl rfl (by decide +kernel) ⟨Nat.le_of_ble_eq_true rfl, Nat.le_of_ble_eq_true rfl⟩) hE hP hD hS hA (List.Perm.refl _) (List.Perm.refl _) rfl hl.1 rfl (Nat.le_of_ble_eq_true rfl) dX4_rest_7 ⟨Nat.le_of_ble_eq_true rfl, Nat.le_of_ble_eq_true rfl⟩ (fun H locs hP hD hS => ?_)
  have hP : va_P g.1 vwCl (wM g a (sMth m9 (nI 0))) _ := hP
  have hD : va_D A (wM g a (sMth m9 (nI 0))) := hD
  refine k_ifeqB (tgt := 29) hx hb dX4_rest_10 (by decide) (fun c1 => ?_) (fun c1 => ?_)
  ·
    refine lv_aload_n hx hb dX4_rest_29 rfl (lv_at hl 0 rfl) ?_
    refine lv_iconst (v := (nI 1)) hx hb dX4_rest_30 (by decide) ?_
    refine k_Vi (As := [.int (nI 1)]) (r := (nI 0)) hF (c_X4_fails l g a (sMth m9 (nI 0)) (nI 1)) (cwV 1 hts gX4_rest_X4_fails rfl rfl rfl (by decide +kernel) ⟨Nat.le_of_ble_eq_true rfl, Nat.le_of_ble_eq_true rfl⟩) hE hP hD hS hA (k_pall _) ((k_pall _).symm) 0 rfl rfl rfl rfl hl.1 rfl (Nat.le_of_ble_eq_true rfl) dX4_rest_31 ⟨Nat.le_of_ble_eq_true rfl, Nat.le_of_ble_eq_true rfl⟩ (fun H locs hP hD hS => ?_)
    have hP : va_P g.1 vwCl (wM g a (sMth m9 (nI 1))) _ := hP
    have hD : va_D A (wM g a (sMth m9 (nI 1))) := hD
    have e2 : (Mpair row con m9) = (sMth m9 (nI 1)) := (by first | (simp only [Mpair, MrestR, if_neg c1, if_pos c1]; done) | (simp only [Mpair, MrestR, if_neg c1, if_pos c1]; rfl) | rfl | (simp [Mpair, MrestR, if_neg c1, if_pos c1]; done))
    have hP : va_P g.1 vwCl (wM g a (Mpair row con m9)) H := by rw [e2]; exact hP
    have hD : va_D A (wM g a (Mpair row con m9)) := by rw [e2]; exact hD
    exact k_iret hx hb hr hlocks rfl (by first | (simp only [Mpair, MrestR, bI, if_neg c1, if_pos c1]; done) | (simp only [Mpair, MrestR, bI, if_neg c1, if_pos c1]; rfl) | rfl | (simp [Mpair, MrestR, bI, if_neg c1, if_pos c1]; done)) hP hD hS (Nat.le_of_ble_eq_true rfl) (Nat.le_of_ble_eq_true rfl) dX4_rest_34
  ·
    obtain ⟨r9, hr9, hre⟩ := in_nat (by decide) (by decide) c1.1
    obtain ⟨c9, hc9, hce⟩ := in_nat (by decide) (by decide) c1.2
    have hpl : plM row con = 6 * r9 + c9 := plM_eq hr9.2 hc9.2 hre hce
    refine lv_aload_n hx hb dX4_rest_13 rfl (lv_at hl 0 rfl) ?_
    refine va_get (D := g.1) (ci := 4) (v := .ref (a 1)) (C := RX4) (T := TX4) (N := 12) hx hb hts hiX4 hown hE.1 hP 0 rfl rfl 1 (by decide) f7 (fun _ h9 => h9) rfl dX4_rest_14 ?_
    refine lv_bipush (v := (nI 69)) hx hb dX4_rest_17 (by decide) ?_
    refine lv_iload_n hx hb dX4_rest_19 rfl (lv_at hl 1 rfl) ?_
    refine k_top hre ?_
    refine lv_iload_n hx hb dX4_rest_20 rfl (lv_at hl 2 rfl) ?_
    refine k_top hce ?_
    refine k_Si (w0 := []) (w1 := []) (As := [.int (nI r9), .int (nI c9)]) (r := (nI (6 * r9 + c9))) hF (c_X4_cellOf l g r9 c9) (va_cwS 2 hts gX4_rest_X4_cellOf rfl rfl rfl (by decide +kernel) ⟨Nat.le_of_ble_eq_true rfl, Nat.le_of_ble_eq_true rfl⟩) hE hP hD hS hA (List.Perm.refl _) (List.Perm.refl _) rfl hl.1 rfl (Nat.le_of_ble_eq_true rfl) dX4_rest_21 ⟨Nat.le_of_ble_eq_true rfl, Nat.le_of_ble_eq_true rfl⟩ (fun H locs hP hD hS => ?_)
    have hP : va_P g.1 vwCl (wM g a (sMth m9 (nI 0))) _ := hP
    have hD : va_D A (wM g a (sMth m9 (nI 0))) := hD
    refine lv_iadd hx hb dX4_rest_24 ?_
    refine k_top (nI_add _ _) ?_
    refine k_iald (f := (ms m9)) hx hb hE hP 1 rfl (69 + (6 * r9 + c9)) rfl (by omega) (by decide) dX4_rest_25 ?_
    refine lv_goto (tgt := 34) hx hb dX4_rest_26 (by decide) ?_
    have e3 : (Mpair row con m9) = (sMth m9 (nI 0)) := (by first | (simp only [Mpair, MrestR, if_pos c1, if_neg (not_not_intro c1), hpl]; done) | (simp only [Mpair, MrestR, if_pos c1, if_neg (not_not_intro c1), hpl]; rfl) | rfl | (simp [Mpair, MrestR, if_pos c1, if_neg (not_not_intro c1), hpl]; done))
    have hP : va_P g.1 vwCl (wM g a (Mpair row con m9)) H := by rw [e3]; exact hP
    have hD : va_D A (wM g a (Mpair row con m9)) := by rw [e3]; exact hD
    exact k_iret hx hb hr hlocks rfl (by first | (simp only [Mpair, MrestR, bI, if_pos c1, if_neg (not_not_intro c1), hpl]; done) | (simp only [Mpair, MrestR, bI, if_pos c1, if_neg (not_not_intro c1), hpl]; rfl) | rfl | (simp [Mpair, MrestR, bI, if_pos c1, if_neg (not_not_intro c1), hpl]; done)) hP hD hS (Nat.le_of_ble_eq_true rfl) (Nat.le_of_ble_eq_true rfl) dX4_rest_34
