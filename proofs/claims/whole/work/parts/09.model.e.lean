set_option maxHeartbeats 4000000 in
set_option maxRecDepth 100000 in
theorem c_X4_setOpen (l : Launch) (g : kG) (a : Nat → Nat) (m9 : MSt) (j : Nat) (hj : j ≤ 6) (hjm : msm m9 = nI j) (row : Int32) (b : Nat) (hb2 : b < 2) : KI l yX4_setOpen wsX4_setOpen ({ frames := 1, cells := 0, slots := 0, locals := 22 }) g [.ref (a 0), .int row, .int (nI b)] (wM g a m9) (MopenR row m9) (wM g a (MopenS j row b m9)) 0 0 := by
  refine k_begin (cc := cX4_setOpen) (maxL := 4) (ret := (some .boolean)) (Qc := fun A => kQi g (MopenR row m9) (wM g a (MopenS j row b m9)) A) (by decide) rfl (Nat.le_of_ble_eq_true rfl) ?_
  intro p e s m below meth c A ls hF hr hlocks hin hE hP hD hS hA hl
  obtain ⟨hx, hb, hml, hown, hts⟩ := id hF
  have hown : s.vm.findClass RX4 = some m.cls := hown
  have hl : lv_has ls 4 [(0, .ref (a 0)), (1, .int row), (2, .int (nI b))] := hl
  have hiX4 : ∀ w ∈ wsX40, w ∈ wsX4_setOpen := fun _ h => List.mem_cons_of_mem _ (List.mem_append_right _ (h))
  have f25 : (Cond.fieldLink RX4 25 "ConcertUsherModel" "thrown" "I").before _ s = true := hts _ (List.mem_of_getElem? (i := 1) rfl)
  have f7 : (Cond.fieldLink RX4 7 "ConcertUsherModel" "s" "[I").before _ s = true := hts _ (List.mem_of_getElem? (i := 2) rfl)
  refine lv_aload_n hx hb dX4_setOpen_0 rfl (lv_at hl 0 rfl) ?_
  refine lv_iconst (v := (nI 0)) hx hb dX4_setOpen_1 (by decide) ?_
  refine va_put (D := g.1) (ci := 4) (v := .int (nI 0)) (ty := .int) (C := RX4) (T := TX4) (N := 12) hx hb hts hiX4 tyX4 tyX4_ok nmX4 hown hE.1 hP hD hS 0 rfl rfl 0 (by decide) f25 (fun _ h9 => h9) rfl (tyX4_ok 0 (by decide)) rfl rfl (Nat.le_of_ble_eq_true rfl) dX4_setOpen_2 (fun H locs hP hD hS => ?_)
  have hP : va_P g.1 vwCl (wM g a (sMth m9 (nI 0))) _ := hP
  have hD : va_D A (wM g a (sMth m9 (nI 0))) := hD
  refine lv_iload_n hx hb dX4_setOpen_5 rfl (lv_at hl 1 rfl) ?_
  refine lv_iconst (v := (nI 0)) hx hb dX4_setOpen_6 (by decide) ?_
  refine lv_bipush (v := (nI 7)) hx hb dX4_setOpen_7 (by decide) ?_
  refine k_Si (w0 := []) (w1 := []) (As := [.int row, .int (nI 0), .int (nI 7)]) (r := (bI ((nI 0) ≤ row ∧ row ≤ (nI 7)))) hF (c_X4_in l g row (nI 0) (nI 7)) (va_cwS 3 hts gX4_setOpen_X4_in rfl rfl rfl (by decide +kernel) ⟨Nat.le_of_ble_eq_true rfl, Nat.le_of_ble_eq_true rfl⟩) hE hP hD hS hA (List.Perm.refl _) (List.Perm.refl _) rfl hl.1 rfl (Nat.le_of_ble_eq_true rfl) dX4_setOpen_9 ⟨Nat.le_of_ble_eq_true rfl, Nat.le_of_ble_eq_true rfl⟩ (fun H locs hP hD hS => ?_)
  have hP : va_P g.1 vwCl (wM g a (sMth m9 (nI 0))) _ := hP
  have hD : va_D A (wM g a (sMth m9 (nI 0))) := hD
  refine k_ifneB (tgt := 29) hx hb dX4_setOpen_12 (by decide) (fun c1 => ?_) (fun c1 => ?_)
  ·
    obtain ⟨r9, hr9, hr9e⟩ := in_nat (by decide) (by decide) c1
    have hr9c : row.toNatClampNeg = r9 := cl_eq hr9e (by omega)
    refine lv_aload_n hx hb dX4_setOpen_29 rfl (lv_at hl 0 rfl) ?_
    refine k_Vv (As := []) hF (c_X4_saves l g a (sMth m9 (nI 0)) j (by omega) hjm) (cwV 0 hts gX4_setOpen_X4_saves rfl rfl rfl (by decide +kernel) ⟨Nat.le_of_ble_eq_true rfl, Nat.le_of_ble_eq_true rfl⟩) hE hP hD hS hA (k_pall _) ((k_pall _).symm) 0 rfl rfl rfl rfl hl.1 rfl (Nat.le_of_ble_eq_true rfl) dX4_setOpen_30 ⟨Nat.le_of_ble_eq_true rfl, Nat.le_of_ble_eq_true rfl⟩ (fun H locs hP hD hS => ?_)
    have hP : va_P g.1 vwCl (wM g a (sMsm (sMsv (sMth m9 (nI 0)) (Msv (ms m9) (msv m9) j)) (nI (kSz j)))) _ := hP
    have hD : va_D A (wM g a (sMsm (sMsv (sMth m9 (nI 0)) (Msv (ms m9) (msv m9) j)) (nI (kSz j)))) := hD
    refine lv_aload_n hx hb dX4_setOpen_33 rfl (lv_at hl 0 rfl) ?_
    refine va_get (D := g.1) (ci := 4) (v := .ref (a 1)) (C := RX4) (T := TX4) (N := 12) hx hb hts hiX4 hown hE.1 hP 0 rfl rfl 1 (by decide) f7 (fun _ h9 => h9) rfl dX4_setOpen_34 ?_
    refine lv_bipush (v := (nI 13)) hx hb dX4_setOpen_37 (by decide) ?_
    refine lv_iload_n hx hb dX4_setOpen_39 rfl (lv_at hl 1 rfl) ?_
    refine k_top hr9e ?_
    refine lv_iadd hx hb dX4_setOpen_40 ?_
    refine k_top (nI_add _ _) ?_
    refine k_iald (f := (ms m9)) hx hb hE hP 1 rfl (13 + r9) rfl (by omega) (by decide) dX4_setOpen_41 ?_
    refine lv_iconst (v := (nI 1)) hx hb dX4_setOpen_42 (by decide) ?_
    refine k_meet (x := .int (bI (((ms m9) (13 + r9)) = nI 1))) (pj := 51) (rest := []) (fun J2 => ?_) ?_
    ·
      refine lv_icmp_ne (tgt := 50) hx hb dX4_setOpen_43 (by decide) (fun c3 => ?_) (fun c3 => ?_)
      ·
        refine lv_iconst (v := (nI 0)) hx hb dX4_setOpen_50 (by decide) ?_
        exact k_top (by first | (simp only [MopenS, MopenR, bI, if_pos c1, if_neg (not_not_intro c1), if_neg c3, if_pos c3, hr9c]; done) | (simp only [MopenS, MopenR, bI, if_pos c1, if_neg (not_not_intro c1), if_neg c3, if_pos c3, hr9c]; rfl) | rfl | (simp [MopenS, MopenR, bI, if_pos c1, if_neg (not_not_intro c1), if_neg c3, if_pos c3, hr9c]; done)) J2
      ·
        refine lv_iconst (v := (nI 1)) hx hb dX4_setOpen_46 (by decide) ?_
        refine lv_goto (tgt := 51) hx hb dX4_setOpen_47 (by decide) ?_
        exact k_top (by first | (simp only [MopenS, MopenR, bI, if_pos c1, if_neg (not_not_intro c1), if_pos c3, if_neg (not_not_intro c3), hr9c]; done) | (simp only [MopenS, MopenR, bI, if_pos c1, if_neg (not_not_intro c1), if_pos c3, if_neg (not_not_intro c3), hr9c]; rfl) | rfl | (simp [MopenS, MopenR, bI, if_pos c1, if_neg (not_not_intro c1), if_pos c3, if_neg (not_not_intro c3), hr9c]; done)) J2
    ·
      refine lv_istore_n (lv' := [(3, .int (bI (((ms m9) (13 + r9)) = nI 1))), (0, .ref (a 0)), (1, .int row), (2, .int (nI b))]) hx hb dX4_setOpen_51 rfl hl (by decide) rfl (fun ls hl => ?_)
      refine lv_aload_n hx hb dX4_setOpen_52 rfl (lv_at hl 1 rfl) ?_
      refine va_get (D := g.1) (ci := 4) (v := .ref (a 1)) (C := RX4) (T := TX4) (N := 12) hx hb hts hiX4 hown hE.1 hP 0 rfl rfl 1 (by decide) f7 (fun _ h9 => h9) rfl dX4_setOpen_53 ?_
      refine lv_bipush (v := (nI 13)) hx hb dX4_setOpen_56 (by decide) ?_
      refine lv_iload_n hx hb dX4_setOpen_58 rfl (lv_at hl 2 rfl) ?_
      refine k_top hr9e ?_
      refine lv_iadd hx hb dX4_setOpen_59 ?_
      refine k_top (nI_add _ _) ?_
      refine lv_iload_n hx hb dX4_setOpen_60 rfl (lv_at hl 3 rfl) ?_
      refine k_meet (x := .int (nI b)) (pj := 69) (rest := [.int (nI (13 + r9)), .ref (a 1)]) (fun J4 => ?_) ?_
      ·
        refine k_if0 (tgt := 68) hx hb (by omega) dX4_setOpen_61 (by decide) (fun c5 => ?_) (fun c5 => ?_)
        ·
          refine lv_iconst (v := (nI 0)) hx hb dX4_setOpen_68 (by decide) ?_
          exact k_top (by first | rfl | exact congrArg nI (by omega) | exact (by first | (simp only [MopenS, MopenR, bI, if_pos c1, if_neg (not_not_intro c1), if_pos c5, if_neg (not_not_intro c5), hr9c]; done) | (simp only [MopenS, MopenR, bI, if_pos c1, if_neg (not_not_intro c1), if_pos c5, if_neg (not_not_intro c5), hr9c]; rfl) | rfl | (simp [MopenS, MopenR, bI, if_pos c1, if_neg (not_not_intro c1), if_pos c5, if_neg (not_not_intro c5), hr9c]; done))) J4
        ·
          refine lv_iconst (v := (nI 1)) hx hb dX4_setOpen_64 (by decide) ?_
          refine lv_goto (tgt := 69) hx hb dX4_setOpen_65 (by decide) ?_
          exact k_top (by first | rfl | exact congrArg nI (by omega) | exact (by first | (simp only [MopenS, MopenR, bI, if_pos c1, if_neg (not_not_intro c1), if_neg c5, if_pos c5, hr9c]; done) | (simp only [MopenS, MopenR, bI, if_pos c1, if_neg (not_not_intro c1), if_neg c5, if_pos c5, hr9c]; rfl) | rfl | (simp [MopenS, MopenR, bI, if_pos c1, if_neg (not_not_intro c1), if_neg c5, if_pos c5, hr9c]; done))) J4
      ·
        refine k_iast (f := (ms m9)) (ws1 := (wM g a (sMs (sMsm (sMsv (sMth m9 (nI 0)) (Msv (ms m9) (msv m9) j)) (nI (kSz j))) (upd (ms m9) (13 + r9) (nI b))))) hx hb hE hP hD hS 1 rfl (13 + r9) rfl (by omega) (by decide) rfl dX4_setOpen_69 (fun H locs hP hD hS => ?_)
        refine lv_iload_n hx hb dX4_setOpen_70 rfl (lv_at hl 0 rfl) ?_
        have e6 : (MopenS j row b m9) = (sMs (sMsm (sMsv (sMth m9 (nI 0)) (Msv (ms m9) (msv m9) j)) (nI (kSz j))) (upd (ms m9) (13 + r9) (nI b))) := (by first | (simp only [MopenS, MopenR, if_pos c1, if_neg (not_not_intro c1), hr9c]; done) | (simp only [MopenS, MopenR, if_pos c1, if_neg (not_not_intro c1), hr9c]; rfl) | rfl | (simp [MopenS, MopenR, if_pos c1, if_neg (not_not_intro c1), hr9c]; done))
        have hP : va_P g.1 vwCl (wM g a (MopenS j row b m9)) H := by rw [e6]; exact hP
        have hD : va_D A (wM g a (MopenS j row b m9)) := by rw [e6]; exact hD
        exact k_iret hx hb hr hlocks bI_nar (by first | (simp only [MopenS, MopenR, bI, if_pos c1, if_neg (not_not_intro c1), hr9c]; done) | (simp only [MopenS, MopenR, bI, if_pos c1, if_neg (not_not_intro c1), hr9c]; rfl) | rfl | (simp [MopenS, MopenR, bI, if_pos c1, if_neg (not_not_intro c1), hr9c]; done)) hP hD hS (Nat.le_of_ble_eq_true rfl) (Nat.le_of_ble_eq_true rfl) dX4_setOpen_71
  ·
    refine lv_aload_n hx hb dX4_setOpen_15 rfl (lv_at hl 0 rfl) ?_
    refine lv_iconst (v := (nI 1)) hx hb dX4_setOpen_16 (by decide) ?_
    refine k_Vi (As := [.int (nI 1)]) (r := (nI 0)) hF (c_X4_fails l g a (sMth m9 (nI 0)) (nI 1)) (cwV 1 hts gX4_setOpen_X4_fails rfl rfl rfl (by decide +kernel) ⟨Nat.le_of_ble_eq_true rfl, Nat.le_of_ble_eq_true rfl⟩) hE hP hD hS hA (k_pall _) ((k_pall _).symm) 0 rfl rfl rfl rfl hl.1 rfl (Nat.le_of_ble_eq_true rfl) dX4_setOpen_17 ⟨Nat.le_of_ble_eq_true rfl, Nat.le_of_ble_eq_true rfl⟩ (fun H locs hP hD hS => ?_)
    have hP : va_P g.1 vwCl (wM g a (sMth m9 (nI 1))) _ := hP
    have hD : va_D A (wM g a (sMth m9 (nI 1))) := hD
    refine lv_if_le (tgt := 27) hx hb dX4_setOpen_20 (by decide) (fun c7 => ?_) (fun c7 => ?_)
    ·
      refine lv_iconst (v := (nI 0)) hx hb dX4_setOpen_27 (by decide) ?_
      have e8 : (MopenS j row b m9) = (sMth m9 (nI 1)) := (by first | (simp only [MopenS, MopenR, if_neg c1, if_pos c1, if_pos c7, if_neg (not_not_intro c7)]; done) | (simp only [MopenS, MopenR, if_neg c1, if_pos c1, if_pos c7, if_neg (not_not_intro c7)]; rfl) | rfl | (simp [MopenS, MopenR, if_neg c1, if_pos c1, if_pos c7, if_neg (not_not_intro c7)]; done))
      have hP : va_P g.1 vwCl (wM g a (MopenS j row b m9)) H := by rw [e8]; exact hP
      have hD : va_D A (wM g a (MopenS j row b m9)) := by rw [e8]; exact hD
      exact k_iret hx hb hr hlocks rfl (by first | (simp only [MopenS, MopenR, bI, if_neg c1, if_pos c1, if_pos c7, if_neg (not_not_intro c7)]; done) | (simp only [MopenS, MopenR, bI, if_neg c1, if_pos c1, if_pos c7, if_neg (not_not_intro c7)]; rfl) | rfl | (simp [MopenS, MopenR, bI, if_neg c1, if_pos c1, if_pos c7, if_neg (not_not_intro c7)]; done)) hP hD hS (Nat.le_of_ble_eq_true rfl) (Nat.le_of_ble_eq_true rfl) dX4_setOpen_28
    ·
      exact absurd (by decide) c7
set_option maxHeartbeats 4000000 in
set_option maxRecDepth 100000 in
theorem c_X4_chiefNow (l : Launch) (g : kG) (a : Nat → Nat) (m9 : MSt) : KI l yX4_chiefNow wsX4_chiefNow ({ frames := 0, cells := 0, slots := 0, locals := 0 }) g [.ref (a 0)] (wM g a m9) (Mchief (ms m9)) (wM g a m9) 0 0 := by
  refine k_begin (cc := cX4_chiefNow) (maxL := 1) (ret := (some .int)) (Qc := fun A => kQi g (Mchief (ms m9)) (wM g a m9) A) (by decide) rfl (Nat.le_of_ble_eq_true rfl) ?_
  intro p e s m below meth c A ls hF hr hlocks hin hE hP hD hS hA hl
  obtain ⟨hx, hb, hml, hown, hts⟩ := id hF
  have hown : s.vm.findClass RX4 = some m.cls := hown
  have hl : lv_has ls 1 [(0, .ref (a 0))] := hl
  have hiX4 : ∀ w ∈ wsX40, w ∈ wsX4_chiefNow := fun _ h => List.mem_cons_of_mem _ (List.mem_append_right _ (h))
  have f7 : (Cond.fieldLink RX4 7 "ConcertUsherModel" "s" "[I").before _ s = true := hts _ (List.mem_of_getElem? (i := 1) rfl)
  refine lv_aload_n hx hb dX4_chiefNow_0 rfl (lv_at hl 0 rfl) ?_
  refine va_get (D := g.1) (ci := 4) (v := .ref (a 1)) (C := RX4) (T := TX4) (N := 12) hx hb hts hiX4 hown hE.1 hP 0 rfl rfl 1 (by decide) f7 (fun _ h9 => h9) rfl dX4_chiefNow_1 ?_
  refine lv_iconst (v := (nI 4)) hx hb dX4_chiefNow_4 (by decide) ?_
  refine k_iald (f := (ms m9)) hx hb hE hP 1 rfl 4 rfl (by decide) (by decide) dX4_chiefNow_5 ?_
  refine lv_iconst (v := (nI 3)) hx hb dX4_chiefNow_6 (by decide) ?_
  refine lv_icmp_le (tgt := 14) hx hb dX4_chiefNow_7 (by decide) (fun c1 => ?_) (fun c1 => ?_)
  ·
    refine lv_aload_n hx hb dX4_chiefNow_14 rfl (lv_at hl 0 rfl) ?_
    refine va_get (D := g.1) (ci := 4) (v := .ref (a 1)) (C := RX4) (T := TX4) (N := 12) hx hb hts hiX4 hown hE.1 hP 0 rfl rfl 1 (by decide) f7 (fun _ h9 => h9) rfl dX4_chiefNow_15 ?_
    refine lv_iconst (v := (nI 4)) hx hb dX4_chiefNow_18 (by decide) ?_
    refine k_iald (f := (ms m9)) hx hb hE hP 1 rfl 4 rfl (by decide) (by decide) dX4_chiefNow_19 ?_
    refine lv_iconst (v := (nI 1)) hx hb dX4_chiefNow_20 (by decide) ?_
    refine lv_icmp_le (tgt := 28) hx hb dX4_chiefNow_21 (by decide) (fun c2 => ?_) (fun c2 => ?_)
    ·
      refine lv_iconst (v := (nI 0)) hx hb dX4_chiefNow_28 (by decide) ?_
      have hP : va_P g.1 vwCl (wM g a m9) _ := hP
      have hD : va_D A (wM g a m9) := hD
      exact k_iret hx hb hr hlocks rfl (by first | (simp only [Mchief, bI, if_pos c1, if_neg (not_not_intro c1), if_pos c2, if_neg (not_not_intro c2)]; done) | (simp only [Mchief, bI, if_pos c1, if_neg (not_not_intro c1), if_pos c2, if_neg (not_not_intro c2)]; rfl) | rfl | (simp [Mchief, bI, if_pos c1, if_neg (not_not_intro c1), if_pos c2, if_neg (not_not_intro c2)]; done)) hP hD hS (Nat.le_of_ble_eq_true rfl) (Nat.le_of_ble_eq_true rfl) dX4_chiefNow_29
    ·
      refine lv_iconst (v := (nI 1)) hx hb dX4_chiefNow_24 (by decide) ?_
      refine lv_goto (tgt := 29) hx hb dX4_chiefNow_25 (by decide) ?_
      have hP : va_P g.1 vwCl (wM g a m9) _ := hP
      have hD : va_D A (wM g a m9) := hD
      exact k_iret hx hb hr hlocks rfl (by first | (simp only [Mchief, bI, if_pos c1, if_neg (not_not_intro c1), if_neg c2, if_pos c2]; done) | (simp only [Mchief, bI, if_pos c1, if_neg (not_not_intro c1), if_neg c2, if_pos c2]; rfl) | rfl | (simp [Mchief, bI, if_pos c1, if_neg (not_not_intro c1), if_neg c2, if_pos c2]; done)) hP hD hS (Nat.le_of_ble_eq_true rfl) (Nat.le_of_ble_eq_true rfl) dX4_chiefNow_29
  ·
    refine lv_iconst (v := (nI 2)) hx hb dX4_chiefNow_10 (by decide) ?_
    refine lv_goto (tgt := 29) hx hb dX4_chiefNow_11 (by decide) ?_
    have hP : va_P g.1 vwCl (wM g a m9) _ := hP
    have hD : va_D A (wM g a m9) := hD
    exact k_iret hx hb hr hlocks rfl (by first | (simp only [Mchief, bI, if_neg c1, if_pos c1]; done) | (simp only [Mchief, bI, if_neg c1, if_pos c1]; rfl) | rfl | (simp [Mchief, bI, if_neg c1, if_pos c1]; done)) hP hD hS (Nat.le_of_ble_eq_true rfl) (Nat.le_of_ble_eq_true rfl) dX4_chiefNow_29
set_option maxHeartbeats 4000000 in
set_option maxRecDepth 100000 in
theorem c_X4_setQuick (l : Launch) (g : kG) (a : Nat → Nat) (m9 : MSt) (j : Nat) (hj : j ≤ 6) (hjm : msm m9 = nI j) (b : Nat) (hb2 : b < 2) : KI l yX4_setQuick wsX4_setQuick ({ frames := 1, cells := 0, slots := 0, locals := 21 }) g [.ref (a 0), .int (nI b)] (wM g a m9) (bI (ms m9 3 = nI 1)) (wM g a (sMs (Mkeep j (sMth m9 (nI 0))) (upd (ms m9) 3 (nI b)))) 0 0 := by
  refine k_begin (cc := cX4_setQuick) (maxL := 3) (ret := (some .boolean)) (Qc := fun A => kQi g (bI (ms m9 3 = nI 1)) (wM g a (sMs (Mkeep j (sMth m9 (nI 0))) (upd (ms m9) 3 (nI b)))) A) (by decide) rfl (Nat.le_of_ble_eq_true rfl) ?_
  intro p e s m below meth c A ls hF hr hlocks hin hE hP hD hS hA hl
  obtain ⟨hx, hb, hml, hown, hts⟩ := id hF
  have hown : s.vm.findClass RX4 = some m.cls := hown
  have hl : lv_has ls 3 [(0, .ref (a 0)), (1, .int (nI b))] := hl
  have hiX4 : ∀ w ∈ wsX40, w ∈ wsX4_setQuick := fun _ h => List.mem_cons_of_mem _ (List.mem_append_right _ (h))
  have f25 : (Cond.fieldLink RX4 25 "ConcertUsherModel" "thrown" "I").before _ s = true := hts _ (List.mem_of_getElem? (i := 1) rfl)
  have f7 : (Cond.fieldLink RX4 7 "ConcertUsherModel" "s" "[I").before _ s = true := hts _ (List.mem_of_getElem? (i := 2) rfl)
  refine lv_aload_n hx hb dX4_setQuick_0 rfl (lv_at hl 0 rfl) ?_
  refine lv_iconst (v := (nI 0)) hx hb dX4_setQuick_1 (by decide) ?_
  refine va_put (D := g.1) (ci := 4) (v := .int (nI 0)) (ty := .int) (C := RX4) (T := TX4) (N := 12) hx hb hts hiX4 tyX4 tyX4_ok nmX4 hown hE.1 hP hD hS 0 rfl rfl 0 (by decide) f25 (fun _ h9 => h9) rfl (tyX4_ok 0 (by decide)) rfl rfl (Nat.le_of_ble_eq_true rfl) dX4_setQuick_2 (fun H locs hP hD hS => ?_)
  have hP : va_P g.1 vwCl (wM g a (sMth m9 (nI 0))) _ := hP
  have hD : va_D A (wM g a (sMth m9 (nI 0))) := hD
  refine lv_aload_n hx hb dX4_setQuick_5 rfl (lv_at hl 0 rfl) ?_
  refine k_Vv (As := []) hF (c_X4_saves l g a (sMth m9 (nI 0)) j (by omega) hjm) (cwV 0 hts gX4_setQuick_X4_saves rfl rfl rfl (by decide +kernel) ⟨Nat.le_of_ble_eq_true rfl, Nat.le_of_ble_eq_true rfl⟩) hE hP hD hS hA (k_pall _) ((k_pall _).symm) 0 rfl rfl rfl rfl hl.1 rfl (Nat.le_of_ble_eq_true rfl) dX4_setQuick_6 ⟨Nat.le_of_ble_eq_true rfl, Nat.le_of_ble_eq_true rfl⟩ (fun H locs hP hD hS => ?_)
  have hP : va_P g.1 vwCl (wM g a (sMsm (sMsv (sMth m9 (nI 0)) (Msv (ms m9) (msv m9) j)) (nI (kSz j)))) _ := hP
  have hD : va_D A (wM g a (sMsm (sMsv (sMth m9 (nI 0)) (Msv (ms m9) (msv m9) j)) (nI (kSz j)))) := hD
  refine lv_aload_n hx hb dX4_setQuick_9 rfl (lv_at hl 0 rfl) ?_
  refine va_get (D := g.1) (ci := 4) (v := .ref (a 1)) (C := RX4) (T := TX4) (N := 12) hx hb hts hiX4 hown hE.1 hP 0 rfl rfl 1 (by decide) f7 (fun _ h9 => h9) rfl dX4_setQuick_10 ?_
  refine lv_iconst (v := (nI 3)) hx hb dX4_setQuick_13 (by decide) ?_
  refine k_iald (f := (ms m9)) hx hb hE hP 1 rfl 3 rfl (by decide) (by decide) dX4_setQuick_14 ?_
  refine lv_iconst (v := (nI 1)) hx hb dX4_setQuick_15 (by decide) ?_
  refine k_meet (x := .int (bI (((ms m9) 3) = nI 1))) (pj := 24) (rest := []) (fun J1 => ?_) ?_
  ·
    refine lv_icmp_ne (tgt := 23) hx hb dX4_setQuick_16 (by decide) (fun c2 => ?_) (fun c2 => ?_)
    ·
      refine lv_iconst (v := (nI 0)) hx hb dX4_setQuick_23 (by decide) ?_
      exact k_top (by first | (simp only [bI, if_neg c2, if_pos c2]; done) | (simp only [bI, if_neg c2, if_pos c2]; rfl) | rfl | (simp [bI, if_neg c2, if_pos c2]; done)) J1
    ·
      refine lv_iconst (v := (nI 1)) hx hb dX4_setQuick_19 (by decide) ?_
      refine lv_goto (tgt := 24) hx hb dX4_setQuick_20 (by decide) ?_
      exact k_top (by first | (simp only [bI, if_pos c2, if_neg (not_not_intro c2)]; done) | (simp only [bI, if_pos c2, if_neg (not_not_intro c2)]; rfl) | rfl | (simp [bI, if_pos c2, if_neg (not_not_intro c2)]; done)) J1
  ·
    refine lv_istore_n (lv' := [(2, .int (bI (((ms m9) 3) = nI 1))), (0, .ref (a 0)), (1, .int (nI b))]) hx hb dX4_setQuick_24 rfl hl (by decide) rfl (fun ls hl => ?_)
    refine lv_aload_n hx hb dX4_setQuick_25 rfl (lv_at hl 1 rfl) ?_
    refine va_get (D := g.1) (ci := 4) (v := .ref (a 1)) (C := RX4) (T := TX4) (N := 12) hx hb hts hiX4 hown hE.1 hP 0 rfl rfl 1 (by decide) f7 (fun _ h9 => h9) rfl dX4_setQuick_26 ?_
    refine lv_iconst (v := (nI 3)) hx hb dX4_setQuick_29 (by decide) ?_
    refine lv_iload_n hx hb dX4_setQuick_30 rfl (lv_at hl 2 rfl) ?_
    refine k_meet (x := .int (nI b)) (pj := 39) (rest := [.int (nI 3), .ref (a 1)]) (fun J3 => ?_) ?_
    ·
      refine k_if0 (tgt := 38) hx hb (by omega) dX4_setQuick_31 (by decide) (fun c4 => ?_) (fun c4 => ?_)
      ·
        refine lv_iconst (v := (nI 0)) hx hb dX4_setQuick_38 (by decide) ?_
        exact k_top (by first | rfl | exact congrArg nI (by omega) | exact (by first | (simp only [bI, if_pos c4, if_neg (not_not_intro c4)]; done) | (simp only [bI, if_pos c4, if_neg (not_not_intro c4)]; rfl) | rfl | (simp [bI, if_pos c4, if_neg (not_not_intro c4)]; done))) J3
      ·
        refine lv_iconst (v := (nI 1)) hx hb dX4_setQuick_34 (by decide) ?_
        refine lv_goto (tgt := 39) hx hb dX4_setQuick_35 (by decide) ?_
        exact k_top (by first | rfl | exact congrArg nI (by omega) | exact (by first | (simp only [bI, if_neg c4, if_pos c4]; done) | (simp only [bI, if_neg c4, if_pos c4]; rfl) | rfl | (simp [bI, if_neg c4, if_pos c4]; done))) J3
    ·
      refine k_iast (f := (ms m9)) (ws1 := (wM g a (sMs (sMsm (sMsv (sMth m9 (nI 0)) (Msv (ms m9) (msv m9) j)) (nI (kSz j))) (upd (ms m9) 3 (nI b))))) hx hb hE hP hD hS 1 rfl 3 rfl (by decide) (by decide) rfl dX4_setQuick_39 (fun H locs hP hD hS => ?_)
      refine lv_iload_n hx hb dX4_setQuick_40 rfl (lv_at hl 0 rfl) ?_
      have hP : va_P g.1 vwCl (wM g a (sMs (Mkeep j (sMth m9 (nI 0))) (upd (ms m9) 3 (nI b)))) _ := hP
      have hD : va_D A (wM g a (sMs (Mkeep j (sMth m9 (nI 0))) (upd (ms m9) 3 (nI b)))) := hD
      exact k_iret hx hb hr hlocks bI_nar (by first | rfl | (simp only [bI]; done) | (simp only [bI]; rfl) | (simp [bI]; done)) hP hD hS (Nat.le_of_ble_eq_true rfl) (Nat.le_of_ble_eq_true rfl) dX4_setQuick_41
set_option maxHeartbeats 4000000 in
set_option maxRecDepth 100000 in
theorem c_X4_setTimes (l : Launch) (g : kG) (a : Nat → Nat) (m9 : MSt) (j : Nat) (hj : j ≤ 6) (hjm : msm m9 = nI j) (t1 t2 t3 : Int32) : KI l yX4_setTimes wsX4_setTimes ({ frames := 1, cells := 0, slots := 0, locals := 22 }) g [.ref (a 0), .int t1, .int t2, .int t3] (wM g a m9) (MtimesR t1 t2 t3 m9) (wM g a (MtimesS j t1 t2 t3 m9)) 0 0 := by
  refine k_begin (cc := cX4_setTimes) (maxL := 5) (ret := (some .int)) (Qc := fun A => kQi g (MtimesR t1 t2 t3 m9) (wM g a (MtimesS j t1 t2 t3 m9)) A) (by decide) rfl (Nat.le_of_ble_eq_true rfl) ?_
  intro p e s m below meth c A ls hF hr hlocks hin hE hP hD hS hA hl
  obtain ⟨hx, hb, hml, hown, hts⟩ := id hF
  have hown : s.vm.findClass RX4 = some m.cls := hown
  have hl : lv_has ls 5 [(0, .ref (a 0)), (1, .int t1), (2, .int t2), (3, .int t3)] := hl
  have hiX4 : ∀ w ∈ wsX40, w ∈ wsX4_setTimes := fun _ h => List.mem_cons_of_mem _ (List.mem_append_right _ (h))
  have f25 : (Cond.fieldLink RX4 25 "ConcertUsherModel" "thrown" "I").before _ s = true := hts _ (List.mem_of_getElem? (i := 1) rfl)
  have f7 : (Cond.fieldLink RX4 7 "ConcertUsherModel" "s" "[I").before _ s = true := hts _ (List.mem_of_getElem? (i := 2) rfl)
  refine lv_aload_n hx hb dX4_setTimes_0 rfl (lv_at hl 0 rfl) ?_
  refine lv_iconst (v := (nI 0)) hx hb dX4_setTimes_1 (by decide) ?_
  refine va_put (D := g.1) (ci := 4) (v := .int (nI 0)) (ty := .int) (C := RX4) (T := TX4) (N := 12) hx hb hts hiX4 tyX4 tyX4_ok nmX4 hown hE.1 hP hD hS 0 rfl rfl 0 (by decide) f25 (fun _ h9 => h9) rfl (tyX4_ok 0 (by decide)) rfl rfl (Nat.le_of_ble_eq_true rfl) dX4_setTimes_2 (fun H locs hP hD hS => ?_)
  have hP : va_P g.1 vwCl (wM g a (sMth m9 (nI 0))) _ := hP
  have hD : va_D A (wM g a (sMth m9 (nI 0))) := hD
  refine lv_iload_n hx hb dX4_setTimes_5 rfl (lv_at hl 1 rfl) ?_
  refine lv_iconst (v := (nI 2)) hx hb dX4_setTimes_6 (by decide) ?_
  refine lv_bipush (v := (nI 60)) hx hb dX4_setTimes_7 (by decide) ?_
  refine k_Si (w0 := []) (w1 := []) (As := [.int t1, .int (nI 2), .int (nI 60)]) (r := (bI ((nI 2) ≤ t1 ∧ t1 ≤ (nI 60)))) hF (c_X4_in l g t1 (nI 2) (nI 60)) (va_cwS 3 hts gX4_setTimes_X4_in rfl rfl rfl (by decide +kernel) ⟨Nat.le_of_ble_eq_true rfl, Nat.le_of_ble_eq_true rfl⟩) hE hP hD hS hA (List.Perm.refl _) (List.Perm.refl _) rfl hl.1 rfl (Nat.le_of_ble_eq_true rfl) dX4_setTimes_9 ⟨Nat.le_of_ble_eq_true rfl, Nat.le_of_ble_eq_true rfl⟩ (fun H locs hP hD hS => ?_)
  have hP : va_P g.1 vwCl (wM g a (sMth m9 (nI 0))) _ := hP
  have hD : va_D A (wM g a (sMth m9 (nI 0))) := hD
  refine k_ifeqB (tgt := 35) hx hb dX4_setTimes_12 (by decide) (fun c1 => ?_) (fun c1 => ?_)
  ·
    refine lv_aload_n hx hb dX4_setTimes_35 rfl (lv_at hl 0 rfl) ?_
    refine lv_iconst (v := (nI 1)) hx hb dX4_setTimes_36 (by decide) ?_
    refine k_Vi (As := [.int (nI 1)]) (r := (nI 0)) hF (c_X4_fails l g a (sMth m9 (nI 0)) (nI 1)) (cwV 1 hts gX4_setTimes_X4_fails rfl rfl rfl (by decide +kernel) ⟨Nat.le_of_ble_eq_true rfl, Nat.le_of_ble_eq_true rfl⟩) hE hP hD hS hA (k_pall _) ((k_pall _).symm) 0 rfl rfl rfl rfl hl.1 rfl (Nat.le_of_ble_eq_true rfl) dX4_setTimes_37 ⟨Nat.le_of_ble_eq_true rfl, Nat.le_of_ble_eq_true rfl⟩ (fun H locs hP hD hS => ?_)
    have hP : va_P g.1 vwCl (wM g a (sMth m9 (nI 1))) _ := hP
    have hD : va_D A (wM g a (sMth m9 (nI 1))) := hD
    have e2 : (MtimesS j t1 t2 t3 m9) = (sMth m9 (nI 1)) := (by first | (simp only [MtimesS, MtimesR, if_neg c1, if_pos c1]; done) | (simp only [MtimesS, MtimesR, if_neg c1, if_pos c1]; rfl) | rfl | (simp [MtimesS, MtimesR, if_neg c1, if_pos c1]; done))
    have hP : va_P g.1 vwCl (wM g a (MtimesS j t1 t2 t3 m9)) H := by rw [e2]; exact hP
    have hD : va_D A (wM g a (MtimesS j t1 t2 t3 m9)) := by rw [e2]; exact hD
    exact k_iret hx hb hr hlocks rfl (by first | (simp only [MtimesS, MtimesR, bI, if_neg c1, if_pos c1]; done) | (simp only [MtimesS, MtimesR, bI, if_neg c1, if_pos c1]; rfl) | rfl | (simp [MtimesS, MtimesR, bI, if_neg c1, if_pos c1]; done)) hP hD hS (Nat.le_of_ble_eq_true rfl) (Nat.le_of_ble_eq_true rfl) dX4_setTimes_40
  ·
    refine lv_iload_n hx hb dX4_setTimes_15 rfl (lv_at hl 2 rfl) ?_
    refine lv_iconst (v := (nI 1)) hx hb dX4_setTimes_16 (by decide) ?_
    refine lv_bipush (v := (nI 10)) hx hb dX4_setTimes_17 (by decide) ?_
    refine k_Si (w0 := []) (w1 := []) (As := [.int t2, .int (nI 1), .int (nI 10)]) (r := (bI ((nI 1) ≤ t2 ∧ t2 ≤ (nI 10)))) hF (c_X4_in l g t2 (nI 1) (nI 10)) (va_cwS 3 hts gX4_setTimes_X4_in rfl rfl rfl (by decide +kernel) ⟨Nat.le_of_ble_eq_true rfl, Nat.le_of_ble_eq_true rfl⟩) hE hP hD hS hA (List.Perm.refl _) (List.Perm.refl _) rfl hl.1 rfl (Nat.le_of_ble_eq_true rfl) dX4_setTimes_19 ⟨Nat.le_of_ble_eq_true rfl, Nat.le_of_ble_eq_true rfl⟩ (fun H locs hP hD hS => ?_)
    have hP : va_P g.1 vwCl (wM g a (sMth m9 (nI 0))) _ := hP
    have hD : va_D A (wM g a (sMth m9 (nI 0))) := hD
    refine k_ifeqB (tgt := 35) hx hb dX4_setTimes_22 (by decide) (fun c3 => ?_) (fun c3 => ?_)
    ·
      refine lv_aload_n hx hb dX4_setTimes_35 rfl (lv_at hl 0 rfl) ?_
      refine lv_iconst (v := (nI 1)) hx hb dX4_setTimes_36 (by decide) ?_
      refine k_Vi (As := [.int (nI 1)]) (r := (nI 0)) hF (c_X4_fails l g a (sMth m9 (nI 0)) (nI 1)) (cwV 1 hts gX4_setTimes_X4_fails rfl rfl rfl (by decide +kernel) ⟨Nat.le_of_ble_eq_true rfl, Nat.le_of_ble_eq_true rfl⟩) hE hP hD hS hA (k_pall _) ((k_pall _).symm) 0 rfl rfl rfl rfl hl.1 rfl (Nat.le_of_ble_eq_true rfl) dX4_setTimes_37 ⟨Nat.le_of_ble_eq_true rfl, Nat.le_of_ble_eq_true rfl⟩ (fun H locs hP hD hS => ?_)
      have hP : va_P g.1 vwCl (wM g a (sMth m9 (nI 1))) _ := hP
      have hD : va_D A (wM g a (sMth m9 (nI 1))) := hD
      have e4 : (MtimesS j t1 t2 t3 m9) = (sMth m9 (nI 1)) := (by first | (simp only [MtimesS, MtimesR, if_pos c1, if_neg (not_not_intro c1), if_neg c3, if_pos c3]; done) | (simp only [MtimesS, MtimesR, if_pos c1, if_neg (not_not_intro c1), if_neg c3, if_pos c3]; rfl) | rfl | (simp [MtimesS, MtimesR, if_pos c1, if_neg (not_not_intro c1), if_neg c3, if_pos c3]; done))
      have hP : va_P g.1 vwCl (wM g a (MtimesS j t1 t2 t3 m9)) H := by rw [e4]; exact hP
      have hD : va_D A (wM g a (MtimesS j t1 t2 t3 m9)) := by rw [e4]; exact hD
      exact k_iret hx hb hr hlocks rfl (by first | (simp only [MtimesS, MtimesR, bI, if_pos c1, if_neg (not_not_intro c1), if_neg c3, if_pos c3]; done) | (simp only [MtimesS, MtimesR, bI, if_pos c1, if_neg (not_not_intro c1), if_neg c3, if_pos c3]; rfl) | rfl | (simp [MtimesS, MtimesR, bI, if_pos c1, if_neg (not_not_intro c1), if_neg c3, if_pos c3]; done)) hP hD hS (Nat.le_of_ble_eq_true rfl) (Nat.le_of_ble_eq_true rfl) dX4_setTimes_40
    ·
      refine lv_iload_n hx hb dX4_setTimes_25 rfl (lv_at hl 3 rfl) ?_
      refine lv_iconst (v := (nI 1)) hx hb dX4_setTimes_26 (by decide) ?_
      refine lv_bipush (v := (nI 30)) hx hb dX4_setTimes_27 (by decide) ?_
      refine k_Si (w0 := []) (w1 := []) (As := [.int t3, .int (nI 1), .int (nI 30)]) (r := (bI ((nI 1) ≤ t3 ∧ t3 ≤ (nI 30)))) hF (c_X4_in l g t3 (nI 1) (nI 30)) (va_cwS 3 hts gX4_setTimes_X4_in rfl rfl rfl (by decide +kernel) ⟨Nat.le_of_ble_eq_true rfl, Nat.le_of_ble_eq_true rfl⟩) hE hP hD hS hA (List.Perm.refl _) (List.Perm.refl _) rfl hl.1 rfl (Nat.le_of_ble_eq_true rfl) dX4_setTimes_29 ⟨Nat.le_of_ble_eq_true rfl, Nat.le_of_ble_eq_true rfl⟩ (fun H locs hP hD hS => ?_)
      have hP : va_P g.1 vwCl (wM g a (sMth m9 (nI 0))) _ := hP
      have hD : va_D A (wM g a (sMth m9 (nI 0))) := hD
      refine k_ifneB (tgt := 41) hx hb dX4_setTimes_32 (by decide) (fun c5 => ?_) (fun c5 => ?_)
      ·
        refine lv_aload_n hx hb dX4_setTimes_41 rfl (lv_at hl 0 rfl) ?_
        refine k_Vv (As := []) hF (c_X4_saves l g a (sMth m9 (nI 0)) j (by omega) hjm) (cwV 0 hts gX4_setTimes_X4_saves rfl rfl rfl (by decide +kernel) ⟨Nat.le_of_ble_eq_true rfl, Nat.le_of_ble_eq_true rfl⟩) hE hP hD hS hA (k_pall _) ((k_pall _).symm) 0 rfl rfl rfl rfl hl.1 rfl (Nat.le_of_ble_eq_true rfl) dX4_setTimes_42 ⟨Nat.le_of_ble_eq_true rfl, Nat.le_of_ble_eq_true rfl⟩ (fun H locs hP hD hS => ?_)
        have hP : va_P g.1 vwCl (wM g a (sMsm (sMsv (sMth m9 (nI 0)) (Msv (ms m9) (msv m9) j)) (nI (kSz j)))) _ := hP
        have hD : va_D A (wM g a (sMsm (sMsv (sMth m9 (nI 0)) (Msv (ms m9) (msv m9) j)) (nI (kSz j)))) := hD
        refine lv_aload_n hx hb dX4_setTimes_45 rfl (lv_at hl 0 rfl) ?_
        refine va_get (D := g.1) (ci := 4) (v := .ref (a 1)) (C := RX4) (T := TX4) (N := 12) hx hb hts hiX4 hown hE.1 hP 0 rfl rfl 1 (by decide) f7 (fun _ h9 => h9) rfl dX4_setTimes_46 ?_
        refine lv_iconst (v := (nI 0)) hx hb dX4_setTimes_49 (by decide) ?_
        refine k_iald (f := (ms m9)) hx hb hE hP 1 rfl 0 rfl (by decide) (by decide) dX4_setTimes_50 ?_
        refine lv_istore (lv' := [(4, .int ((ms m9) 0)), (0, .ref (a 0)), (1, .int t1), (2, .int t2), (3, .int t3)]) hx hb dX4_setTimes_51 hl (by decide) rfl (fun ls hl => ?_)
        refine lv_aload_n hx hb dX4_setTimes_53 rfl (lv_at hl 1 rfl) ?_
        refine va_get (D := g.1) (ci := 4) (v := .ref (a 1)) (C := RX4) (T := TX4) (N := 12) hx hb hts hiX4 hown hE.1 hP 0 rfl rfl 1 (by decide) f7 (fun _ h9 => h9) rfl dX4_setTimes_54 ?_
        refine lv_iconst (v := (nI 0)) hx hb dX4_setTimes_57 (by decide) ?_
        refine lv_iload_n hx hb dX4_setTimes_58 rfl (lv_at hl 2 rfl) ?_
        refine k_iast (f := (ms m9)) (ws1 := (wM g a (sMs (sMsm (sMsv (sMth m9 (nI 0)) (Msv (ms m9) (msv m9) j)) (nI (kSz j))) (upd (ms m9) 0 t1)))) hx hb hE hP hD hS 1 rfl 0 rfl (by decide) (by decide) rfl dX4_setTimes_59 (fun H locs hP hD hS => ?_)
        refine lv_aload_n hx hb dX4_setTimes_60 rfl (lv_at hl 1 rfl) ?_
        refine va_get (D := g.1) (ci := 4) (v := .ref (a 1)) (C := RX4) (T := TX4) (N := 12) hx hb hts hiX4 hown hE.1 hP 0 rfl rfl 1 (by decide) f7 (fun _ h9 => h9) rfl dX4_setTimes_61 ?_
        refine lv_iconst (v := (nI 1)) hx hb dX4_setTimes_64 (by decide) ?_
        refine lv_iload_n hx hb dX4_setTimes_65 rfl (lv_at hl 3 rfl) ?_
        refine k_iast (f := (upd (ms m9) 0 t1)) (ws1 := (wM g a (sMs (sMsm (sMsv (sMth m9 (nI 0)) (Msv (ms m9) (msv m9) j)) (nI (kSz j))) (upd (upd (ms m9) 0 t1) 1 t2)))) hx hb hE hP hD hS 1 rfl 1 rfl (by decide) (by decide) rfl dX4_setTimes_66 (fun H locs hP hD hS => ?_)
        refine lv_aload_n hx hb dX4_setTimes_67 rfl (lv_at hl 1 rfl) ?_
        refine va_get (D := g.1) (ci := 4) (v := .ref (a 1)) (C := RX4) (T := TX4) (N := 12) hx hb hts hiX4 hown hE.1 hP 0 rfl rfl 1 (by decide) f7 (fun _ h9 => h9) rfl dX4_setTimes_68 ?_
        refine lv_iconst (v := (nI 2)) hx hb dX4_setTimes_71 (by decide) ?_
        refine lv_iload_n hx hb dX4_setTimes_72 rfl (lv_at hl 4 rfl) ?_
        refine k_iast (f := (upd (upd (ms m9) 0 t1) 1 t2)) (ws1 := (wM g a (sMs (sMsm (sMsv (sMth m9 (nI 0)) (Msv (ms m9) (msv m9) j)) (nI (kSz j))) (upd (upd (upd (ms m9) 0 t1) 1 t2) 2 t3)))) hx hb hE hP hD hS 1 rfl 2 rfl (by decide) (by decide) rfl dX4_setTimes_73 (fun H locs hP hD hS => ?_)
        refine lv_iload hx hb dX4_setTimes_74 (lv_at hl 0 rfl) ?_
        have e6 : (MtimesS j t1 t2 t3 m9) = (sMs (sMsm (sMsv (sMth m9 (nI 0)) (Msv (ms m9) (msv m9) j)) (nI (kSz j))) (upd (upd (upd (ms m9) 0 t1) 1 t2) 2 t3)) := (by first | (simp only [MtimesS, MtimesR, if_pos c1, if_neg (not_not_intro c1), if_pos c3, if_neg (not_not_intro c3), if_pos c5, if_neg (not_not_intro c5)]; done) | (simp only [MtimesS, MtimesR, if_pos c1, if_neg (not_not_intro c1), if_pos c3, if_neg (not_not_intro c3), if_pos c5, if_neg (not_not_intro c5)]; rfl) | rfl | (simp [MtimesS, MtimesR, if_pos c1, if_neg (not_not_intro c1), if_pos c3, if_neg (not_not_intro c3), if_pos c5, if_neg (not_not_intro c5)]; done))
        have hP : va_P g.1 vwCl (wM g a (MtimesS j t1 t2 t3 m9)) H := by rw [e6]; exact hP
        have hD : va_D A (wM g a (MtimesS j t1 t2 t3 m9)) := by rw [e6]; exact hD
        exact k_iret hx hb hr hlocks rfl (by first | (simp only [MtimesS, MtimesR, bI, if_pos c1, if_neg (not_not_intro c1), if_pos c3, if_neg (not_not_intro c3), if_pos c5, if_neg (not_not_intro c5)]; done) | (simp only [MtimesS, MtimesR, bI, if_pos c1, if_neg (not_not_intro c1), if_pos c3, if_neg (not_not_intro c3), if_pos c5, if_neg (not_not_intro c5)]; rfl) | rfl | (simp [MtimesS, MtimesR, bI, if_pos c1, if_neg (not_not_intro c1), if_pos c3, if_neg (not_not_intro c3), if_pos c5, if_neg (not_not_intro c5)]; done)) hP hD hS (Nat.le_of_ble_eq_true rfl) (Nat.le_of_ble_eq_true rfl) dX4_setTimes_76
      ·
        refine lv_aload_n hx hb dX4_setTimes_35 rfl (lv_at hl 0 rfl) ?_
        refine lv_iconst (v := (nI 1)) hx hb dX4_setTimes_36 (by decide) ?_
        refine k_Vi (As := [.int (nI 1)]) (r := (nI 0)) hF (c_X4_fails l g a (sMth m9 (nI 0)) (nI 1)) (cwV 1 hts gX4_setTimes_X4_fails rfl rfl rfl (by decide +kernel) ⟨Nat.le_of_ble_eq_true rfl, Nat.le_of_ble_eq_true rfl⟩) hE hP hD hS hA (k_pall _) ((k_pall _).symm) 0 rfl rfl rfl rfl hl.1 rfl (Nat.le_of_ble_eq_true rfl) dX4_setTimes_37 ⟨Nat.le_of_ble_eq_true rfl, Nat.le_of_ble_eq_true rfl⟩ (fun H locs hP hD hS => ?_)
        have hP : va_P g.1 vwCl (wM g a (sMth m9 (nI 1))) _ := hP
        have hD : va_D A (wM g a (sMth m9 (nI 1))) := hD
        have e7 : (MtimesS j t1 t2 t3 m9) = (sMth m9 (nI 1)) := (by first | (simp only [MtimesS, MtimesR, if_pos c1, if_neg (not_not_intro c1), if_pos c3, if_neg (not_not_intro c3), if_neg c5, if_pos c5]; done) | (simp only [MtimesS, MtimesR, if_pos c1, if_neg (not_not_intro c1), if_pos c3, if_neg (not_not_intro c3), if_neg c5, if_pos c5]; rfl) | rfl | (simp [MtimesS, MtimesR, if_pos c1, if_neg (not_not_intro c1), if_pos c3, if_neg (not_not_intro c3), if_neg c5, if_pos c5]; done))
        have hP : va_P g.1 vwCl (wM g a (MtimesS j t1 t2 t3 m9)) H := by rw [e7]; exact hP
        have hD : va_D A (wM g a (MtimesS j t1 t2 t3 m9)) := by rw [e7]; exact hD
        exact k_iret hx hb hr hlocks rfl (by first | (simp only [MtimesS, MtimesR, bI, if_pos c1, if_neg (not_not_intro c1), if_pos c3, if_neg (not_not_intro c3), if_neg c5, if_pos c5]; done) | (simp only [MtimesS, MtimesR, bI, if_pos c1, if_neg (not_not_intro c1), if_pos c3, if_neg (not_not_intro c3), if_neg c5, if_pos c5]; rfl) | rfl | (simp [MtimesS, MtimesR, bI, if_pos c1, if_neg (not_not_intro c1), if_pos c3, if_neg (not_not_intro c3), if_neg c5, if_pos c5]; done)) hP hD hS (Nat.le_of_ble_eq_true rfl) (Nat.le_of_ble_eq_true rfl) dX4_setTimes_40
set_option maxHeartbeats 4000000 in
set_option maxRecDepth 100000 in
theorem c_X4_setPresent (l : Launch) (g : kG) (a : Nat → Nat) (m9 : MSt) (j : Nat) (hj : j ≤ 6) (hjm : msm m9 = nI j) (w9 : Int32) (b : Nat) (hb2 : b < 2) : KI l yX4_setPresent wsX4_setPresent ({ frames := 1, cells := 0, slots := 0, locals := 22 }) g [.ref (a 0), .int w9, .int (nI b)] (wM g a m9) (MpresR w9 b m9) (wM g a (MpresS j w9 b m9)) 0 0 := by
  refine k_begin (cc := cX4_setPresent) (maxL := 3) (ret := (some .int)) (Qc := fun A => kQi g (MpresR w9 b m9) (wM g a (MpresS j w9 b m9)) A) (by decide) rfl (Nat.le_of_ble_eq_true rfl) ?_
  intro p e s m below meth c A ls hF hr hlocks hin hE hP hD hS hA hl
  obtain ⟨hx, hb, hml, hown, hts⟩ := id hF
  have hown : s.vm.findClass RX4 = some m.cls := hown
  have hl : lv_has ls 3 [(0, .ref (a 0)), (1, .int w9), (2, .int (nI b))] := hl
  have hiX4 : ∀ w ∈ wsX40, w ∈ wsX4_setPresent := fun _ h => List.mem_cons_of_mem _ (List.mem_append_right _ (h))
  have f25 : (Cond.fieldLink RX4 25 "ConcertUsherModel" "thrown" "I").before _ s = true := hts _ (List.mem_of_getElem? (i := 1) rfl)
  have f7 : (Cond.fieldLink RX4 7 "ConcertUsherModel" "s" "[I").before _ s = true := hts _ (List.mem_of_getElem? (i := 2) rfl)
  refine lv_aload_n hx hb dX4_setPresent_0 rfl (lv_at hl 0 rfl) ?_
  refine lv_iconst (v := (nI 0)) hx hb dX4_setPresent_1 (by decide) ?_
  refine va_put (D := g.1) (ci := 4) (v := .int (nI 0)) (ty := .int) (C := RX4) (T := TX4) (N := 12) hx hb hts hiX4 tyX4 tyX4_ok nmX4 hown hE.1 hP hD hS 0 rfl rfl 0 (by decide) f25 (fun _ h9 => h9) rfl (tyX4_ok 0 (by decide)) rfl rfl (Nat.le_of_ble_eq_true rfl) dX4_setPresent_2 (fun H locs hP hD hS => ?_)
  have hP : va_P g.1 vwCl (wM g a (sMth m9 (nI 0))) _ := hP
  have hD : va_D A (wM g a (sMth m9 (nI 0))) := hD
  refine lv_iload_n hx hb dX4_setPresent_5 rfl (lv_at hl 1 rfl) ?_
  refine lv_iconst (v := (nI 1)) hx hb dX4_setPresent_6 (by decide) ?_
  refine lv_iconst (v := (nI 2)) hx hb dX4_setPresent_7 (by decide) ?_
  refine k_Si (w0 := []) (w1 := []) (As := [.int w9, .int (nI 1), .int (nI 2)]) (r := (bI ((nI 1) ≤ w9 ∧ w9 ≤ (nI 2)))) hF (c_X4_in l g w9 (nI 1) (nI 2)) (va_cwS 3 hts gX4_setPresent_X4_in rfl rfl rfl (by decide +kernel) ⟨Nat.le_of_ble_eq_true rfl, Nat.le_of_ble_eq_true rfl⟩) hE hP hD hS hA (List.Perm.refl _) (List.Perm.refl _) rfl hl.1 rfl (Nat.le_of_ble_eq_true rfl) dX4_setPresent_8 ⟨Nat.le_of_ble_eq_true rfl, Nat.le_of_ble_eq_true rfl⟩ (fun H locs hP hD hS => ?_)
  have hP : va_P g.1 vwCl (wM g a (sMth m9 (nI 0))) _ := hP
  have hD : va_D A (wM g a (sMth m9 (nI 0))) := hD
  refine k_ifneB (tgt := 20) hx hb dX4_setPresent_11 (by decide) (fun c1 => ?_) (fun c1 => ?_)
  ·
    refine lv_aload_n hx hb dX4_setPresent_20 rfl (lv_at hl 0 rfl) ?_
    refine k_Vv (As := []) hF (c_X4_saves l g a (sMth m9 (nI 0)) j (by omega) hjm) (cwV 0 hts gX4_setPresent_X4_saves rfl rfl rfl (by decide +kernel) ⟨Nat.le_of_ble_eq_true rfl, Nat.le_of_ble_eq_true rfl⟩) hE hP hD hS hA (k_pall _) ((k_pall _).symm) 0 rfl rfl rfl rfl hl.1 rfl (Nat.le_of_ble_eq_true rfl) dX4_setPresent_21 ⟨Nat.le_of_ble_eq_true rfl, Nat.le_of_ble_eq_true rfl⟩ (fun H locs hP hD hS => ?_)
    have hP : va_P g.1 vwCl (wM g a (sMsm (sMsv (sMth m9 (nI 0)) (Msv (ms m9) (msv m9) j)) (nI (kSz j)))) _ := hP
    have hD : va_D A (wM g a (sMsm (sMsv (sMth m9 (nI 0)) (Msv (ms m9) (msv m9) j)) (nI (kSz j)))) := hD
    refine lv_aload_n hx hb dX4_setPresent_24 rfl (lv_at hl 0 rfl) ?_
    refine va_get (D := g.1) (ci := 4) (v := .ref (a 1)) (C := RX4) (T := TX4) (N := 12) hx hb hts hiX4 hown hE.1 hP 0 rfl rfl 1 (by decide) f7 (fun _ h9 => h9) rfl dX4_setPresent_25 ?_
    refine lv_iconst (v := (nI 4)) hx hb dX4_setPresent_28 (by decide) ?_
    refine lv_aload_n hx hb dX4_setPresent_29 rfl (lv_at hl 0 rfl) ?_
    refine va_get (D := g.1) (ci := 4) (v := .ref (a 1)) (C := RX4) (T := TX4) (N := 12) hx hb hts hiX4 hown hE.1 hP 0 rfl rfl 1 (by decide) f7 (fun _ h9 => h9) rfl dX4_setPresent_30 ?_
    refine lv_iconst (v := (nI 4)) hx hb dX4_setPresent_33 (by decide) ?_
    refine k_iald (f := (ms m9)) hx hb hE hP 1 rfl 4 rfl (by decide) (by decide) dX4_setPresent_34 ?_
    refine lv_iconst (v := (nI 1)) hx hb dX4_setPresent_35 (by decide) ?_
    refine lv_iload_n hx hb dX4_setPresent_36 rfl (lv_at hl 1 rfl) ?_
    refine lv_ishl hx hb dX4_setPresent_37 ?_
    refine lv_iconst (v := (-1)) hx hb dX4_setPresent_38 (by decide) ?_
    refine lv_ixor hx hb dX4_setPresent_39 ?_
    refine lv_iand hx hb dX4_setPresent_40 ?_
    refine lv_iload_n hx hb dX4_setPresent_41 rfl (lv_at hl 2 rfl) ?_
    refine k_meet (x := .int (if b = 0 then nI 0 else (nI 1 <<< (w9 &&& 31)))) (pj := 52) (rest := [.int (((ms m9) 4) &&& (((nI 1) <<< (w9 &&& 31)) ^^^ (-1))), .int (nI 4), .ref (a 1)]) (fun J2 => ?_) ?_
    ·
      refine k_if0 (tgt := 51) hx hb (by omega) dX4_setPresent_42 (by decide) (fun c3 => ?_) (fun c3 => ?_)
      ·
        refine lv_iconst (v := (nI 0)) hx hb dX4_setPresent_51 (by decide) ?_
        exact k_top (by first | (simp only [MpresS, MpresR, Mpres, bI, if_pos c1, if_neg (not_not_intro c1), if_pos c3, if_neg (not_not_intro c3)]; done) | (simp only [MpresS, MpresR, Mpres, bI, if_pos c1, if_neg (not_not_intro c1), if_pos c3, if_neg (not_not_intro c3)]; rfl) | rfl | (simp [MpresS, MpresR, Mpres, bI, if_pos c1, if_neg (not_not_intro c1), if_pos c3, if_neg (not_not_intro c3)]; done)) J2
      ·
        refine lv_iconst (v := (nI 1)) hx hb dX4_setPresent_45 (by decide) ?_
        refine lv_iload_n hx hb dX4_setPresent_46 rfl (lv_at hl 1 rfl) ?_
        refine lv_ishl hx hb dX4_setPresent_47 ?_
        refine lv_goto (tgt := 52) hx hb dX4_setPresent_48 (by decide) ?_
        exact k_top (by first | (simp only [MpresS, MpresR, Mpres, bI, if_pos c1, if_neg (not_not_intro c1), if_neg c3, if_pos c3]; done) | (simp only [MpresS, MpresR, Mpres, bI, if_pos c1, if_neg (not_not_intro c1), if_neg c3, if_pos c3]; rfl) | rfl | (simp [MpresS, MpresR, Mpres, bI, if_pos c1, if_neg (not_not_intro c1), if_neg c3, if_pos c3]; done)) J2
    ·
      refine lv_ior hx hb dX4_setPresent_52 ?_
      refine k_iast (f := (ms m9)) (ws1 := (wM g a (sMs (sMsm (sMsv (sMth m9 (nI 0)) (Msv (ms m9) (msv m9) j)) (nI (kSz j))) (upd (ms m9) 4 ((((ms m9) 4) &&& (((nI 1) <<< (w9 &&& 31)) ^^^ (-1))) ||| (if b = 0 then nI 0 else (nI 1 <<< (w9 &&& 31)))))))) hx hb hE hP hD hS 1 rfl 4 rfl (by decide) (by decide) rfl dX4_setPresent_53 (fun H locs hP hD hS => ?_)
      refine lv_aload_n hx hb dX4_setPresent_54 rfl (lv_at hl 0 rfl) ?_
      refine k_Vi (As := []) (r := (Mchief (upd (ms m9) 4 ((((ms m9) 4) &&& (((nI 1) <<< (w9 &&& 31)) ^^^ (-1))) ||| (if b = 0 then nI 0 else (nI 1 <<< (w9 &&& 31))))))) hF (c_X4_chiefNow l g a (sMs (sMsm (sMsv (sMth m9 (nI 0)) (Msv (ms m9) (msv m9) j)) (nI (kSz j))) (upd (ms m9) 4 ((((ms m9) 4) &&& (((nI 1) <<< (w9 &&& 31)) ^^^ (-1))) ||| (if b = 0 then nI 0 else (nI 1 <<< (w9 &&& 31))))))) (cwV 0 hts gX4_setPresent_X4_chiefNow rfl rfl rfl (by decide +kernel) ⟨Nat.le_of_ble_eq_true rfl, Nat.le_of_ble_eq_true rfl⟩) hE hP hD hS hA (k_pall _) ((k_pall _).symm) 0 rfl rfl rfl rfl hl.1 rfl (Nat.le_of_ble_eq_true rfl) dX4_setPresent_55 ⟨Nat.le_of_ble_eq_true rfl, Nat.le_of_ble_eq_true rfl⟩ (fun H locs hP hD hS => ?_)
      have hP : va_P g.1 vwCl (wM g a (sMs (sMsm (sMsv (sMth m9 (nI 0)) (Msv (ms m9) (msv m9) j)) (nI (kSz j))) (upd (ms m9) 4 ((((ms m9) 4) &&& (((nI 1) <<< (w9 &&& 31)) ^^^ (-1))) ||| (if b = 0 then nI 0 else (nI 1 <<< (w9 &&& 31))))))) _ := hP
      have hD : va_D A (wM g a (sMs (sMsm (sMsv (sMth m9 (nI 0)) (Msv (ms m9) (msv m9) j)) (nI (kSz j))) (upd (ms m9) 4 ((((ms m9) 4) &&& (((nI 1) <<< (w9 &&& 31)) ^^^ (-1))) ||| (if b = 0 then nI 0 else (nI 1 <<< (w9 &&& 31))))))) := hD
      have e4 : (MpresS j w9 b m9) = (sMs (sMsm (sMsv (sMth m9 (nI 0)) (Msv (ms m9) (msv m9) j)) (nI (kSz j))) (upd (ms m9) 4 ((((ms m9) 4) &&& (((nI 1) <<< (w9 &&& 31)) ^^^ (-1))) ||| (if b = 0 then nI 0 else (nI 1 <<< (w9 &&& 31)))))) := (by first | (simp only [MpresS, MpresR, Mpres, if_pos c1, if_neg (not_not_intro c1)]; done) | (simp only [MpresS, MpresR, Mpres, if_pos c1, if_neg (not_not_intro c1)]; rfl) | rfl | (simp [MpresS, MpresR, Mpres, if_pos c1, if_neg (not_not_intro c1)]; done))
      have hP : va_P g.1 vwCl (wM g a (MpresS j w9 b m9)) H := by rw [e4]; exact hP
      have hD : va_D A (wM g a (MpresS j w9 b m9)) := by rw [e4]; exact hD
      exact k_iret hx hb hr hlocks rfl (by first | (simp only [MpresS, MpresR, Mpres, bI, if_pos c1, if_neg (not_not_intro c1)]; done) | (simp only [MpresS, MpresR, Mpres, bI, if_pos c1, if_neg (not_not_intro c1)]; rfl) | rfl | (simp [MpresS, MpresR, Mpres, bI, if_pos c1, if_neg (not_not_intro c1)]; done)) hP hD hS (Nat.le_of_ble_eq_true rfl) (Nat.le_of_ble_eq_true rfl) dX4_setPresent_58
  ·
    refine lv_aload_n hx hb dX4_setPresent_14 rfl (lv_at hl 0 rfl) ?_
    refine lv_iconst (v := (nI 1)) hx hb dX4_setPresent_15 (by decide) ?_
    refine k_Vi (As := [.int (nI 1)]) (r := (nI 0)) hF (c_X4_fails l g a (sMth m9 (nI 0)) (nI 1)) (cwV 1 hts gX4_setPresent_X4_fails rfl rfl rfl (by decide +kernel) ⟨Nat.le_of_ble_eq_true rfl, Nat.le_of_ble_eq_true rfl⟩) hE hP hD hS hA (k_pall _) ((k_pall _).symm) 0 rfl rfl rfl rfl hl.1 rfl (Nat.le_of_ble_eq_true rfl) dX4_setPresent_16 ⟨Nat.le_of_ble_eq_true rfl, Nat.le_of_ble_eq_true rfl⟩ (fun H locs hP hD hS => ?_)
    have hP : va_P g.1 vwCl (wM g a (sMth m9 (nI 1))) _ := hP
    have hD : va_D A (wM g a (sMth m9 (nI 1))) := hD
    have e5 : (MpresS j w9 b m9) = (sMth m9 (nI 1)) := (by first | (simp only [MpresS, MpresR, Mpres, if_neg c1, if_pos c1]; done) | (simp only [MpresS, MpresR, Mpres, if_neg c1, if_pos c1]; rfl) | rfl | (simp [MpresS, MpresR, Mpres, if_neg c1, if_pos c1]; done))
    have hP : va_P g.1 vwCl (wM g a (MpresS j w9 b m9)) H := by rw [e5]; exact hP
    have hD : va_D A (wM g a (MpresS j w9 b m9)) := by rw [e5]; exact hD
    exact k_iret hx hb hr hlocks rfl (by first | (simp only [MpresS, MpresR, Mpres, bI, if_neg c1, if_pos c1]; done) | (simp only [MpresS, MpresR, Mpres, bI, if_neg c1, if_pos c1]; rfl) | rfl | (simp [MpresS, MpresR, Mpres, bI, if_neg c1, if_pos c1]; done)) hP hD hS (Nat.le_of_ble_eq_true rfl) (Nat.le_of_ble_eq_true rfl) dX4_setPresent_19
set_option maxHeartbeats 4000000 in
set_option maxRecDepth 100000 in
theorem c_X4_chief (l : Launch) (g : kG) (a : Nat → Nat) (m9 : MSt) (j : Nat) (hj : j ≤ 6) (hjm : msm m9 = nI j) : KI l yX4_chief wsX4_chief ({ frames := 1, cells := 0, slots := 0, locals := 20 }) g [.ref (a 0)] (wM g a m9) (Mchief (ms m9)) (wM g a (sMth m9 (nI 0))) 0 0 := by
  refine k_begin (cc := cX4_chief) (maxL := 1) (ret := (some .int)) (Qc := fun A => kQi g (Mchief (ms m9)) (wM g a (sMth m9 (nI 0))) A) (by decide) rfl (Nat.le_of_ble_eq_true rfl) ?_
  intro p e s m below meth c A ls hF hr hlocks hin hE hP hD hS hA hl
  obtain ⟨hx, hb, hml, hown, hts⟩ := id hF
  have hown : s.vm.findClass RX4 = some m.cls := hown
  have hl : lv_has ls 1 [(0, .ref (a 0))] := hl
  have hiX4 : ∀ w ∈ wsX40, w ∈ wsX4_chief := fun _ h => List.mem_cons_of_mem _ (List.mem_append_right _ (h))
  have f25 : (Cond.fieldLink RX4 25 "ConcertUsherModel" "thrown" "I").before _ s = true := hts _ (List.mem_of_getElem? (i := 1) rfl)
  refine lv_aload_n hx hb dX4_chief_0 rfl (lv_at hl 0 rfl) ?_
  refine lv_iconst (v := (nI 0)) hx hb dX4_chief_1 (by decide) ?_
  refine va_put (D := g.1) (ci := 4) (v := .int (nI 0)) (ty := .int) (C := RX4) (T := TX4) (N := 12) hx hb hts hiX4 tyX4 tyX4_ok nmX4 hown hE.1 hP hD hS 0 rfl rfl 0 (by decide) f25 (fun _ h9 => h9) rfl (tyX4_ok 0 (by decide)) rfl rfl (Nat.le_of_ble_eq_true rfl) dX4_chief_2 (fun H locs hP hD hS => ?_)
  have hP : va_P g.1 vwCl (wM g a (sMth m9 (nI 0))) _ := hP
  have hD : va_D A (wM g a (sMth m9 (nI 0))) := hD
  refine lv_aload_n hx hb dX4_chief_5 rfl (lv_at hl 0 rfl) ?_
  refine k_Vi (As := []) (r := (Mchief (ms m9))) hF (c_X4_chiefNow l g a (sMth m9 (nI 0))) (cwV 0 hts gX4_chief_X4_chiefNow rfl rfl rfl (by decide +kernel) ⟨Nat.le_of_ble_eq_true rfl, Nat.le_of_ble_eq_true rfl⟩) hE hP hD hS hA (k_pall _) ((k_pall _).symm) 0 rfl rfl rfl rfl hl.1 rfl (Nat.le_of_ble_eq_true rfl) dX4_chief_6 ⟨Nat.le_of_ble_eq_true rfl, Nat.le_of_ble_eq_true rfl⟩ (fun H locs hP hD hS => ?_)
  have hP : va_P g.1 vwCl (wM g a (sMth m9 (nI 0))) _ := hP
  have hD : va_D A (wM g a (sMth m9 (nI 0))) := hD
  have hP : va_P g.1 vwCl (wM g a (sMth m9 (nI 0))) _ := hP
  have hD : va_D A (wM g a (sMth m9 (nI 0))) := hD
  exact k_iret hx hb hr hlocks rfl rfl hP hD hS (Nat.le_of_ble_eq_true rfl) (Nat.le_of_ble_eq_true rfl) dX4_chief_9
