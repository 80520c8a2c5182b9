set_option maxHeartbeats 4000000 in
set_option maxRecDepth 100000 in
theorem c_X4_minutesToFade (l : Launch) (g : kG) (a : Nat → Nat) (m9 : MSt) (j : Nat) (hj : j ≤ 6) (hjm : msm m9 = nI j) (row con : Int32) : KI l yX4_minutesToFade wsX4_minutesToFade ({ frames := 4, cells := 0, slots := 0, locals := 85 }) g [.ref (a 0), .int row, .int con] (wM g a m9) (MfadeR row con m9) (wM g a (MfadeS row con m9)) 0 0 := by
  refine k_begin (cc := cX4_minutesToFade) (maxL := 3) (ret := (some .int)) (Qc := fun A => kQi g (MfadeR row con m9) (wM g a (MfadeS row con m9)) A) (by decide) rfl (Nat.le_of_ble_eq_true rfl) ?_
  intro p e s m below meth c A ls hF hr hlocks hin hE hP hD hS hA hl
  obtain ⟨hx, hb, hml, hown, hts⟩ := id hF
  have hown : s.vm.findClass RX4 = some m.cls := hown
  have hl : lv_has ls 3 [(0, .ref (a 0)), (1, .int row), (2, .int con)] := hl
  have hiX4 : ∀ w ∈ wsX40, w ∈ wsX4_minutesToFade := fun _ h => List.mem_cons_of_mem _ (List.mem_append_right _ (h))
  have f25 : (Cond.fieldLink RX4 25 "ConcertUsherModel" "thrown" "I").before _ s = true := hts _ (List.mem_of_getElem? (i := 1) rfl)
  refine lv_aload_n hx hb dX4_minutesToFade_0 rfl (lv_at hl 0 rfl) ?_
  refine lv_iconst (v := (nI 0)) hx hb dX4_minutesToFade_1 (by decide) ?_
  refine va_put (D := g.1) (ci := 4) (v := .int (nI 0)) (ty := .int) (C := RX4) (T := TX4) (N := 12) hx hb hts hiX4 tyX4 tyX4_ok nmX4 hown hE.1 hP hD hS 0 rfl rfl 0 (by decide) f25 (fun _ h9 => h9) rfl (tyX4_ok 0 (by decide)) rfl rfl (Nat.le_of_ble_eq_true rfl) dX4_minutesToFade_2 (fun H locs hP hD hS => ?_)
  have hP : va_P g.1 vwCl (wM g a (sMth m9 (nI 0))) _ := hP
  have hD : va_D A (wM g a (sMth m9 (nI 0))) := hD
  refine lv_iload_n hx hb dX4_minutesToFade_5 rfl (lv_at hl 1 rfl) ?_
  refine lv_iload_n hx hb dX4_minutesToFade_6 rfl (lv_at hl 2 rfl) ?_
  refine k_Si (w0 := []) (w1 := []) (As := [.int row, .int con]) (r := (bI (pairOK row con))) hF (c_X4_isPair l g row con) (va_cwS 2 hts gX4_minutesToFade_X4_isPair rfl rfl rfl (by decide +kernel) ⟨Nat.le_of_ble_eq_true rfl, Nat.le_of_ble_eq_true rfl⟩) hE hP hD hS hA (List.Perm.refl _) (List.Perm.refl _) rfl hl.1 rfl (Nat.le_of_ble_eq_true rfl) dX4_minutesToFade_7 ⟨Nat.le_of_ble_eq_true rfl, Nat.le_of_ble_eq_true rfl⟩ (fun H locs hP hD hS => ?_)
  have hP : va_P g.1 vwCl (wM g a (sMth m9 (nI 0))) _ := hP
  have hD : va_D A (wM g a (sMth m9 (nI 0))) := hD
  refine k_ifeqB (tgt := 25) hx hb dX4_minutesToFade_10 (by decide) (fun c1 => ?_) (fun c1 => ?_)
  ·
    refine lv_aload_n hx hb dX4_minutesToFade_25 rfl (lv_at hl 0 rfl) ?_
    refine lv_iconst (v := (nI 1)) hx hb dX4_minutesToFade_26 (by decide) ?_
    refine k_Vi (As := [.int (nI 1)]) (r := (nI 0)) hF (c_X4_fails l g a (sMth m9 (nI 0)) (nI 1)) (cwV 1 hts gX4_minutesToFade_X4_fails rfl rfl rfl (by decide +kernel) ⟨Nat.le_of_ble_eq_true rfl, Nat.le_of_ble_eq_true rfl⟩) hE hP hD hS hA (k_pall _) ((k_pall _).symm) 0 rfl rfl rfl rfl hl.1 rfl (Nat.le_of_ble_eq_true rfl) dX4_minutesToFade_27 ⟨Nat.le_of_ble_eq_true rfl, Nat.le_of_ble_eq_true rfl⟩ (fun H locs hP hD hS => ?_)
    have hP : va_P g.1 vwCl (wM g a (sMth m9 (nI 1))) _ := hP
    have hD : va_D A (wM g a (sMth m9 (nI 1))) := hD
    have e2 : (MfadeS row con m9) = (sMth m9 (nI 1)) := (by first | (simp only [MfadeS, MfadeR, if_neg c1, if_pos c1]; done) | (simp only [MfadeS, MfadeR, if_neg c1, if_pos c1]; with_reducible rfl) | with_reducible rfl | (simp [MfadeS, MfadeR, if_neg c1, if_pos c1]; done))
    have hP : va_P g.1 vwCl (wM g a (MfadeS row con m9)) H := by rw [e2]; exact hP
    have hD : va_D A (wM g a (MfadeS row con m9)) := by rw [e2]; exact hD
    exact k_iret hx hb hr hlocks rfl (by first | (simp only [MfadeS, MfadeR, bI, if_neg c1, if_pos c1]; done) | (simp only [MfadeS, MfadeR, bI, if_neg c1, if_pos c1]; with_reducible rfl) | with_reducible rfl | (simp [MfadeS, MfadeR, bI, if_neg c1, if_pos c1]; done)) hP hD hS (Nat.le_of_ble_eq_true rfl) (Nat.le_of_ble_eq_true rfl) dX4_minutesToFade_30
  ·
    obtain ⟨r9, hr9, hre⟩ := in_nat (by decide) (by decide) c1.1
    obtain ⟨c9, hc9, hce⟩ := in_nat (by decide) (by decide) c1.2
    have hpl : plM row con = 6 * r9 + c9 := plM_eq hr9.2 hc9.2 hre hce
    refine lv_aload_n hx hb dX4_minutesToFade_13 rfl (lv_at hl 0 rfl) ?_
    refine lv_iload_n hx hb dX4_minutesToFade_14 rfl (lv_at hl 1 rfl) ?_
    refine k_top hre ?_
    refine lv_iload_n hx hb dX4_minutesToFade_15 rfl (lv_at hl 2 rfl) ?_
    refine k_top hce ?_
    refine k_Si (w0 := []) (w1 := []) (As := [.int (nI r9), .int (nI c9)]) (r := (nI (6 * r9 + c9))) hF (c_X4_cellOf l g r9 c9) (va_cwS 2 hts gX4_minutesToFade_X4_cellOf rfl rfl rfl (by decide +kernel) ⟨Nat.le_of_ble_eq_true rfl, Nat.le_of_ble_eq_true rfl⟩) hE hP hD hS hA (List.Perm.refl _) (List.Perm.refl _) rfl hl.1 rfl (Nat.le_of_ble_eq_true rfl) dX4_minutesToFade_16 ⟨Nat.le_of_ble_eq_true rfl, Nat.le_of_ble_eq_true rfl⟩ (fun H locs hP hD hS => ?_)
    have hP : va_P g.1 vwCl (wM g a (sMth m9 (nI 0))) _ := hP
    have hD : va_D A (wM g a (sMth m9 (nI 0))) := hD
    refine k_Vi (As := [.int (nI (6 * r9 + c9))]) (r := (Mfd (ms m9) (6 * r9 + c9))) hF (c_X4_fadesIn l g a (sMth m9 (nI 0)) (6 * r9 + c9) (by omega)) (cwV 1 hts gX4_minutesToFade_X4_fadesIn rfl rfl rfl (by decide +kernel) ⟨Nat.le_of_ble_eq_true rfl, Nat.le_of_ble_eq_true rfl⟩) hE hP hD hS hA (k_pall _) ((k_pall _).symm) 0 rfl rfl rfl rfl hl.1 rfl (Nat.le_of_ble_eq_true rfl) dX4_minutesToFade_19 ⟨Nat.le_of_ble_eq_true rfl, Nat.le_of_ble_eq_true rfl⟩ (fun H locs hP hD hS => ?_)
    have hP : va_P g.1 vwCl (wM g a (sMas (sMth m9 (nI 0)) (ms m9))) _ := hP
    have hD : va_D A (wM g a (sMas (sMth m9 (nI 0)) (ms m9))) := hD
    refine lv_goto (tgt := 30) hx hb dX4_minutesToFade_22 (by decide) ?_
    have e3 : (MfadeS row con m9) = (sMas (sMth m9 (nI 0)) (ms m9)) := (by first | (simp only [MfadeS, MfadeR, if_pos c1, if_neg (not_not_intro c1), hpl]; done) | (simp only [MfadeS, MfadeR, if_pos c1, if_neg (not_not_intro c1), hpl]; with_reducible rfl) | with_reducible rfl | (simp [MfadeS, MfadeR, if_pos c1, if_neg (not_not_intro c1), hpl]; done))
    have hP : va_P g.1 vwCl (wM g a (MfadeS row con m9)) H := by rw [e3]; exact hP
    have hD : va_D A (wM g a (MfadeS row con m9)) := by rw [e3]; exact hD
    exact k_iret hx hb hr hlocks rfl (by first | (simp only [MfadeS, MfadeR, bI, if_pos c1, if_neg (not_not_intro c1), hpl]; done) | (simp only [MfadeS, MfadeR, bI, if_pos c1, if_neg (not_not_intro c1), hpl]; with_reducible rfl) | with_reducible rfl | (simp [MfadeS, MfadeR, bI, if_pos c1, if_neg (not_not_intro c1), hpl]; done)) hP hD hS (Nat.le_of_ble_eq_true rfl) (Nat.le_of_ble_eq_true rfl) dX4_minutesToFade_30
set_option maxHeartbeats 4000000 in
set_option maxRecDepth 100000 in
theorem c_X4_asksIn (l : Launch) (g : kG) (a : Nat → Nat) (m9 : MSt) : KI l yX4_asksIn wsX4_asksIn ({ frames := 2, cells := 0, slots := 0, locals := 40 }) g [.ref (a 0)] (wM g a m9) (MasksIn (ms m9)) (wM g a m9) 0 0 := by
  refine k_begin (cc := cX4_asksIn) (maxL := 2) (ret := (some .int)) (Qc := fun A => kQi g (MasksIn (ms m9)) (wM g a m9) A) (by decide) rfl (Nat.le_of_ble_eq_true rfl) ?_
  intro p e s m below meth c A ls hF hr hlocks hin hE hP hD hS hA hl
  obtain ⟨hx, hb, hml, hown, hts⟩ := id hF
  have hown : s.vm.findClass RX4 = some m.cls := hown
  have hl : lv_has ls 2 [(0, .ref (a 0))] := hl
  have hiX4 : ∀ w ∈ wsX40, w ∈ wsX4_asksIn := fun _ h => List.mem_cons_of_mem _ (List.mem_append_right _ (h))
  have f7 : (Cond.fieldLink RX4 7 "ConcertUsherModel" "s" "[I").before _ s = true := hts _ (List.mem_of_getElem? (i := 1) rfl)
  refine lv_aload_n hx hb dX4_asksIn_0 rfl (lv_at hl 0 rfl) ?_
  refine k_Vi (As := []) (r := (Mdue (ms m9))) hF (c_X4_due l g a m9) (cwV 0 hts gX4_asksIn_X4_due rfl rfl rfl (by decide +kernel) ⟨Nat.le_of_ble_eq_true rfl, Nat.le_of_ble_eq_true rfl⟩) hE hP hD hS hA (k_pall _) ((k_pall _).symm) 0 rfl rfl rfl rfl hl.1 rfl (Nat.le_of_ble_eq_true rfl) dX4_asksIn_1 ⟨Nat.le_of_ble_eq_true rfl, Nat.le_of_ble_eq_true rfl⟩ (fun H locs hP hD hS => ?_)
  have hP : va_P g.1 vwCl (wM g a m9) _ := hP
  have hD : va_D A (wM g a m9) := hD
  refine lv_aload_n hx hb dX4_asksIn_4 rfl (lv_at hl 0 rfl) ?_
  refine va_get (D := g.1) (ci := 4) (v := .ref (a 1)) (C := RX4) (T := TX4) (N := 12) hx hb hts hiX4 hown hE.1 hP 0 rfl rfl 1 (by decide) f7 (fun _ h9 => h9) rfl dX4_asksIn_5 ?_
  refine lv_bipush (v := (nI 6)) hx hb dX4_asksIn_8 (by decide) ?_
  refine k_iald (f := (ms m9)) hx hb hE hP 1 rfl 6 rfl (by decide) (by decide) dX4_asksIn_10 ?_
  refine lv_isub hx hb dX4_asksIn_11 ?_
  refine lv_istore_n (lv' := [(1, .int ((Mdue (ms m9)) - ((ms m9) 6))), (0, .ref (a 0))]) hx hb dX4_asksIn_12 rfl hl (by decide) rfl (fun ls hl => ?_)
  refine lv_iload_n hx hb dX4_asksIn_13 rfl (lv_at hl 0 rfl) ?_
  refine lv_iconst (v := (nI 1)) hx hb dX4_asksIn_14 (by decide) ?_
  refine lv_icmp_ge (tgt := 22) hx hb dX4_asksIn_15 (by decide) (fun c1 => ?_) (fun c1 => ?_)
  ·
    refine lv_iload_n hx hb dX4_asksIn_22 rfl (lv_at hl 0 rfl) ?_
    have hP : va_P g.1 vwCl (wM g a m9) _ := hP
    have hD : va_D A (wM g a m9) := hD
    exact k_iret hx hb hr hlocks rfl (by first | (simp only [MasksIn, bI, if_pos c1, if_neg (not_not_intro c1)]; done) | (simp only [MasksIn, bI, if_pos c1, if_neg (not_not_intro c1)]; with_reducible rfl) | with_reducible rfl | (simp [MasksIn, bI, if_pos c1, if_neg (not_not_intro c1)]; done)) hP hD hS (Nat.le_of_ble_eq_true rfl) (Nat.le_of_ble_eq_true rfl) dX4_asksIn_23
  ·
    refine lv_iconst (v := (nI 1)) hx hb dX4_asksIn_18 (by decide) ?_
    refine lv_goto (tgt := 23) hx hb dX4_asksIn_19 (by decide) ?_
    have hP : va_P g.1 vwCl (wM g a m9) _ := hP
    have hD : va_D A (wM g a m9) := hD
    exact k_iret hx hb hr hlocks rfl (by first | (simp only [MasksIn, bI, if_neg c1, if_pos c1]; done) | (simp only [MasksIn, bI, if_neg c1, if_pos c1]; with_reducible rfl) | with_reducible rfl | (simp [MasksIn, bI, if_neg c1, if_pos c1]; done)) hP hD hS (Nat.le_of_ble_eq_true rfl) (Nat.le_of_ble_eq_true rfl) dX4_asksIn_23
set_option maxHeartbeats 4000000 in
set_option maxRecDepth 100000 in
theorem c_X4_minutesToQuestion (l : Launch) (g : kG) (a : Nat → Nat) (m9 : MSt) (j : Nat) (hj : j ≤ 6) (hjm : msm m9 = nI j) : KI l yX4_minutesToQuestion wsX4_minutesToQuestion ({ frames := 3, cells := 0, slots := 0, locals := 61 }) g [.ref (a 0)] (wM g a m9) (MasksIn (ms m9)) (wM g a (sMth m9 (nI 0))) 0 0 := by
  refine k_begin (cc := cX4_minutesToQuestion) (maxL := 1) (ret := (some .int)) (Qc := fun A => kQi g (MasksIn (ms m9)) (wM g a (sMth m9 (nI 0))) A) (by decide) rfl (Nat.le_of_ble_eq_true rfl) ?_
  intro p e s m below meth c A ls hF hr hlocks hin hE hP hD hS hA hl
  obtain ⟨hx, hb, hml, hown, hts⟩ := id hF
  have hown : s.vm.findClass RX4 = some m.cls := hown
  have hl : lv_has ls 1 [(0, .ref (a 0))] := hl
  have hiX4 : ∀ w ∈ wsX40, w ∈ wsX4_minutesToQuestion := fun _ h => List.mem_cons_of_mem _ (List.mem_append_right _ (h))
  have f25 : (Cond.fieldLink RX4 25 "ConcertUsherModel" "thrown" "I").before _ s = true := hts _ (List.mem_of_getElem? (i := 1) rfl)
  refine lv_aload_n hx hb dX4_minutesToQuestion_0 rfl (lv_at hl 0 rfl) ?_
  refine lv_iconst (v := (nI 0)) hx hb dX4_minutesToQuestion_1 (by decide) ?_
  refine va_put (D := g.1) (ci := 4) (v := .int (nI 0)) (ty := .int) (C := RX4) (T := TX4) (N := 12) hx hb hts hiX4 tyX4 tyX4_ok nmX4 hown hE.1 hP hD hS 0 rfl rfl 0 (by decide) f25 (fun _ h9 => h9) rfl (tyX4_ok 0 (by decide)) rfl rfl (Nat.le_of_ble_eq_true rfl) dX4_minutesToQuestion_2 (fun H locs hP hD hS => ?_)
  have hP : va_P g.1 vwCl (wM g a (sMth m9 (nI 0))) _ := hP
  have hD : va_D A (wM g a (sMth m9 (nI 0))) := hD
  refine lv_aload_n hx hb dX4_minutesToQuestion_5 rfl (lv_at hl 0 rfl) ?_
  refine k_Vi (As := []) (r := (MasksIn (ms m9))) hF (c_X4_asksIn l g a (sMth m9 (nI 0))) (cwV 0 hts gX4_minutesToQuestion_X4_asksIn rfl rfl rfl (by decide +kernel) ⟨Nat.le_of_ble_eq_true rfl, Nat.le_of_ble_eq_true rfl⟩) hE hP hD hS hA (k_pall _) ((k_pall _).symm) 0 rfl rfl rfl rfl hl.1 rfl (Nat.le_of_ble_eq_true rfl) dX4_minutesToQuestion_6 ⟨Nat.le_of_ble_eq_true rfl, Nat.le_of_ble_eq_true rfl⟩ (fun H locs hP hD hS => ?_)
  have hP : va_P g.1 vwCl (wM g a (sMth m9 (nI 0))) _ := hP
  have hD : va_D A (wM g a (sMth m9 (nI 0))) := hD
  have hP : va_P g.1 vwCl (wM g a (sMth m9 (nI 0))) _ := hP
  have hD : va_D A (wM g a (sMth m9 (nI 0))) := hD
  exact k_iret hx hb hr hlocks rfl rfl hP hD hS (Nat.le_of_ble_eq_true rfl) (Nat.le_of_ble_eq_true rfl) dX4_minutesToQuestion_9
