set_option maxHeartbeats 4000000 in
set_option maxRecDepth 100000 in
theorem c_X4_count (l : Launch) (g : kG) (a : Nat → Nat) (m9 : MSt) (j : Nat) (hj : j ≤ 6) (hjm : msm m9 = nI j) (what : Int32) : KI l yX4_count wsX4_count ({ frames := 1, cells := 0, slots := 0, locals := 22 }) g [.ref (a 0), .int what] (wM g a m9) (McntR what m9) (wM g a (McntS what m9)) 0 0 := by
  refine k_begin (cc := cX4_count) (maxL := 2) (ret := (some .int)) (Qc := fun A => kQi g (McntR what m9) (wM g a (McntS what m9)) A) (by decide) rfl (Nat.le_of_ble_eq_true rfl) ?_
  intro p e s m below meth c A ls hF hr hlocks hin hE hP hD hS hA hl
  obtain ⟨hx, hb, hml, hown, hts⟩ := id hF
  have hown : s.vm.findClass RX4 = some m.cls := hown
  have hl : lv_has ls 2 [(0, .ref (a 0)), (1, .int what)] := hl
  have hiX4 : ∀ w ∈ wsX40, w ∈ wsX4_count := fun _ h => List.mem_cons_of_mem _ (List.mem_append_right _ (h))
  have f25 : (Cond.fieldLink RX4 25 "ConcertUsherModel" "thrown" "I").before _ s = true := hts _ (List.mem_of_getElem? (i := 1) rfl)
  have f7 : (Cond.fieldLink RX4 7 "ConcertUsherModel" "s" "[I").before _ s = true := hts _ (List.mem_of_getElem? (i := 2) rfl)
  refine lv_aload_n hx hb dX4_count_0 rfl (lv_at hl 0 rfl) ?_
  refine lv_iconst (v := (nI 0)) hx hb dX4_count_1 (by decide) ?_
  refine va_put (D := g.1) (ci := 4) (v := .int (nI 0)) (ty := .int) (C := RX4) (T := TX4) (N := 12) hx hb hts hiX4 tyX4 tyX4_ok nmX4 hown hE.1 hP hD hS 0 rfl rfl 0 (by decide) f25 (fun _ h9 => h9) rfl (tyX4_ok 0 (by decide)) rfl rfl (Nat.le_of_ble_eq_true rfl) dX4_count_2 (fun H locs hP hD hS => ?_)
  have hP : va_P g.1 vwCl (wM g a (sMth m9 (nI 0))) _ := hP
  have hD : va_D A (wM g a (sMth m9 (nI 0))) := hD
  refine lv_iload_n hx hb dX4_count_5 rfl (lv_at hl 1 rfl) ?_
  refine lv_iconst (v := (nI 0)) hx hb dX4_count_6 (by decide) ?_
  refine lv_iconst (v := (nI 5)) hx hb dX4_count_7 (by decide) ?_
  refine k_Si (w0 := []) (w1 := []) (As := [.int what, .int (nI 0), .int (nI 5)]) (r := (bI ((nI 0) ≤ what ∧ what ≤ (nI 5)))) hF (c_X4_in l g what (nI 0) (nI 5)) (va_cwS 3 hts gX4_count_X4_in rfl rfl rfl (by decide +kernel) ⟨Nat.le_of_ble_eq_true rfl, Nat.le_of_ble_eq_true rfl⟩) hE hP hD hS hA (List.Perm.refl _) (List.Perm.refl _) rfl hl.1 rfl (Nat.le_of_ble_eq_true rfl) dX4_count_8 ⟨Nat.le_of_ble_eq_true rfl, Nat.le_of_ble_eq_true rfl⟩ (fun H locs hP hD hS => ?_)
  have hP : va_P g.1 vwCl (wM g a (sMth m9 (nI 0))) _ := hP
  have hD : va_D A (wM g a (sMth m9 (nI 0))) := hD
  refine k_ifeqB (tgt := 26) hx hb dX4_count_11 (by decide) (fun c1 => ?_) (fun c1 => ?_)
  ·
    refine lv_aload_n hx hb dX4_count_26 rfl (lv_at hl 0 rfl) ?_
    refine lv_iconst (v := (nI 1)) hx hb dX4_count_27 (by decide) ?_
    refine k_Vi (As := [.int (nI 1)]) (r := (nI 0)) hF (c_X4_fails l g a (sMth m9 (nI 0)) (nI 1)) (cwV 1 hts gX4_count_X4_fails rfl rfl rfl (by decide +kernel) ⟨Nat.le_of_ble_eq_true rfl, Nat.le_of_ble_eq_true rfl⟩) hE hP hD hS hA (k_pall _) ((k_pall _).symm) 0 rfl rfl rfl rfl hl.1 rfl (Nat.le_of_ble_eq_true rfl) dX4_count_28 ⟨Nat.le_of_ble_eq_true rfl, Nat.le_of_ble_eq_true rfl⟩ (fun H locs hP hD hS => ?_)
    have hP : va_P g.1 vwCl (wM g a (sMth m9 (nI 1))) _ := hP
    have hD : va_D A (wM g a (sMth m9 (nI 1))) := hD
    have e2 : (McntS what m9) = (sMth m9 (nI 1)) := (by first | (simp only [McntS, McntR, if_neg c1, if_pos c1]; done) | (simp only [McntS, McntR, if_neg c1, if_pos c1]; with_reducible rfl) | with_reducible rfl | (simp [McntS, McntR, if_neg c1, if_pos c1]; done))
    have hP : va_P g.1 vwCl (wM g a (McntS what m9)) H := by rw [e2]; exact hP
    have hD : va_D A (wM g a (McntS what m9)) := by rw [e2]; exact hD
    exact k_iret hx hb hr hlocks rfl (by first | (simp only [McntS, McntR, bI, if_neg c1, if_pos c1]; done) | (simp only [McntS, McntR, bI, if_neg c1, if_pos c1]; with_reducible rfl) | with_reducible rfl | (simp [McntS, McntR, bI, if_neg c1, if_pos c1]; done)) hP hD hS (Nat.le_of_ble_eq_true rfl) (Nat.le_of_ble_eq_true rfl) dX4_count_31
  ·
    obtain ⟨k9, hk9, hk9e⟩ := in_nat (by decide) (by decide) c1
    have hk9c : what.toNatClampNeg = k9 := cl_eq hk9e (by omega)
    refine lv_aload_n hx hb dX4_count_14 rfl (lv_at hl 0 rfl) ?_
    refine va_get (D := g.1) (ci := 4) (v := .ref (a 1)) (C := RX4) (T := TX4) (N := 12) hx hb hts hiX4 hown hE.1 hP 0 rfl rfl 1 (by decide) f7 (fun _ h9 => h9) rfl dX4_count_15 ?_
    refine lv_bipush (v := (nI 7)) hx hb dX4_count_18 (by decide) ?_
    refine lv_iload_n hx hb dX4_count_20 rfl (lv_at hl 1 rfl) ?_
    refine k_top hk9e ?_
    refine lv_iadd hx hb dX4_count_21 ?_
    refine k_top (nI_add _ _) ?_
    refine k_iald (f := (ms m9)) hx hb hE hP 1 rfl (7 + k9) rfl (by omega) (by decide) dX4_count_22 ?_
    refine lv_goto (tgt := 31) hx hb dX4_count_23 (by decide) ?_
    have e3 : (McntS what m9) = (sMth m9 (nI 0)) := (by first | (simp only [McntS, McntR, if_pos c1, if_neg (not_not_intro c1), hk9c]; done) | (simp only [McntS, McntR, if_pos c1, if_neg (not_not_intro c1), hk9c]; with_reducible rfl) | with_reducible rfl | (simp [McntS, McntR, if_pos c1, if_neg (not_not_intro c1), hk9c]; done))
    have hP : va_P g.1 vwCl (wM g a (McntS what m9)) H := by rw [e3]; exact hP
    have hD : va_D A (wM g a (McntS what m9)) := by rw [e3]; exact hD
    exact k_iret hx hb hr hlocks rfl (by first | (simp only [McntS, McntR, bI, if_pos c1, if_neg (not_not_intro c1), hk9c]; done) | (simp only [McntS, McntR, bI, if_pos c1, if_neg (not_not_intro c1), hk9c]; with_reducible rfl) | with_reducible rfl | (simp [McntS, McntR, bI, if_pos c1, if_neg (not_not_intro c1), hk9c]; done)) hP hD hS (Nat.le_of_ble_eq_true rfl) (Nat.le_of_ble_eq_true rfl) dX4_count_31
