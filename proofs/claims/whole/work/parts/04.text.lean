/-! what the buffer's methods do -/
set_option maxHeartbeats 4000000 in
set_option maxRecDepth 100000 in
theorem c_X0_isBetween (l : Launch) (g : kG) (x y z : Nat) (hx9 : x < 65536) (hy9 : y < 65536) (hz9 : z < 65536) : KI l yX0_isBetween wsX0_isBetween ({ frames := 0, cells := 0, slots := 0, locals := 0 }) g [.int (nI x), .int (nI y), .int (nI z)] [] (bI (y ≤ x ∧ x ≤ z)) [] 0 0 := by
  refine k_begin (cc := cX0_isBetween) (maxL := 3) (ret := (some .boolean)) (Qc := fun A => kQi g (bI (y ≤ x ∧ x ≤ z)) [] A) (by decide) rfl (Nat.le_of_ble_eq_true rfl) ?_
  intro p e s m below meth c A ls hF hr hlocks hin hE hP hD hS hA hl
  obtain ⟨hx, hb, hml, hown, hts⟩ := id hF
  have hown : s.vm.findClass RX0 = some m.cls := hown
  have hl : lv_has ls 3 [(0, .int (nI x)), (1, .int (nI y)), (2, .int (nI z))] := hl
  refine lv_iload_n hx hb dX0_isBetween_0 rfl (lv_at hl 0 rfl) ?_
  refine lv_iload_n hx hb dX0_isBetween_1 rfl (lv_at hl 1 rfl) ?_
  refine k_ltN (tgt := 14) hx hb (by omega) (by omega) dX0_isBetween_2 (by decide) (fun c1 => ?_) (fun c1 => ?_)
  ·
    refine lv_iconst (v := (nI 0)) hx hb dX0_isBetween_14 (by decide) ?_
    have hP : va_P g.1 vwCl [] _ := hP
    have hD : va_D A [] := hD
    exact k_iret hx hb hr hlocks rfl (bI_f (by omega)).symm hP hD hS (Nat.le_of_ble_eq_true rfl) (Nat.le_of_ble_eq_true rfl) dX0_isBetween_15
  ·
    refine lv_iload_n hx hb dX0_isBetween_5 rfl (lv_at hl 0 rfl) ?_
    refine lv_iload_n hx hb dX0_isBetween_6 rfl (lv_at hl 2 rfl) ?_
    refine k_gtN (tgt := 14) hx hb (by omega) (by omega) dX0_isBetween_7 (by decide) (fun c2 => ?_) (fun c2 => ?_)
    ·
      refine lv_iconst (v := (nI 0)) hx hb dX0_isBetween_14 (by decide) ?_
      have hP : va_P g.1 vwCl [] _ := hP
      have hD : va_D A [] := hD
      exact k_iret hx hb hr hlocks rfl (bI_f (by omega)).symm hP hD hS (Nat.le_of_ble_eq_true rfl) (Nat.le_of_ble_eq_true rfl) dX0_isBetween_15
    ·
      refine lv_iconst (v := (nI 1)) hx hb dX0_isBetween_10 (by decide) ?_
      refine lv_goto (tgt := 15) hx hb dX0_isBetween_11 (by decide) ?_
      have hP : va_P g.1 vwCl [] _ := hP
      have hD : va_D A [] := hD
      exact k_iret hx hb hr hlocks rfl (bI_t (by omega)).symm hP hD hS (Nat.le_of_ble_eq_true rfl) (Nat.le_of_ble_eq_true rfl) dX0_isBetween_15
set_option maxHeartbeats 4000000 in
set_option maxRecDepth 100000 in
theorem c_X0_stateAfterEvent (l : Launch) (g : kG) (q : Nat) (hq : q < 65536) : KI l yX0_stateAfterEvent wsX0_stateAfterEvent ({ frames := 0, cells := 0, slots := 0, locals := 0 }) g [.int (nI q)] [] (nI (SEv q)) [] 0 0 := by
  refine k_begin (cc := cX0_stateAfterEvent) (maxL := 1) (ret := (some .int)) (Qc := fun A => kQi g (nI (SEv q)) [] A) (by decide) rfl (Nat.le_of_ble_eq_true rfl) ?_
  intro p e s m below meth c A ls hF hr hlocks hin hE hP hD hS hA hl
  obtain ⟨hx, hb, hml, hown, hts⟩ := id hF
  have hown : s.vm.findClass RX0 = some m.cls := hown
  have hl : lv_has ls 1 [(0, .int (nI q))] := hl
  refine lv_iload_n hx hb dX0_stateAfterEvent_0 rfl (lv_at hl 0 rfl) ?_
  refine lv_bipush (v := (nI 59)) hx hb dX0_stateAfterEvent_1 (by decide) ?_
  refine k_neN (tgt := 10) hx hb (by omega) (by decide) dX0_stateAfterEvent_3 (by decide) (fun c1 => ?_) (fun c1 => ?_)
  ·
    refine lv_bipush (v := (nI 8)) hx hb dX0_stateAfterEvent_10 (by decide) ?_
    have hP : va_P g.1 vwCl [] _ := hP
    have hD : va_D A [] := hD
    exact k_iret hx hb hr hlocks rfl (by first | (simp only [SEv, bI, if_neg c1, if_pos c1]; done) | (simp only [SEv, bI, if_neg c1, if_pos c1]; rfl) | rfl | (simp [SEv, bI, if_neg c1, if_pos c1]; done)) hP hD hS (Nat.le_of_ble_eq_true rfl) (Nat.le_of_ble_eq_true rfl) dX0_stateAfterEvent_12
  ·
    refine lv_iconst (v := (nI 0)) hx hb dX0_stateAfterEvent_6 (by decide) ?_
    refine lv_goto (tgt := 12) hx hb dX0_stateAfterEvent_7 (by decide) ?_
    have hP : va_P g.1 vwCl [] _ := hP
    have hD : va_D A [] := hD
    exact k_iret hx hb hr hlocks rfl (by first | (simp only [SEv, bI, if_pos c1, if_neg (not_not_intro c1)]; done) | (simp only [SEv, bI, if_pos c1, if_neg (not_not_intro c1)]; rfl) | rfl | (simp [SEv, bI, if_pos c1, if_neg (not_not_intro c1)]; done)) hP hD hS (Nat.le_of_ble_eq_true rfl) (Nat.le_of_ble_eq_true rfl) dX0_stateAfterEvent_12
set_option maxHeartbeats 4000000 in
set_option maxRecDepth 100000 in
theorem c_X0_stateAfterFirstDigit (l : Launch) (g : kG) (q : Nat) (hq : q < 65536) : KI l yX0_stateAfterFirstDigit wsX0_stateAfterFirstDigit ({ frames := 1, cells := 0, slots := 0, locals := 22 }) g [.int (nI q)] [] (nI (SDig q)) [] 0 0 := by
  refine k_begin (cc := cX0_stateAfterFirstDigit) (maxL := 1) (ret := (some .int)) (Qc := fun A => kQi g (nI (SDig q)) [] A) (by decide) rfl (Nat.le_of_ble_eq_true rfl) ?_
  intro p e s m below meth c A ls hF hr hlocks hin hE hP hD hS hA hl
  obtain ⟨hx, hb, hml, hown, hts⟩ := id hF
  have hown : s.vm.findClass RX0 = some m.cls := hown
  have hl : lv_has ls 1 [(0, .int (nI q))] := hl
  refine lv_iload_n hx hb dX0_stateAfterFirstDigit_0 rfl (lv_at hl 0 rfl) ?_
  refine lv_bipush (v := (nI 49)) hx hb dX0_stateAfterFirstDigit_1 (by decide) ?_
  refine lv_bipush (v := (nI 53)) hx hb dX0_stateAfterFirstDigit_3 (by decide) ?_
  refine k_Si (w0 := []) (w1 := []) (As := [.int (nI q), .int (nI 49), .int (nI 53)]) (r := (bI (49 ≤ q ∧ q ≤ 53))) hF (c_X0_isBetween l g q 49 53 hq (by decide) (by decide)) (va_cwS 3 hts gX0_stateAfterFirstDigit_X0_isBetween rfl rfl rfl (by decide +kernel) ⟨Nat.le_of_ble_eq_true rfl, Nat.le_of_ble_eq_true rfl⟩) hE hP hD hS hA (List.Perm.refl _) (List.Perm.refl _) rfl hl.1 rfl (Nat.le_of_ble_eq_true rfl) dX0_stateAfterFirstDigit_5 ⟨Nat.le_of_ble_eq_true rfl, Nat.le_of_ble_eq_true rfl⟩ (fun H locs hP hD hS => ?_)
  have hP : va_P g.1 vwCl [] _ := hP
  have hD : va_D A [] := hD
  refine k_ifeqB (tgt := 13) hx hb dX0_stateAfterFirstDigit_8 (by decide) (fun c1 => ?_) (fun c1 => ?_)
  ·
    refine lv_iload_n hx hb dX0_stateAfterFirstDigit_13 rfl (lv_at hl 0 rfl) ?_
    refine lv_bipush (v := (nI 54)) hx hb dX0_stateAfterFirstDigit_14 (by decide) ?_
    refine k_neN (tgt := 22) hx hb (by omega) (by decide) dX0_stateAfterFirstDigit_16 (by decide) (fun c2 => ?_) (fun c2 => ?_)
    ·
      refine lv_iload_n hx hb dX0_stateAfterFirstDigit_22 rfl (lv_at hl 0 rfl) ?_
      refine lv_bipush (v := (nI 55)) hx hb dX0_stateAfterFirstDigit_23 (by decide) ?_
      refine lv_bipush (v := (nI 57)) hx hb dX0_stateAfterFirstDigit_25 (by decide) ?_
      refine k_Si (w0 := []) (w1 := []) (As := [.int (nI q), .int (nI 55), .int (nI 57)]) (r := (bI (55 ≤ q ∧ q ≤ 57))) hF (c_X0_isBetween l g q 55 57 hq (by decide) (by decide)) (va_cwS 3 hts gX0_stateAfterFirstDigit_X0_isBetween rfl rfl rfl (by decide +kernel) ⟨Nat.le_of_ble_eq_true rfl, Nat.le_of_ble_eq_true rfl⟩) hE hP hD hS hA (List.Perm.refl _) (List.Perm.refl _) rfl hl.1 rfl (Nat.le_of_ble_eq_true rfl) dX0_stateAfterFirstDigit_27 ⟨Nat.le_of_ble_eq_true rfl, Nat.le_of_ble_eq_true rfl⟩ (fun H locs hP hD hS => ?_)
      have hP : va_P g.1 vwCl [] _ := hP
      have hD : va_D A [] := hD
      refine k_ifeqB (tgt := 38) hx hb dX0_stateAfterFirstDigit_30 (by decide) (fun c3 => ?_) (fun c3 => ?_)
      ·
        refine lv_bipush (v := (nI 8)) hx hb dX0_stateAfterFirstDigit_38 (by decide) ?_
        have hP : va_P g.1 vwCl [] _ := hP
        have hD : va_D A [] := hD
        exact k_iret hx hb hr hlocks rfl (by first | (simp only [SDig, bI, if_neg c1, if_pos c1, if_neg c2, if_pos c2, if_neg c3, if_pos c3]; done) | (simp only [SDig, bI, if_neg c1, if_pos c1, if_neg c2, if_pos c2, if_neg c3, if_pos c3]; rfl) | rfl | (simp [SDig, bI, if_neg c1, if_pos c1, if_neg c2, if_pos c2, if_neg c3, if_pos c3]; done)) hP hD hS (Nat.le_of_ble_eq_true rfl) (Nat.le_of_ble_eq_true rfl) dX0_stateAfterFirstDigit_40
      ·
        refine lv_bipush (v := (nI 7)) hx hb dX0_stateAfterFirstDigit_33 (by decide) ?_
        refine lv_goto (tgt := 40) hx hb dX0_stateAfterFirstDigit_35 (by decide) ?_
        have hP : va_P g.1 vwCl [] _ := hP
        have hD : va_D A [] := hD
        exact k_iret hx hb hr hlocks rfl (by first | (simp only [SDig, bI, if_neg c1, if_pos c1, if_neg c2, if_pos c2, if_pos c3, if_neg (not_not_intro c3)]; done) | (simp only [SDig, bI, if_neg c1, if_pos c1, if_neg c2, if_pos c2, if_pos c3, if_neg (not_not_intro c3)]; rfl) | rfl | (simp [SDig, bI, if_neg c1, if_pos c1, if_neg c2, if_pos c2, if_pos c3, if_neg (not_not_intro c3)]; done)) hP hD hS (Nat.le_of_ble_eq_true rfl) (Nat.le_of_ble_eq_true rfl) dX0_stateAfterFirstDigit_40
    ·
      refine lv_bipush (v := (nI 6)) hx hb dX0_stateAfterFirstDigit_19 (by decide) ?_
      have hP : va_P g.1 vwCl [] _ := hP
      have hD : va_D A [] := hD
      exact k_iret hx hb hr hlocks rfl (by first | (simp only [SDig, bI, if_neg c1, if_pos c1, if_pos c2, if_neg (not_not_intro c2)]; done) | (simp only [SDig, bI, if_neg c1, if_pos c1, if_pos c2, if_neg (not_not_intro c2)]; rfl) | rfl | (simp [SDig, bI, if_neg c1, if_pos c1, if_pos c2, if_neg (not_not_intro c2)]; done)) hP hD hS (Nat.le_of_ble_eq_true rfl) (Nat.le_of_ble_eq_true rfl) dX0_stateAfterFirstDigit_21
  ·
    refine lv_iconst (v := (nI 5)) hx hb dX0_stateAfterFirstDigit_11 (by decide) ?_
    have hP : va_P g.1 vwCl [] _ := hP
    have hD : va_D A [] := hD
    exact k_iret hx hb hr hlocks rfl (by first | (simp only [SDig, bI, if_pos c1, if_neg (not_not_intro c1)]; done) | (simp only [SDig, bI, if_pos c1, if_neg (not_not_intro c1)]; rfl) | rfl | (simp [SDig, bI, if_pos c1, if_neg (not_not_intro c1)]; done)) hP hD hS (Nat.le_of_ble_eq_true rfl) (Nat.le_of_ble_eq_true rfl) dX0_stateAfterFirstDigit_12
set_option maxHeartbeats 4000000 in
set_option maxRecDepth 100000 in
theorem c_X0_stateAfterLetter (l : Launch) (g : kG) (q : Nat) (hq : q < 65536) : KI l yX0_stateAfterLetter wsX0_stateAfterLetter ({ frames := 0, cells := 0, slots := 0, locals := 0 }) g [.int (nI q)] [] (nI (SLet q)) [] 0 0 := by
  refine k_begin (cc := cX0_stateAfterLetter) (maxL := 1) (ret := (some .int)) (Qc := fun A => kQi g (nI (SLet q)) [] A) (by decide) rfl (Nat.le_of_ble_eq_true rfl) ?_
  intro p e s m below meth c A ls hF hr hlocks hin hE hP hD hS hA hl
  obtain ⟨hx, hb, hml, hown, hts⟩ := id hF
  have hown : s.vm.findClass RX0 = some m.cls := hown
  have hl : lv_has ls 1 [(0, .int (nI q))] := hl
  refine lv_iload_n hx hb dX0_stateAfterLetter_0 rfl (lv_at hl 0 rfl) ?_
  by_cases hout : q < 99 ∨ 116 < q
  ·
    refine lv_tableOut (tgt := 96) hx hb dX0_stateAfterLetter_1 (by rw [nI_toInt (by omega)]; omega) (by decide) ?_
    refine lv_bipush (v := (nI 8)) hx hb dX0_stateAfterLetter_96 (by decide) ?_
    have hP : va_P g.1 vwCl [] _ := hP
    have hD : va_D A [] := hD
    exact k_iret hx hb hr hlocks rfl (congrArg nI (by unfold SLet; (repeat' split) <;> omega)) hP hD hS (Nat.le_of_ble_eq_true rfl) (Nat.le_of_ble_eq_true rfl) dX0_stateAfterLetter_98
  ·
    have hcs : q = 99 ∨ q = 100 ∨ q = 101 ∨ q = 102 ∨ q = 103 ∨ q = 104 ∨ q = 105 ∨ q = 106 ∨ q = 107 ∨ q = 108 ∨ q = 109 ∨ q = 110 ∨ q = 111 ∨ q = 112 ∨ q = 113 ∨ q = 114 ∨ q = 115 ∨ q = 116 := by omega
    rcases hcs with rfl | rfl | rfl | rfl | rfl | rfl | rfl | rfl | rfl | rfl | rfl | rfl | rfl | rfl | rfl | rfl | rfl | rfl
    ·
      refine lv_tableIn (off := 87) (tgt := 88) hx hb dX0_stateAfterLetter_1 (by decide) (by decide) rfl (by decide) ?_
      refine lv_iconst (v := (nI 1)) hx hb dX0_stateAfterLetter_88 (by decide) ?_
      have hP : va_P g.1 vwCl [] _ := hP
      have hD : va_D A [] := hD
      exact k_iret hx hb hr hlocks rfl (by decide) hP hD hS (Nat.le_of_ble_eq_true rfl) (Nat.le_of_ble_eq_true rfl) dX0_stateAfterLetter_89
    ·
      refine lv_tableIn (off := 95) (tgt := 96) hx hb dX0_stateAfterLetter_1 (by decide) (by decide) rfl (by decide) ?_
      refine lv_bipush (v := (nI 8)) hx hb dX0_stateAfterLetter_96 (by decide) ?_
      have hP : va_P g.1 vwCl [] _ := hP
      have hD : va_D A [] := hD
      exact k_iret hx hb hr hlocks rfl (by decide) hP hD hS (Nat.le_of_ble_eq_true rfl) (Nat.le_of_ble_eq_true rfl) dX0_stateAfterLetter_98
    ·
      refine lv_tableIn (off := 95) (tgt := 96) hx hb dX0_stateAfterLetter_1 (by decide) (by decide) rfl (by decide) ?_
      refine lv_bipush (v := (nI 8)) hx hb dX0_stateAfterLetter_96 (by decide) ?_
      have hP : va_P g.1 vwCl [] _ := hP
      have hD : va_D A [] := hD
      exact k_iret hx hb hr hlocks rfl (by decide) hP hD hS (Nat.le_of_ble_eq_true rfl) (Nat.le_of_ble_eq_true rfl) dX0_stateAfterLetter_98
    ·
      refine lv_tableIn (off := 95) (tgt := 96) hx hb dX0_stateAfterLetter_1 (by decide) (by decide) rfl (by decide) ?_
      refine lv_bipush (v := (nI 8)) hx hb dX0_stateAfterLetter_96 (by decide) ?_
      have hP : va_P g.1 vwCl [] _ := hP
      have hD : va_D A [] := hD
      exact k_iret hx hb hr hlocks rfl (by decide) hP hD hS (Nat.le_of_ble_eq_true rfl) (Nat.le_of_ble_eq_true rfl) dX0_stateAfterLetter_98
    ·
      refine lv_tableIn (off := 95) (tgt := 96) hx hb dX0_stateAfterLetter_1 (by decide) (by decide) rfl (by decide) ?_
      refine lv_bipush (v := (nI 8)) hx hb dX0_stateAfterLetter_96 (by decide) ?_
      have hP : va_P g.1 vwCl [] _ := hP
      have hD : va_D A [] := hD
      exact k_iret hx hb hr hlocks rfl (by decide) hP hD hS (Nat.le_of_ble_eq_true rfl) (Nat.le_of_ble_eq_true rfl) dX0_stateAfterLetter_98
    ·
      refine lv_tableIn (off := 95) (tgt := 96) hx hb dX0_stateAfterLetter_1 (by decide) (by decide) rfl (by decide) ?_
      refine lv_bipush (v := (nI 8)) hx hb dX0_stateAfterLetter_96 (by decide) ?_
      have hP : va_P g.1 vwCl [] _ := hP
      have hD : va_D A [] := hD
      exact k_iret hx hb hr hlocks rfl (by decide) hP hD hS (Nat.le_of_ble_eq_true rfl) (Nat.le_of_ble_eq_true rfl) dX0_stateAfterLetter_98
    ·
      refine lv_tableIn (off := 95) (tgt := 96) hx hb dX0_stateAfterLetter_1 (by decide) (by decide) rfl (by decide) ?_
      refine lv_bipush (v := (nI 8)) hx hb dX0_stateAfterLetter_96 (by decide) ?_
      have hP : va_P g.1 vwCl [] _ := hP
      have hD : va_D A [] := hD
      exact k_iret hx hb hr hlocks rfl (by decide) hP hD hS (Nat.le_of_ble_eq_true rfl) (Nat.le_of_ble_eq_true rfl) dX0_stateAfterLetter_98
    ·
      refine lv_tableIn (off := 95) (tgt := 96) hx hb dX0_stateAfterLetter_1 (by decide) (by decide) rfl (by decide) ?_
      refine lv_bipush (v := (nI 8)) hx hb dX0_stateAfterLetter_96 (by decide) ?_
      have hP : va_P g.1 vwCl [] _ := hP
      have hD : va_D A [] := hD
      exact k_iret hx hb hr hlocks rfl (by decide) hP hD hS (Nat.le_of_ble_eq_true rfl) (Nat.le_of_ble_eq_true rfl) dX0_stateAfterLetter_98
    ·
      refine lv_tableIn (off := 95) (tgt := 96) hx hb dX0_stateAfterLetter_1 (by decide) (by decide) rfl (by decide) ?_
      refine lv_bipush (v := (nI 8)) hx hb dX0_stateAfterLetter_96 (by decide) ?_
      have hP : va_P g.1 vwCl [] _ := hP
      have hD : va_D A [] := hD
      exact k_iret hx hb hr hlocks rfl (by decide) hP hD hS (Nat.le_of_ble_eq_true rfl) (Nat.le_of_ble_eq_true rfl) dX0_stateAfterLetter_98
    ·
      refine lv_tableIn (off := 87) (tgt := 88) hx hb dX0_stateAfterLetter_1 (by decide) (by decide) rfl (by decide) ?_
      refine lv_iconst (v := (nI 1)) hx hb dX0_stateAfterLetter_88 (by decide) ?_
      have hP : va_P g.1 vwCl [] _ := hP
      have hD : va_D A [] := hD
      exact k_iret hx hb hr hlocks rfl (by decide) hP hD hS (Nat.le_of_ble_eq_true rfl) (Nat.le_of_ble_eq_true rfl) dX0_stateAfterLetter_89
    ·
      refine lv_tableIn (off := 95) (tgt := 96) hx hb dX0_stateAfterLetter_1 (by decide) (by decide) rfl (by decide) ?_
      refine lv_bipush (v := (nI 8)) hx hb dX0_stateAfterLetter_96 (by decide) ?_
      have hP : va_P g.1 vwCl [] _ := hP
      have hD : va_D A [] := hD
      exact k_iret hx hb hr hlocks rfl (by decide) hP hD hS (Nat.le_of_ble_eq_true rfl) (Nat.le_of_ble_eq_true rfl) dX0_stateAfterLetter_98
    ·
      refine lv_tableIn (off := 95) (tgt := 96) hx hb dX0_stateAfterLetter_1 (by decide) (by decide) rfl (by decide) ?_
      refine lv_bipush (v := (nI 8)) hx hb dX0_stateAfterLetter_96 (by decide) ?_
      have hP : va_P g.1 vwCl [] _ := hP
      have hD : va_D A [] := hD
      exact k_iret hx hb hr hlocks rfl (by decide) hP hD hS (Nat.le_of_ble_eq_true rfl) (Nat.le_of_ble_eq_true rfl) dX0_stateAfterLetter_98
    ·
      refine lv_tableIn (off := 93) (tgt := 94) hx hb dX0_stateAfterLetter_1 (by decide) (by decide) rfl (by decide) ?_
      refine lv_iconst (v := (nI 2)) hx hb dX0_stateAfterLetter_94 (by decide) ?_
      have hP : va_P g.1 vwCl [] _ := hP
      have hD : va_D A [] := hD
      exact k_iret hx hb hr hlocks rfl (by decide) hP hD hS (Nat.le_of_ble_eq_true rfl) (Nat.le_of_ble_eq_true rfl) dX0_stateAfterLetter_95
    ·
      refine lv_tableIn (off := 89) (tgt := 90) hx hb dX0_stateAfterLetter_1 (by decide) (by decide) rfl (by decide) ?_
      refine lv_iconst (v := (nI 3)) hx hb dX0_stateAfterLetter_90 (by decide) ?_
      have hP : va_P g.1 vwCl [] _ := hP
      have hD : va_D A [] := hD
      exact k_iret hx hb hr hlocks rfl (by decide) hP hD hS (Nat.le_of_ble_eq_true rfl) (Nat.le_of_ble_eq_true rfl) dX0_stateAfterLetter_91
    ·
      refine lv_tableIn (off := 95) (tgt := 96) hx hb dX0_stateAfterLetter_1 (by decide) (by decide) rfl (by decide) ?_
      refine lv_bipush (v := (nI 8)) hx hb dX0_stateAfterLetter_96 (by decide) ?_
      have hP : va_P g.1 vwCl [] _ := hP
      have hD : va_D A [] := hD
      exact k_iret hx hb hr hlocks rfl (by decide) hP hD hS (Nat.le_of_ble_eq_true rfl) (Nat.le_of_ble_eq_true rfl) dX0_stateAfterLetter_98
    ·
      refine lv_tableIn (off := 95) (tgt := 96) hx hb dX0_stateAfterLetter_1 (by decide) (by decide) rfl (by decide) ?_
      refine lv_bipush (v := (nI 8)) hx hb dX0_stateAfterLetter_96 (by decide) ?_
      have hP : va_P g.1 vwCl [] _ := hP
      have hD : va_D A [] := hD
      exact k_iret hx hb hr hlocks rfl (by decide) hP hD hS (Nat.le_of_ble_eq_true rfl) (Nat.le_of_ble_eq_true rfl) dX0_stateAfterLetter_98
    ·
      refine lv_tableIn (off := 87) (tgt := 88) hx hb dX0_stateAfterLetter_1 (by decide) (by decide) rfl (by decide) ?_
      refine lv_iconst (v := (nI 1)) hx hb dX0_stateAfterLetter_88 (by decide) ?_
      have hP : va_P g.1 vwCl [] _ := hP
      have hD : va_D A [] := hD
      exact k_iret hx hb hr hlocks rfl (by decide) hP hD hS (Nat.le_of_ble_eq_true rfl) (Nat.le_of_ble_eq_true rfl) dX0_stateAfterLetter_89
    ·
      refine lv_tableIn (off := 91) (tgt := 92) hx hb dX0_stateAfterLetter_1 (by decide) (by decide) rfl (by decide) ?_
      refine lv_iconst (v := (nI 4)) hx hb dX0_stateAfterLetter_92 (by decide) ?_
      have hP : va_P g.1 vwCl [] _ := hP
      have hD : va_D A [] := hD
      exact k_iret hx hb hr hlocks rfl (by decide) hP hD hS (Nat.le_of_ble_eq_true rfl) (Nat.le_of_ble_eq_true rfl) dX0_stateAfterLetter_93
set_option maxHeartbeats 4000000 in
set_option maxRecDepth 100000 in
theorem c_X0_stateAfter (l : Launch) (g : kG) (s0 : Nat) (hs0 : s0 ≤ 8) (q : Nat) (hq : q < 65536) : KI l yX0_stateAfter wsX0_stateAfter ({ frames := 2, cells := 0, slots := 0, locals := 42 }) g [.int (nI s0), .int (nI q)] [] (nI (Sta s0 q)) [] 0 0 := by
  refine k_begin (cc := cX0_stateAfter) (maxL := 2) (ret := (some .int)) (Qc := fun A => kQi g (nI (Sta s0 q)) [] A) (by decide) rfl (Nat.le_of_ble_eq_true rfl) ?_
  intro p e s m below meth c A ls hF hr hlocks hin hE hP hD hS hA hl
  obtain ⟨hx, hb, hml, hown, hts⟩ := id hF
  have hown : s.vm.findClass RX0 = some m.cls := hown
  have hl : lv_has ls 2 [(0, .int (nI s0)), (1, .int (nI q))] := hl
  refine lv_iload_n hx hb dX0_stateAfter_0 rfl (lv_at hl 0 rfl) ?_
  have hcs : s0 = 0 ∨ s0 = 1 ∨ s0 = 2 ∨ s0 = 3 ∨ s0 = 4 ∨ s0 = 5 ∨ s0 = 6 ∨ s0 = 7 ∨ s0 = 8 := by omega
  rcases hcs with rfl | rfl | rfl | rfl | rfl | rfl | rfl | rfl | rfl
  ·
    refine lv_tableIn (off := 47) (tgt := 48) hx hb dX0_stateAfter_1 (by decide) (by decide) rfl (by decide) ?_
    refine lv_iload_n hx hb dX0_stateAfter_48 rfl (lv_at hl 1 rfl) ?_
    refine k_Si (w0 := []) (w1 := []) (As := [.int (nI q)]) (r := (nI (SLet q))) hF (c_X0_stateAfterLetter l g q hq) (va_cwS 1 hts gX0_stateAfter_X0_stateAfterLetter rfl rfl rfl (by decide +kernel) ⟨Nat.le_of_ble_eq_true rfl, Nat.le_of_ble_eq_true rfl⟩) hE hP hD hS hA (List.Perm.refl _) (List.Perm.refl _) rfl hl.1 rfl (Nat.le_of_ble_eq_true rfl) dX0_stateAfter_49 ⟨Nat.le_of_ble_eq_true rfl, Nat.le_of_ble_eq_true rfl⟩ (fun H locs hP hD hS => ?_)
    have hP : va_P g.1 vwCl [] _ := hP
    have hD : va_D A [] := hD
    have hP : va_P g.1 vwCl [] _ := hP
    have hD : va_D A [] := hD
    exact k_iret hx hb hr hlocks rfl (congrArg nI (show SLet q = Sta 0 q from (by first | rfl | (simp only [Sta]; done) | (simp only [Sta]; rfl) | (simp [Sta]; done)))) hP hD hS (Nat.le_of_ble_eq_true rfl) (Nat.le_of_ble_eq_true rfl) dX0_stateAfter_52
  ·
    refine lv_tableIn (off := 52) (tgt := 53) hx hb dX0_stateAfter_1 (by decide) (by decide) rfl (by decide) ?_
    refine lv_iload_n hx hb dX0_stateAfter_53 rfl (lv_at hl 1 rfl) ?_
    refine lv_bipush (v := (nI 48)) hx hb dX0_stateAfter_54 (by decide) ?_
    refine lv_bipush (v := (nI 55)) hx hb dX0_stateAfter_56 (by decide) ?_
    refine k_Si (w0 := []) (w1 := []) (As := [.int (nI q), .int (nI 48), .int (nI 55)]) (r := (bI (48 ≤ q ∧ q ≤ 55))) hF (c_X0_isBetween l g q 48 55 hq (by decide) (by decide)) (va_cwS 3 hts gX0_stateAfter_X0_isBetween rfl rfl rfl (by decide +kernel) ⟨Nat.le_of_ble_eq_true rfl, Nat.le_of_ble_eq_true rfl⟩) hE hP hD hS hA (List.Perm.refl _) (List.Perm.refl _) rfl hl.1 rfl (Nat.le_of_ble_eq_true rfl) dX0_stateAfter_58 ⟨Nat.le_of_ble_eq_true rfl, Nat.le_of_ble_eq_true rfl⟩ (fun H locs hP hD hS => ?_)
    have hP : va_P g.1 vwCl [] _ := hP
    have hD : va_D A [] := hD
    refine k_ifeqB (tgt := 68) hx hb dX0_stateAfter_61 (by decide) (fun c1 => ?_) (fun c1 => ?_)
    ·
      refine lv_bipush (v := (nI 8)) hx hb dX0_stateAfter_68 (by decide) ?_
      have hP : va_P g.1 vwCl [] _ := hP
      have hD : va_D A [] := hD
      exact k_iret hx hb hr hlocks rfl (congrArg nI (show 8 = Sta 1 q from (by first | (simp only [Sta, if_neg c1, if_pos c1]; done) | (simp only [Sta, if_neg c1, if_pos c1]; rfl) | rfl | (simp [Sta, if_neg c1, if_pos c1]; done)))) hP hD hS (Nat.le_of_ble_eq_true rfl) (Nat.le_of_ble_eq_true rfl) dX0_stateAfter_70
    ·
      refine lv_iconst (v := (nI 3)) hx hb dX0_stateAfter_64 (by decide) ?_
      refine lv_goto (tgt := 70) hx hb dX0_stateAfter_65 (by decide) ?_
      have hP : va_P g.1 vwCl [] _ := hP
      have hD : va_D A [] := hD
      exact k_iret hx hb hr hlocks rfl (congrArg nI (show 3 = Sta 1 q from (by first | (simp only [Sta, if_pos c1, if_neg (not_not_intro c1)]; done) | (simp only [Sta, if_pos c1, if_neg (not_not_intro c1)]; rfl) | rfl | (simp [Sta, if_pos c1, if_neg (not_not_intro c1)]; done)))) hP hD hS (Nat.le_of_ble_eq_true rfl) (Nat.le_of_ble_eq_true rfl) dX0_stateAfter_70
  ·
    refine lv_tableIn (off := 70) (tgt := 71) hx hb dX0_stateAfter_1 (by decide) (by decide) rfl (by decide) ?_
    refine lv_iload_n hx hb dX0_stateAfter_71 rfl (lv_at hl 1 rfl) ?_
    refine lv_bipush (v := (nI 48)) hx hb dX0_stateAfter_72 (by decide) ?_
    refine lv_bipush (v := (nI 55)) hx hb dX0_stateAfter_74 (by decide) ?_
    refine k_Si (w0 := []) (w1 := []) (As := [.int (nI q), .int (nI 48), .int (nI 55)]) (r := (bI (48 ≤ q ∧ q ≤ 55))) hF (c_X0_isBetween l g q 48 55 hq (by decide) (by decide)) (va_cwS 3 hts gX0_stateAfter_X0_isBetween rfl rfl rfl (by decide +kernel) ⟨Nat.le_of_ble_eq_true rfl, Nat.le_of_ble_eq_true rfl⟩) hE hP hD hS hA (List.Perm.refl _) (List.Perm.refl _) rfl hl.1 rfl (Nat.le_of_ble_eq_true rfl) dX0_stateAfter_76 ⟨Nat.le_of_ble_eq_true rfl, Nat.le_of_ble_eq_true rfl⟩ (fun H locs hP hD hS => ?_)
    have hP : va_P g.1 vwCl [] _ := hP
    have hD : va_D A [] := hD
    refine k_ifeqB (tgt := 87) hx hb dX0_stateAfter_79 (by decide) (fun c2 => ?_) (fun c2 => ?_)
    ·
      refine lv_bipush (v := (nI 8)) hx hb dX0_stateAfter_87 (by decide) ?_
      have hP : va_P g.1 vwCl [] _ := hP
      have hD : va_D A [] := hD
      exact k_iret hx hb hr hlocks rfl (congrArg nI (show 8 = Sta 2 q from (by first | (simp only [Sta, if_neg c2, if_pos c2]; done) | (simp only [Sta, if_neg c2, if_pos c2]; rfl) | rfl | (simp [Sta, if_neg c2, if_pos c2]; done)))) hP hD hS (Nat.le_of_ble_eq_true rfl) (Nat.le_of_ble_eq_true rfl) dX0_stateAfter_89
    ·
      refine lv_bipush (v := (nI 7)) hx hb dX0_stateAfter_82 (by decide) ?_
      refine lv_goto (tgt := 89) hx hb dX0_stateAfter_84 (by decide) ?_
      have hP : va_P g.1 vwCl [] _ := hP
      have hD : va_D A [] := hD
      exact k_iret hx hb hr hlocks rfl (congrArg nI (show 7 = Sta 2 q from (by first | (simp only [Sta, if_pos c2, if_neg (not_not_intro c2)]; done) | (simp only [Sta, if_pos c2, if_neg (not_not_intro c2)]; rfl) | rfl | (simp [Sta, if_pos c2, if_neg (not_not_intro c2)]; done)))) hP hD hS (Nat.le_of_ble_eq_true rfl) (Nat.le_of_ble_eq_true rfl) dX0_stateAfter_89
  ·
    refine lv_tableIn (off := 89) (tgt := 90) hx hb dX0_stateAfter_1 (by decide) (by decide) rfl (by decide) ?_
    refine lv_iload_n hx hb dX0_stateAfter_90 rfl (lv_at hl 1 rfl) ?_
    refine lv_bipush (v := (nI 48)) hx hb dX0_stateAfter_91 (by decide) ?_
    refine lv_bipush (v := (nI 53)) hx hb dX0_stateAfter_93 (by decide) ?_
    refine k_Si (w0 := []) (w1 := []) (As := [.int (nI q), .int (nI 48), .int (nI 53)]) (r := (bI (48 ≤ q ∧ q ≤ 53))) hF (c_X0_isBetween l g q 48 53 hq (by decide) (by decide)) (va_cwS 3 hts gX0_stateAfter_X0_isBetween rfl rfl rfl (by decide +kernel) ⟨Nat.le_of_ble_eq_true rfl, Nat.le_of_ble_eq_true rfl⟩) hE hP hD hS hA (List.Perm.refl _) (List.Perm.refl _) rfl hl.1 rfl (Nat.le_of_ble_eq_true rfl) dX0_stateAfter_95 ⟨Nat.le_of_ble_eq_true rfl, Nat.le_of_ble_eq_true rfl⟩ (fun H locs hP hD hS => ?_)
    have hP : va_P g.1 vwCl [] _ := hP
    have hD : va_D A [] := hD
    refine k_ifeqB (tgt := 106) hx hb dX0_stateAfter_98 (by decide) (fun c3 => ?_) (fun c3 => ?_)
    ·
      refine lv_bipush (v := (nI 8)) hx hb dX0_stateAfter_106 (by decide) ?_
      have hP : va_P g.1 vwCl [] _ := hP
      have hD : va_D A [] := hD
      exact k_iret hx hb hr hlocks rfl (congrArg nI (show 8 = Sta 3 q from (by first | (simp only [Sta, if_neg c3, if_pos c3]; done) | (simp only [Sta, if_neg c3, if_pos c3]; rfl) | rfl | (simp [Sta, if_neg c3, if_pos c3]; done)))) hP hD hS (Nat.le_of_ble_eq_true rfl) (Nat.le_of_ble_eq_true rfl) dX0_stateAfter_108
    ·
      refine lv_bipush (v := (nI 7)) hx hb dX0_stateAfter_101 (by decide) ?_
      refine lv_goto (tgt := 108) hx hb dX0_stateAfter_103 (by decide) ?_
      have hP : va_P g.1 vwCl [] _ := hP
      have hD : va_D A [] := hD
      exact k_iret hx hb hr hlocks rfl (congrArg nI (show 7 = Sta 3 q from (by first | (simp only [Sta, if_pos c3, if_neg (not_not_intro c3)]; done) | (simp only [Sta, if_pos c3, if_neg (not_not_intro c3)]; rfl) | rfl | (simp [Sta, if_pos c3, if_neg (not_not_intro c3)]; done)))) hP hD hS (Nat.le_of_ble_eq_true rfl) (Nat.le_of_ble_eq_true rfl) dX0_stateAfter_108
  ·
    refine lv_tableIn (off := 108) (tgt := 109) hx hb dX0_stateAfter_1 (by decide) (by decide) rfl (by decide) ?_
    refine lv_iload_n hx hb dX0_stateAfter_109 rfl (lv_at hl 1 rfl) ?_
    refine k_Si (w0 := []) (w1 := []) (As := [.int (nI q)]) (r := (nI (SDig q))) hF (c_X0_stateAfterFirstDigit l g q hq) (va_cwS 1 hts gX0_stateAfter_X0_stateAfterFirstDigit rfl rfl rfl (by decide +kernel) ⟨Nat.le_of_ble_eq_true rfl, Nat.le_of_ble_eq_true rfl⟩) hE hP hD hS hA (List.Perm.refl _) (List.Perm.refl _) rfl hl.1 rfl (Nat.le_of_ble_eq_true rfl) dX0_stateAfter_110 ⟨Nat.le_of_ble_eq_true rfl, Nat.le_of_ble_eq_true rfl⟩ (fun H locs hP hD hS => ?_)
    have hP : va_P g.1 vwCl [] _ := hP
    have hD : va_D A [] := hD
    have hP : va_P g.1 vwCl [] _ := hP
    have hD : va_D A [] := hD
    exact k_iret hx hb hr hlocks rfl (congrArg nI (show SDig q = Sta 4 q from (by first | rfl | (simp only [Sta]; done) | (simp only [Sta]; rfl) | (simp [Sta]; done)))) hP hD hS (Nat.le_of_ble_eq_true rfl) (Nat.le_of_ble_eq_true rfl) dX0_stateAfter_113
  ·
    refine lv_tableIn (off := 113) (tgt := 114) hx hb dX0_stateAfter_1 (by decide) (by decide) rfl (by decide) ?_
    refine lv_iload_n hx hb dX0_stateAfter_114 rfl (lv_at hl 1 rfl) ?_
    refine lv_bipush (v := (nI 48)) hx hb dX0_stateAfter_115 (by decide) ?_
    refine lv_bipush (v := (nI 57)) hx hb dX0_stateAfter_117 (by decide) ?_
    refine k_Si (w0 := []) (w1 := []) (As := [.int (nI q), .int (nI 48), .int (nI 57)]) (r := (bI (48 ≤ q ∧ q ≤ 57))) hF (c_X0_isBetween l g q 48 57 hq (by decide) (by decide)) (va_cwS 3 hts gX0_stateAfter_X0_isBetween rfl rfl rfl (by decide +kernel) ⟨Nat.le_of_ble_eq_true rfl, Nat.le_of_ble_eq_true rfl⟩) hE hP hD hS hA (List.Perm.refl _) (List.Perm.refl _) rfl hl.1 rfl (Nat.le_of_ble_eq_true rfl) dX0_stateAfter_119 ⟨Nat.le_of_ble_eq_true rfl, Nat.le_of_ble_eq_true rfl⟩ (fun H locs hP hD hS => ?_)
    have hP : va_P g.1 vwCl [] _ := hP
    have hD : va_D A [] := hD
    refine k_ifeqB (tgt := 130) hx hb dX0_stateAfter_122 (by decide) (fun c4 => ?_) (fun c4 => ?_)
    ·
      refine lv_iload_n hx hb dX0_stateAfter_130 rfl (lv_at hl 1 rfl) ?_
      refine k_Si (w0 := []) (w1 := []) (As := [.int (nI q)]) (r := (nI (SEv q))) hF (c_X0_stateAfterEvent l g q hq) (va_cwS 1 hts gX0_stateAfter_X0_stateAfterEvent rfl rfl rfl (by decide +kernel) ⟨Nat.le_of_ble_eq_true rfl, Nat.le_of_ble_eq_true rfl⟩) hE hP hD hS hA (List.Perm.refl _) (List.Perm.refl _) rfl hl.1 rfl (Nat.le_of_ble_eq_true rfl) dX0_stateAfter_131 ⟨Nat.le_of_ble_eq_true rfl, Nat.le_of_ble_eq_true rfl⟩ (fun H locs hP hD hS => ?_)
      have hP : va_P g.1 vwCl [] _ := hP
      have hD : va_D A [] := hD
      have hP : va_P g.1 vwCl [] _ := hP
      have hD : va_D A [] := hD
      exact k_iret hx hb hr hlocks rfl (congrArg nI (show SEv q = Sta 5 q from (by first | (simp only [Sta, if_neg c4, if_pos c4]; done) | (simp only [Sta, if_neg c4, if_pos c4]; rfl) | rfl | (simp [Sta, if_neg c4, if_pos c4]; done)))) hP hD hS (Nat.le_of_ble_eq_true rfl) (Nat.le_of_ble_eq_true rfl) dX0_stateAfter_134
    ·
      refine lv_bipush (v := (nI 7)) hx hb dX0_stateAfter_125 (by decide) ?_
      refine lv_goto (tgt := 134) hx hb dX0_stateAfter_127 (by decide) ?_
      have hP : va_P g.1 vwCl [] _ := hP
      have hD : va_D A [] := hD
      exact k_iret hx hb hr hlocks rfl (congrArg nI (show 7 = Sta 5 q from (by first | (simp only [Sta, if_pos c4, if_neg (not_not_intro c4)]; done) | (simp only [Sta, if_pos c4, if_neg (not_not_intro c4)]; rfl) | rfl | (simp [Sta, if_pos c4, if_neg (not_not_intro c4)]; done)))) hP hD hS (Nat.le_of_ble_eq_true rfl) (Nat.le_of_ble_eq_true rfl) dX0_stateAfter_134
  ·
    refine lv_tableIn (off := 134) (tgt := 135) hx hb dX0_stateAfter_1 (by decide) (by decide) rfl (by decide) ?_
    refine lv_iload_n hx hb dX0_stateAfter_135 rfl (lv_at hl 1 rfl) ?_
    refine lv_bipush (v := (nI 48)) hx hb dX0_stateAfter_136 (by decide) ?_
    refine k_neN (tgt := 146) hx hb (by omega) (by decide) dX0_stateAfter_138 (by decide) (fun c5 => ?_) (fun c5 => ?_)
    ·
      refine lv_iload_n hx hb dX0_stateAfter_146 rfl (lv_at hl 1 rfl) ?_
      refine k_Si (w0 := []) (w1 := []) (As := [.int (nI q)]) (r := (nI (SEv q))) hF (c_X0_stateAfterEvent l g q hq) (va_cwS 1 hts gX0_stateAfter_X0_stateAfterEvent rfl rfl rfl (by decide +kernel) ⟨Nat.le_of_ble_eq_true rfl, Nat.le_of_ble_eq_true rfl⟩) hE hP hD hS hA (List.Perm.refl _) (List.Perm.refl _) rfl hl.1 rfl (Nat.le_of_ble_eq_true rfl) dX0_stateAfter_147 ⟨Nat.le_of_ble_eq_true rfl, Nat.le_of_ble_eq_true rfl⟩ (fun H locs hP hD hS => ?_)
      have hP : va_P g.1 vwCl [] _ := hP
      have hD : va_D A [] := hD
      have hP : va_P g.1 vwCl [] _ := hP
      have hD : va_D A [] := hD
      exact k_iret hx hb hr hlocks rfl (congrArg nI (show SEv q = Sta 6 q from (by first | (simp only [Sta, if_neg c5, if_pos c5]; done) | (simp only [Sta, if_neg c5, if_pos c5]; rfl) | rfl | (simp [Sta, if_neg c5, if_pos c5]; done)))) hP hD hS (Nat.le_of_ble_eq_true rfl) (Nat.le_of_ble_eq_true rfl) dX0_stateAfter_150
    ·
      refine lv_bipush (v := (nI 7)) hx hb dX0_stateAfter_141 (by decide) ?_
      refine lv_goto (tgt := 150) hx hb dX0_stateAfter_143 (by decide) ?_
      have hP : va_P g.1 vwCl [] _ := hP
      have hD : va_D A [] := hD
      exact k_iret hx hb hr hlocks rfl (congrArg nI (show 7 = Sta 6 q from (by first | (simp only [Sta, if_pos c5, if_neg (not_not_intro c5)]; done) | (simp only [Sta, if_pos c5, if_neg (not_not_intro c5)]; rfl) | rfl | (simp [Sta, if_pos c5, if_neg (not_not_intro c5)]; done)))) hP hD hS (Nat.le_of_ble_eq_true rfl) (Nat.le_of_ble_eq_true rfl) dX0_stateAfter_150
  ·
    refine lv_tableIn (off := 150) (tgt := 151) hx hb dX0_stateAfter_1 (by decide) (by decide) rfl (by decide) ?_
    refine lv_iload_n hx hb dX0_stateAfter_151 rfl (lv_at hl 1 rfl) ?_
    refine k_Si (w0 := []) (w1 := []) (As := [.int (nI q)]) (r := (nI (SEv q))) hF (c_X0_stateAfterEvent l g q hq) (va_cwS 1 hts gX0_stateAfter_X0_stateAfterEvent rfl rfl rfl (by decide +kernel) ⟨Nat.le_of_ble_eq_true rfl, Nat.le_of_ble_eq_true rfl⟩) hE hP hD hS hA (List.Perm.refl _) (List.Perm.refl _) rfl hl.1 rfl (Nat.le_of_ble_eq_true rfl) dX0_stateAfter_152 ⟨Nat.le_of_ble_eq_true rfl, Nat.le_of_ble_eq_true rfl⟩ (fun H locs hP hD hS => ?_)
    have hP : va_P g.1 vwCl [] _ := hP
    have hD : va_D A [] := hD
    have hP : va_P g.1 vwCl [] _ := hP
    have hD : va_D A [] := hD
    exact k_iret hx hb hr hlocks rfl (congrArg nI (show SEv q = Sta 7 q from (by first | rfl | (simp only [Sta]; done) | (simp only [Sta]; rfl) | (simp [Sta]; done)))) hP hD hS (Nat.le_of_ble_eq_true rfl) (Nat.le_of_ble_eq_true rfl) dX0_stateAfter_155
  ·
    refine lv_tableOut (tgt := 156) hx hb dX0_stateAfter_1 (by decide) (by decide) ?_
    refine lv_bipush (v := (nI 8)) hx hb dX0_stateAfter_156 (by decide) ?_
    have hP : va_P g.1 vwCl [] _ := hP
    have hD : va_D A [] := hD
    exact k_iret hx hb hr hlocks rfl (congrArg nI (show 8 = Sta 8 q from (by first | rfl | (simp only [Sta]; done) | (simp only [Sta]; rfl) | (simp [Sta]; done)))) hP hD hS (Nat.le_of_ble_eq_true rfl) (Nat.le_of_ble_eq_true rfl) dX0_stateAfter_158
set_option maxHeartbeats 4000000 in
set_option maxRecDepth 100000 in
theorem c_X0_signAt (l : Launch) (g : kG) (a : Nat → Nat) (sg : Nat → Int32) (n : Nat) (hn : n ≤ 60) (hch : Tok sg n) (k : Nat) (hk : k < 1000) : KI l yX0_signAt wsX0_signAt ({ frames := 0, cells := 0, slots := 0, locals := 0 }) g [.ref (a 0), .int (nI k)] (wT g a (sg, (nI n))) (nI (Tq sg n k)) (wT g a (sg, (nI n))) 0 0 := by
  refine k_begin (cc := cX0_signAt) (maxL := 2) (ret := (some .char)) (Qc := fun A => kQi g (nI (Tq sg n k)) (wT g a (sg, (nI n))) A) (by decide) rfl (Nat.le_of_ble_eq_true rfl) ?_
  intro p e s m below meth c A ls hF hr hlocks hin hE hP hD hS hA hl
  obtain ⟨hx, hb, hml, hown, hts⟩ := id hF
  have hown : s.vm.findClass RX0 = some m.cls := hown
  have hl : lv_has ls 2 [(0, .ref (a 0)), (1, .int (nI k))] := hl
  have hiX0 : ∀ w ∈ wsX00, w ∈ wsX0_signAt := fun _ h => List.mem_cons_of_mem _ (List.mem_append_right _ (h))
  have f15 : (Cond.fieldLink RX0 15 "ConcertUsher$EventText" "length" "I").before _ s = true := hts _ (List.mem_of_getElem? (i := 1) rfl)
  have f9 : (Cond.fieldLink RX0 9 "ConcertUsher$EventText" "signs" "[C").before _ s = true := hts _ (List.mem_of_getElem? (i := 2) rfl)
  refine lv_iload_n hx hb dX0_signAt_0 rfl (lv_at hl 1 rfl) ?_
  refine lv_if_lt (tgt := 21) hx hb dX0_signAt_1 (by decide) (fun c1 => ?_) (fun c1 => ?_)
  ·
    exact absurd c1 (nI_pos (by omega))
  ·
    refine lv_iload_n hx hb dX0_signAt_4 rfl (lv_at hl 1 rfl) ?_
    refine lv_aload_n hx hb dX0_signAt_5 rfl (lv_at hl 0 rfl) ?_
    refine va_get (D := g.1) (ci := 0) (v := .int (nI n)) (C := RX0) (T := TX0) (N := 2) hx hb hts hiX0 hown hE.1 hP 0 rfl rfl 1 (by decide) f15 (fun _ h9 => h9) rfl dX0_signAt_6 ?_
    refine k_geN (tgt := 21) hx hb (by omega) (by omega) dX0_signAt_9 (by decide) (fun c2 => ?_) (fun c2 => ?_)
    ·
      refine lv_bipush (v := (nI 59)) hx hb dX0_signAt_21 (by decide) ?_
      have hP : va_P g.1 vwCl (wT g a (sg, (nI n))) _ := hP
      have hD : va_D A (wT g a (sg, (nI n))) := hD
      exact k_iret hx hb hr hlocks (Tq_nar 59 (by decide)) (by rw [Tq, if_pos ‹_›]) hP hD hS (Nat.le_of_ble_eq_true rfl) (Nat.le_of_ble_eq_true rfl) dX0_signAt_23
    ·
      refine lv_aload_n hx hb dX0_signAt_12 rfl (lv_at hl 0 rfl) ?_
      refine va_get (D := g.1) (ci := 0) (v := .ref (a 1)) (C := RX0) (T := TX0) (N := 2) hx hb hts hiX0 hown hE.1 hP 0 rfl rfl 0 (by decide) f9 (fun _ h9 => h9) rfl dX0_signAt_13 ?_
      refine lv_iload_n hx hb dX0_signAt_16 rfl (lv_at hl 1 rfl) ?_
      refine k_cald (f := sg) hx hb hE hP 1 rfl k rfl (by omega) (by decide) dX0_signAt_17 ?_
      refine lv_goto (tgt := 23) hx hb dX0_signAt_18 (by decide) ?_
      have hP : va_P g.1 vwCl (wT g a (sg, (nI n))) _ := hP
      have hD : va_D A (wT g a (sg, (nI n))) := hD
      exact k_iret hx hb hr hlocks (by rw [← (Tok_cl hch ‹_›).1]; exact Tq_nar _ (Tok_cl hch ‹_›).2) (by rw [Tq, if_neg (Nat.not_le.mpr ‹_›)]; exact (Tok_cl hch ‹_›).1.symm) hP hD hS (Nat.le_of_ble_eq_true rfl) (Nat.le_of_ble_eq_true rfl) dX0_signAt_23
set_option maxHeartbeats 4000000 in
set_option maxRecDepth 100000 in
theorem c_X0_digitAt (l : Launch) (g : kG) (a : Nat → Nat) (sg : Nat → Int32) (n : Nat) (hn : n ≤ 60) (hch : Tok sg n) (k : Nat) (hk : k < 1000) : KI l yX0_digitAt wsX0_digitAt ({ frames := 1, cells := 0, slots := 0, locals := 21 }) g [.ref (a 0), .int (nI k)] (wT g a (sg, (nI n))) ((nI (Tq sg n k)) - (nI 48)) (wT g a (sg, (nI n))) 0 0 := by
  refine k_begin (cc := cX0_digitAt) (maxL := 2) (ret := (some .int)) (Qc := fun A => kQi g ((nI (Tq sg n k)) - (nI 48)) (wT g a (sg, (nI n))) A) (by decide) rfl (Nat.le_of_ble_eq_true rfl) ?_
  intro p e s m below meth c A ls hF hr hlocks hin hE hP hD hS hA hl
  obtain ⟨hx, hb, hml, hown, hts⟩ := id hF
  have hown : s.vm.findClass RX0 = some m.cls := hown
  have hl : lv_has ls 2 [(0, .ref (a 0)), (1, .int (nI k))] := hl
  refine lv_aload_n hx hb dX0_digitAt_0 rfl (lv_at hl 0 rfl) ?_
  refine lv_iload_n hx hb dX0_digitAt_1 rfl (lv_at hl 1 rfl) ?_
  refine k_Vi (As := [.int (nI k)]) (r := (nI (Tq sg n k))) hF (c_X0_signAt l g a sg n (by omega) hch k (by omega)) (cwV 1 hts gX0_digitAt_X0_signAt rfl rfl rfl (by decide +kernel) ⟨Nat.le_of_ble_eq_true rfl, Nat.le_of_ble_eq_true rfl⟩) hE hP hD hS hA (k_pall _) ((k_pall _).symm) 0 rfl rfl rfl rfl hl.1 rfl (Nat.le_of_ble_eq_true rfl) dX0_digitAt_2 ⟨Nat.le_of_ble_eq_true rfl, Nat.le_of_ble_eq_true rfl⟩ (fun H locs hP hD hS => ?_)
  have hP : va_P g.1 vwCl (wT g a (sg, (nI n))) _ := hP
  have hD : va_D A (wT g a (sg, (nI n))) := hD
  refine lv_bipush (v := (nI 48)) hx hb dX0_digitAt_5 (by decide) ?_
  refine lv_isub hx hb dX0_digitAt_7 ?_
  have hP : va_P g.1 vwCl (wT g a (sg, (nI n))) _ := hP
  have hD : va_D A (wT g a (sg, (nI n))) := hD
  exact k_iret hx hb hr hlocks rfl rfl hP hD hS (Nat.le_of_ble_eq_true rfl) (Nat.le_of_ble_eq_true rfl) dX0_digitAt_8
set_option maxHeartbeats 4000000 in
set_option maxRecDepth 100000 in
theorem c_X0_numberAt (l : Launch) (g : kG) (a : Nat → Nat) (sg : Nat → Int32) (n : Nat) (hn : n ≤ 60) (hch : Tok sg n) (k : Nat) (hk : k < 900) : KI l yX0_numberAt wsX0_numberAt ({ frames := 2, cells := 0, slots := 0, locals := 42 }) g [.ref (a 0), .int (nI k)] (wT g a (sg, (nI n))) (Tnum sg n k) (wT g a (sg, (nI n))) 0 0 := by
  refine k_begin (cc := cX0_numberAt) (maxL := 3) (ret := (some .int)) (Qc := fun A => kQi g (Tnum sg n k) (wT g a (sg, (nI n))) A) (by decide) rfl (Nat.le_of_ble_eq_true rfl) ?_
  intro p e s m below meth c A ls hF hr hlocks hin hE hP hD hS hA hl
  obtain ⟨hx, hb, hml, hown, hts⟩ := id hF
  have hown : s.vm.findClass RX0 = some m.cls := hown
  have hl : lv_has ls 3 [(0, .ref (a 0)), (1, .int (nI k))] := hl
  refine lv_aload_n hx hb dX0_numberAt_0 rfl (lv_at hl 0 rfl) ?_
  refine lv_iload_n hx hb dX0_numberAt_1 rfl (lv_at hl 1 rfl) ?_
  refine k_Vi (As := [.int (nI k)]) (r := ((nI (Tq sg n k)) - (nI 48))) hF (c_X0_digitAt l g a sg n (by omega) hch k (by omega)) (cwV 1 hts gX0_numberAt_X0_digitAt rfl rfl rfl (by decide +kernel) ⟨Nat.le_of_ble_eq_true rfl, Nat.le_of_ble_eq_true rfl⟩) hE hP hD hS hA (k_pall _) ((k_pall _).symm) 0 rfl rfl rfl rfl hl.1 rfl (Nat.le_of_ble_eq_true rfl) dX0_numberAt_2 ⟨Nat.le_of_ble_eq_true rfl, Nat.le_of_ble_eq_true rfl⟩ (fun H locs hP hD hS => ?_)
  have hP : va_P g.1 vwCl (wT g a (sg, (nI n))) _ := hP
  have hD : va_D A (wT g a (sg, (nI n))) := hD
  refine lv_istore_n (lv' := [(2, .int ((nI (Tq sg n k)) - (nI 48))), (0, .ref (a 0)), (1, .int (nI k))]) hx hb dX0_numberAt_5 rfl hl (by decide) rfl (fun ls hl => ?_)
  refine lv_aload_n hx hb dX0_numberAt_6 rfl (lv_at hl 1 rfl) ?_
  refine lv_iload_n hx hb dX0_numberAt_7 rfl (lv_at hl 2 rfl) ?_
  refine lv_iconst (v := (nI 1)) hx hb dX0_numberAt_8 (by decide) ?_
  refine lv_iadd hx hb dX0_numberAt_9 ?_
  refine k_top (nI_add _ _) ?_
  refine k_Vi (As := [.int (nI (k + 1))]) (r := (nI (Tq sg n (k + 1)))) hF (c_X0_signAt l g a sg n (by omega) hch (k + 1) (by omega)) (cwV 1 hts gX0_numberAt_X0_signAt rfl rfl rfl (by decide +kernel) ⟨Nat.le_of_ble_eq_true rfl, Nat.le_of_ble_eq_true rfl⟩) hE hP hD hS hA (k_pall _) ((k_pall _).symm) 0 rfl rfl rfl rfl hl.1 rfl (Nat.le_of_ble_eq_true rfl) dX0_numberAt_10 ⟨Nat.le_of_ble_eq_true rfl, Nat.le_of_ble_eq_true rfl⟩ (fun H locs hP hD hS => ?_)
  have hP : va_P g.1 vwCl (wT g a (sg, (nI n))) _ := hP
  have hD : va_D A (wT g a (sg, (nI n))) := hD
  refine lv_bipush (v := (nI 59)) hx hb dX0_numberAt_13 (by decide) ?_
  refine k_neN (tgt := 22) hx hb (Tq_lt31 hch _) (by decide) dX0_numberAt_15 (by decide) (fun c1 => ?_) (fun c1 => ?_)
  ·
    refine lv_bipush (v := (nI 10)) hx hb dX0_numberAt_22 (by decide) ?_
    refine lv_iload_n hx hb dX0_numberAt_24 rfl (lv_at hl 0 rfl) ?_
    refine lv_imul hx hb dX0_numberAt_25 ?_
    refine lv_aload_n hx hb dX0_numberAt_26 rfl (lv_at hl 1 rfl) ?_
    refine lv_iload_n hx hb dX0_numberAt_27 rfl (lv_at hl 2 rfl) ?_
    refine lv_iconst (v := (nI 1)) hx hb dX0_numberAt_28 (by decide) ?_
    refine lv_iadd hx hb dX0_numberAt_29 ?_
    refine k_top (nI_add _ _) ?_
    refine k_Vi (As := [.int (nI (k + 1))]) (r := ((nI (Tq sg n (k + 1))) - (nI 48))) hF (c_X0_digitAt l g a sg n (by omega) hch (k + 1) (by omega)) (cwV 1 hts gX0_numberAt_X0_digitAt rfl rfl rfl (by decide +kernel) ⟨Nat.le_of_ble_eq_true rfl, Nat.le_of_ble_eq_true rfl⟩) hE hP hD hS hA (k_pall _) ((k_pall _).symm) 0 rfl rfl rfl rfl hl.1 rfl (Nat.le_of_ble_eq_true rfl) dX0_numberAt_30 ⟨Nat.le_of_ble_eq_true rfl, Nat.le_of_ble_eq_true rfl⟩ (fun H locs hP hD hS => ?_)
    have hP : va_P g.1 vwCl (wT g a (sg, (nI n))) _ := hP
    have hD : va_D A (wT g a (sg, (nI n))) := hD
    refine lv_iadd hx hb dX0_numberAt_33 ?_
    have hP : va_P g.1 vwCl (wT g a (sg, (nI n))) _ := hP
    have hD : va_D A (wT g a (sg, (nI n))) := hD
    exact k_iret hx hb hr hlocks rfl (by first | (simp only [Tnum, bI, if_neg c1, if_pos c1]; done) | (simp only [Tnum, bI, if_neg c1, if_pos c1]; rfl) | rfl | (simp [Tnum, bI, if_neg c1, if_pos c1]; done)) hP hD hS (Nat.le_of_ble_eq_true rfl) (Nat.le_of_ble_eq_true rfl) dX0_numberAt_34
  ·
    refine lv_iload_n hx hb dX0_numberAt_18 rfl (lv_at hl 0 rfl) ?_
    refine lv_goto (tgt := 34) hx hb dX0_numberAt_19 (by decide) ?_
    have hP : va_P g.1 vwCl (wT g a (sg, (nI n))) _ := hP
    have hD : va_D A (wT g a (sg, (nI n))) := hD
    exact k_iret hx hb hr hlocks rfl (by first | (simp only [Tnum, bI, if_pos c1, if_neg (not_not_intro c1)]; done) | (simp only [Tnum, bI, if_pos c1, if_neg (not_not_intro c1)]; rfl) | rfl | (simp [Tnum, bI, if_pos c1, if_neg (not_not_intro c1)]; done)) hP hD hS (Nat.le_of_ble_eq_true rfl) (Nat.le_of_ble_eq_true rfl) dX0_numberAt_34
set_option maxHeartbeats 4000000 in
set_option maxRecDepth 100000 in
theorem c_X0_startsEvent (l : Launch) (g : kG) (a : Nat → Nat) (sg : Nat → Int32) (n : Nat) (hn : n ≤ 60) (hch : Tok sg n) (k : Nat) (hk : k < 1000) : KI l yX0_startsEvent wsX0_startsEvent ({ frames := 1, cells := 0, slots := 0, locals := 21 }) g [.ref (a 0), .int (nI k)] (wT g a (sg, (nI n))) (bI (k = 0 ∨ Tq sg n (k - 1) = 59)) (wT g a (sg, (nI n))) 0 0 := by
  refine k_begin (cc := cX0_startsEvent) (maxL := 2) (ret := (some .boolean)) (Qc := fun A => kQi g (bI (k = 0 ∨ Tq sg n (k - 1) = 59)) (wT g a (sg, (nI n))) A) (by decide) rfl (Nat.le_of_ble_eq_true rfl) ?_
  intro p e s m below meth c A ls hF hr hlocks hin hE hP hD hS hA hl
  obtain ⟨hx, hb, hml, hown, hts⟩ := id hF
  have hown : s.vm.findClass RX0 = some m.cls := hown
  have hl : lv_has ls 2 [(0, .ref (a 0)), (1, .int (nI k))] := hl
  refine lv_iload_n hx hb dX0_startsEvent_0 rfl (lv_at hl 1 rfl) ?_
  refine k_if0 (tgt := 16) hx hb (by omega) dX0_startsEvent_1 (by decide) (fun c1 => ?_) (fun c1 => ?_)
  ·
    refine lv_iconst (v := (nI 1)) hx hb dX0_startsEvent_16 (by decide) ?_
    refine lv_goto (tgt := 21) hx hb dX0_startsEvent_17 (by decide) ?_
    have hP : va_P g.1 vwCl (wT g a (sg, (nI n))) _ := hP
    have hD : va_D A (wT g a (sg, (nI n))) := hD
    exact k_iret hx hb hr hlocks rfl (bI_t (by omega)).symm hP hD hS (Nat.le_of_ble_eq_true rfl) (Nat.le_of_ble_eq_true rfl) dX0_startsEvent_21
  ·
    refine lv_aload_n hx hb dX0_startsEvent_4 rfl (lv_at hl 0 rfl) ?_
    refine lv_iload_n hx hb dX0_startsEvent_5 rfl (lv_at hl 1 rfl) ?_
    refine lv_iconst (v := (nI 1)) hx hb dX0_startsEvent_6 (by decide) ?_
    refine lv_isub hx hb dX0_startsEvent_7 ?_
    refine k_top (pk_sub (by omega)) ?_
    refine k_Vi (As := [.int (nI (k - 1))]) (r := (nI (Tq sg n (k - 1)))) hF (c_X0_signAt l g a sg n (by omega) hch (k - 1) (by omega)) (cwV 1 hts gX0_startsEvent_X0_signAt rfl rfl rfl (by decide +kernel) ⟨Nat.le_of_ble_eq_true rfl, Nat.le_of_ble_eq_true rfl⟩) hE hP hD hS hA (k_pall _) ((k_pall _).symm) 0 rfl rfl rfl rfl hl.1 rfl (Nat.le_of_ble_eq_true rfl) dX0_startsEvent_8 ⟨Nat.le_of_ble_eq_true rfl, Nat.le_of_ble_eq_true rfl⟩ (fun H locs hP hD hS => ?_)
    have hP : va_P g.1 vwCl (wT g a (sg, (nI n))) _ := hP
    have hD : va_D A (wT g a (sg, (nI n))) := hD
    refine lv_bipush (v := (nI 59)) hx hb dX0_startsEvent_11 (by decide) ?_
    refine k_neN (tgt := 20) hx hb (Tq_lt31 hch _) (by decide) dX0_startsEvent_13 (by decide) (fun c2 => ?_) (fun c2 => ?_)
    ·
      refine lv_iconst (v := (nI 0)) hx hb dX0_startsEvent_20 (by decide) ?_
      have hP : va_P g.1 vwCl (wT g a (sg, (nI n))) _ := hP
      have hD : va_D A (wT g a (sg, (nI n))) := hD
      exact k_iret hx hb hr hlocks rfl (bI_f (by omega)).symm hP hD hS (Nat.le_of_ble_eq_true rfl) (Nat.le_of_ble_eq_true rfl) dX0_startsEvent_21
    ·
      refine lv_iconst (v := (nI 1)) hx hb dX0_startsEvent_16 (by decide) ?_
      refine lv_goto (tgt := 21) hx hb dX0_startsEvent_17 (by decide) ?_
      have hP : va_P g.1 vwCl (wT g a (sg, (nI n))) _ := hP
      have hD : va_D A (wT g a (sg, (nI n))) := hD
      exact k_iret hx hb hr hlocks rfl (bI_t (by omega)).symm hP hD hS (Nat.le_of_ble_eq_true rfl) (Nat.le_of_ble_eq_true rfl) dX0_startsEvent_21
set_option maxHeartbeats 4000000 in
set_option maxRecDepth 100000 in
theorem c_X0_firstWrongSign (l : Launch) (g : kG) (a : Nat → Nat) (sg : Nat → Int32) (n : Nat) (hn : n ≤ 60) (hch : Tok sg n) : KI l yX0_firstWrongSign wsX0_firstWrongSign ({ frames := 3, cells := 0, slots := 0, locals := 63 }) g [.ref (a 0)] (wT g a (sg, (nI n))) (nI (Tfw sg n 0 n)) (wT g a (sg, (nI n))) 0 0 := by
  refine k_begin (cc := cX0_firstWrongSign) (maxL := 3) (ret := (some .int)) (Qc := fun A => kQi g (nI (Tfw sg n 0 n)) (wT g a (sg, (nI n))) A) (by decide) rfl (Nat.le_of_ble_eq_true rfl) ?_
  intro p e s m below meth c A ls hF hr hlocks hin hE hP hD hS hA hl
  obtain ⟨hx, hb, hml, hown, hts⟩ := id hF
  have hown : s.vm.findClass RX0 = some m.cls := hown
  have hl : lv_has ls 3 [(0, .ref (a 0))] := hl
  have hiX0 : ∀ w ∈ wsX00, w ∈ wsX0_firstWrongSign := fun _ h => List.mem_cons_of_mem _ (List.mem_append_right _ (h))
  have f15 : (Cond.fieldLink RX0 15 "ConcertUsher$EventText" "length" "I").before _ s = true := hts _ (List.mem_of_getElem? (i := 1) rfl)
  refine lv_iconst (v := (nI 0)) hx hb dX0_firstWrongSign_0 (by decide) ?_
  refine lv_istore_n (lv' := [(1, .int (nI 0)), (0, .ref (a 0))]) hx hb dX0_firstWrongSign_1 rfl hl (by decide) rfl (fun ls hl => ?_)
  refine lv_iconst (v := (nI 0)) hx hb dX0_firstWrongSign_2 (by decide) ?_
  refine lv_istore_n (lv' := [(2, .int (nI 0)), (1, .int (nI 0)), (0, .ref (a 0))]) hx hb dX0_firstWrongSign_3 rfl hl (by decide) rfl (fun ls hl => ?_)
  refine k_loop (N := n) (Inv := fun (i : Nat) (H : Heap) (locs : List Loc) (ls : Array Slot) => va_P g.1 vwCl (wT g a (sg, (nI n))) H ∧ va_D A (wT g a (sg, (nI n))) ∧ va_S A s.heap H locs ∧ lv_has ls 3 [(2, .int (nI i)), (1, .int (nI (Sst sg n i))), (0, .ref (a 0))] ∧ Tfw sg n 0 n = Tfw sg n i (n - i)) 0 (Nat.zero_le _) ⟨hP, hD, hS, lv_sub hl [0, 1, 2] rfl, rfl⟩ (fun i hle2 ih1 H locs ls hinv => ?_)
  obtain ⟨hP, hD, hS, hl, hT⟩ := hinv
  refine lv_iload_n hx hb dX0_firstWrongSign_4 rfl (lv_at hl 0 rfl) ?_
  refine lv_aload_n hx hb dX0_firstWrongSign_5 rfl (lv_at hl 2 rfl) ?_
  refine va_get (D := g.1) (ci := 0) (v := .int (nI n)) (C := RX0) (T := TX0) (N := 2) hx hb hts hiX0 hown hE.1 hP 0 rfl rfl 1 (by decide) f15 (fun _ h9 => h9) rfl dX0_firstWrongSign_6 ?_
  refine k_geN (tgt := 36) hx hb (by omega) (by omega) dX0_firstWrongSign_9 (by decide) (fun c3 => ?_) (fun c3 => ?_)
  ·
    obtain rfl : n = i := by omega
    refine lv_aload_n hx hb dX0_firstWrongSign_36 rfl (lv_at hl 2 rfl) ?_
    refine va_get (D := g.1) (ci := 0) (v := .int (nI n)) (C := RX0) (T := TX0) (N := 2) hx hb hts hiX0 hown hE.1 hP 0 rfl rfl 1 (by decide) f15 (fun _ h9 => h9) rfl dX0_firstWrongSign_37 ?_
    have hP : va_P g.1 vwCl (wT g a (sg, (nI n))) _ := hP
    have hD : va_D A (wT g a (sg, (nI n))) := hD
    exact k_iret hx hb hr hlocks rfl (by rw [hT, Nat.sub_self]; rfl) hP hD hS (Nat.le_of_ble_eq_true rfl) (Nat.le_of_ble_eq_true rfl) dX0_firstWrongSign_40
  ·
    refine lv_iload_n hx hb dX0_firstWrongSign_12 rfl (lv_at hl 1 rfl) ?_
    refine lv_aload_n hx hb dX0_firstWrongSign_13 rfl (lv_at hl 2 rfl) ?_
    refine lv_iload_n hx hb dX0_firstWrongSign_14 rfl (lv_at hl 0 rfl) ?_
    refine k_Vi (As := [.int (nI i)]) (r := (nI (Tq sg n i))) hF (c_X0_signAt l g a sg n (by omega) hch i (by omega)) (cwV 1 hts gX0_firstWrongSign_X0_signAt rfl rfl rfl (by decide +kernel) ⟨Nat.le_of_ble_eq_true rfl, Nat.le_of_ble_eq_true rfl⟩) hE hP hD hS hA (k_pall _) ((k_pall _).symm) 0 rfl rfl rfl rfl hl.1 rfl (Nat.le_of_ble_eq_true rfl) dX0_firstWrongSign_15 ⟨Nat.le_of_ble_eq_true rfl, Nat.le_of_ble_eq_true rfl⟩ (fun H locs hP hD hS => ?_)
    have hP : va_P g.1 vwCl (wT g a (sg, (nI n))) _ := hP
    have hD : va_D A (wT g a (sg, (nI n))) := hD
    refine k_Si (w0 := []) (w1 := []) (As := [.int (nI (Sst sg n i)), .int (nI (Tq sg n i))]) (r := (nI (Sta (Sst sg n i) (Tq sg n i)))) hF (c_X0_stateAfter l g (Sst sg n i) (Sst_le _ _ _) (Tq sg n i) (Tq_lt hch _)) (va_cwS 2 hts gX0_firstWrongSign_X0_stateAfter rfl rfl rfl (by decide +kernel) ⟨Nat.le_of_ble_eq_true rfl, Nat.le_of_ble_eq_true rfl⟩) hE hP hD hS hA (List.Perm.refl _) (List.Perm.refl _) rfl hl.1 rfl (Nat.le_of_ble_eq_true rfl) dX0_firstWrongSign_18 ⟨Nat.le_of_ble_eq_true rfl, Nat.le_of_ble_eq_true rfl⟩ (fun H locs hP hD hS => ?_)
    have hP : va_P g.1 vwCl (wT g a (sg, (nI n))) _ := hP
    have hD : va_D A (wT g a (sg, (nI n))) := hD
    refine lv_istore_n (lv' := [(1, .int (nI (Sta (Sst sg n i) (Tq sg n i)))), (2, .int (nI i)), (0, .ref (a 0))]) hx hb dX0_firstWrongSign_21 rfl hl (by decide) rfl (fun ls hl => ?_)
    refine lv_iload_n hx hb dX0_firstWrongSign_22 rfl (lv_at hl 0 rfl) ?_
    refine lv_bipush (v := (nI 8)) hx hb dX0_firstWrongSign_23 (by decide) ?_
    refine k_neN (tgt := 30) hx hb (Nat.lt_of_le_of_lt (Sta_le _ _) (by decide)) (by decide) dX0_firstWrongSign_25 (by decide) (fun c4 => ?_) (fun c4 => ?_)
    ·
      refine lv_iinc (v := (nI (i + 1))) (lv' := [(2, .int (nI (i + 1))), (1, .int (nI (Sta (Sst sg n i) (Tq sg n i)))), (0, .ref (a 0))]) hx hb dX0_firstWrongSign_30 hl (k := 1) rfl (k_inc1 _) (by decide) rfl (fun ls hl => ?_)
      refine lv_goto (tgt := 4) hx hb dX0_firstWrongSign_33 (by decide) ?_
      have e5 : (nI (Sst sg n (i + 1))) = (nI (Sta (Sst sg n i) (Tq sg n i))) := (by first | (simp only [Sst, bI, if_neg (Nat.not_le.mpr c3), if_pos (Nat.not_le.mpr c3), if_neg c4, if_pos c4]; done) | (simp only [Sst, bI, if_neg (Nat.not_le.mpr c3), if_pos (Nat.not_le.mpr c3), if_neg c4, if_pos c4]; rfl) | rfl | (simp [Sst, bI, if_neg (Nat.not_le.mpr c3), if_pos (Nat.not_le.mpr c3), if_neg c4, if_pos c4]; done))
      exact ih1 _ _ _ (by omega) ⟨hP, hD, hS, (by rw [e5]; exact lv_sub hl [0, 1, 2] rfl), (by rw [hT, Tfw_go ‹_›, if_pos ‹_›])⟩
    ·
      refine lv_iload_n hx hb dX0_firstWrongSign_28 rfl (lv_at hl 1 rfl) ?_
      have hP : va_P g.1 vwCl (wT g a (sg, (nI n))) _ := hP
      have hD : va_D A (wT g a (sg, (nI n))) := hD
      exact k_iret hx hb hr hlocks rfl (by rw [hT, Tfw_go ‹_›, if_neg (not_not_intro ‹_›)]) hP hD hS (Nat.le_of_ble_eq_true rfl) (Nat.le_of_ble_eq_true rfl) dX0_firstWrongSign_29
set_option maxHeartbeats 4000000 in
set_option maxRecDepth 100000 in
theorem c_X0_isComplete (l : Launch) (g : kG) (a : Nat → Nat) (sg : Nat → Int32) (n : Nat) (hn : n ≤ 60) (hch : Tok sg n) : KI l yX0_isComplete wsX0_isComplete ({ frames := 3, cells := 0, slots := 0, locals := 63 }) g [.ref (a 0)] (wT g a (sg, (nI n))) (bI (Sst sg n n = 5 ∨ Sst sg n n = 6 ∨ Sst sg n n = 7)) (wT g a (sg, (nI n))) 0 0 := by
  refine k_begin (cc := cX0_isComplete) (maxL := 3) (ret := (some .boolean)) (Qc := fun A => kQi g (bI (Sst sg n n = 5 ∨ Sst sg n n = 6 ∨ Sst sg n n = 7)) (wT g a (sg, (nI n))) A) (by decide) rfl (Nat.le_of_ble_eq_true rfl) ?_
  intro p e s m below meth c A ls hF hr hlocks hin hE hP hD hS hA hl
  obtain ⟨hx, hb, hml, hown, hts⟩ := id hF
  have hown : s.vm.findClass RX0 = some m.cls := hown
  have hl : lv_has ls 3 [(0, .ref (a 0))] := hl
  have hiX0 : ∀ w ∈ wsX00, w ∈ wsX0_isComplete := fun _ h => List.mem_cons_of_mem _ (List.mem_append_right _ (h))
  have f15 : (Cond.fieldLink RX0 15 "ConcertUsher$EventText" "length" "I").before _ s = true := hts _ (List.mem_of_getElem? (i := 1) rfl)
  refine lv_iconst (v := (nI 0)) hx hb dX0_isComplete_0 (by decide) ?_
  refine lv_istore_n (lv' := [(1, .int (nI 0)), (0, .ref (a 0))]) hx hb dX0_isComplete_1 rfl hl (by decide) rfl (fun ls hl => ?_)
  refine lv_iconst (v := (nI 0)) hx hb dX0_isComplete_2 (by decide) ?_
  refine lv_istore_n (lv' := [(2, .int (nI 0)), (1, .int (nI 0)), (0, .ref (a 0))]) hx hb dX0_isComplete_3 rfl hl (by decide) rfl (fun ls hl => ?_)
  refine k_loop (N := n) (Inv := fun (i : Nat) (H : Heap) (locs : List Loc) (ls : Array Slot) => va_P g.1 vwCl (wT g a (sg, (nI n))) H ∧ va_D A (wT g a (sg, (nI n))) ∧ va_S A s.heap H locs ∧ lv_has ls 3 [(2, .int (nI i)), (1, .int (nI (Sst sg n i))), (0, .ref (a 0))]) 0 (Nat.zero_le _) ⟨hP, hD, hS, lv_sub hl [0, 1, 2] rfl⟩ (fun i hle2 ih1 H locs ls hinv => ?_)
  obtain ⟨hP, hD, hS, hl⟩ := hinv
  refine lv_iload_n hx hb dX0_isComplete_4 rfl (lv_at hl 0 rfl) ?_
  refine lv_aload_n hx hb dX0_isComplete_5 rfl (lv_at hl 2 rfl) ?_
  refine va_get (D := g.1) (ci := 0) (v := .int (nI n)) (C := RX0) (T := TX0) (N := 2) hx hb hts hiX0 hown hE.1 hP 0 rfl rfl 1 (by decide) f15 (fun _ h9 => h9) rfl dX0_isComplete_6 ?_
  refine k_geN (tgt := 28) hx hb (by omega) (by omega) dX0_isComplete_9 (by decide) (fun c3 => ?_) (fun c3 => ?_)
  ·
    obtain rfl : n = i := by omega
    refine lv_iload_n hx hb dX0_isComplete_28 rfl (lv_at hl 1 rfl) ?_
    refine lv_iconst (v := (nI 5)) hx hb dX0_isComplete_29 (by decide) ?_
    refine k_eqN (tgt := 45) hx hb (Sst_lt _ _ _) (by decide) dX0_isComplete_30 (by decide) (fun c4 => ?_) (fun c4 => ?_)
    ·
      refine lv_iconst (v := (nI 1)) hx hb dX0_isComplete_45 (by decide) ?_
      refine lv_goto (tgt := 50) hx hb dX0_isComplete_46 (by decide) ?_
      have hP : va_P g.1 vwCl (wT g a (sg, (nI n))) _ := hP
      have hD : va_D A (wT g a (sg, (nI n))) := hD
      exact k_iret hx hb hr hlocks rfl (bI_t (by omega)).symm hP hD hS (Nat.le_of_ble_eq_true rfl) (Nat.le_of_ble_eq_true rfl) dX0_isComplete_50
    ·
      refine lv_iload_n hx hb dX0_isComplete_33 rfl (lv_at hl 1 rfl) ?_
      refine lv_bipush (v := (nI 6)) hx hb dX0_isComplete_34 (by decide) ?_
      refine k_eqN (tgt := 45) hx hb (Sst_lt _ _ _) (by decide) dX0_isComplete_36 (by decide) (fun c5 => ?_) (fun c5 => ?_)
      ·
        refine lv_iconst (v := (nI 1)) hx hb dX0_isComplete_45 (by decide) ?_
        refine lv_goto (tgt := 50) hx hb dX0_isComplete_46 (by decide) ?_
        have hP : va_P g.1 vwCl (wT g a (sg, (nI n))) _ := hP
        have hD : va_D A (wT g a (sg, (nI n))) := hD
        exact k_iret hx hb hr hlocks rfl (bI_t (by omega)).symm hP hD hS (Nat.le_of_ble_eq_true rfl) (Nat.le_of_ble_eq_true rfl) dX0_isComplete_50
      ·
        refine lv_iload_n hx hb dX0_isComplete_39 rfl (lv_at hl 1 rfl) ?_
        refine lv_bipush (v := (nI 7)) hx hb dX0_isComplete_40 (by decide) ?_
        refine k_neN (tgt := 49) hx hb (Sst_lt _ _ _) (by decide) dX0_isComplete_42 (by decide) (fun c6 => ?_) (fun c6 => ?_)
        ·
          refine lv_iconst (v := (nI 0)) hx hb dX0_isComplete_49 (by decide) ?_
          have hP : va_P g.1 vwCl (wT g a (sg, (nI n))) _ := hP
          have hD : va_D A (wT g a (sg, (nI n))) := hD
          exact k_iret hx hb hr hlocks rfl (bI_f (by omega)).symm hP hD hS (Nat.le_of_ble_eq_true rfl) (Nat.le_of_ble_eq_true rfl) dX0_isComplete_50
        ·
          refine lv_iconst (v := (nI 1)) hx hb dX0_isComplete_45 (by decide) ?_
          refine lv_goto (tgt := 50) hx hb dX0_isComplete_46 (by decide) ?_
          have hP : va_P g.1 vwCl (wT g a (sg, (nI n))) _ := hP
          have hD : va_D A (wT g a (sg, (nI n))) := hD
          exact k_iret hx hb hr hlocks rfl (bI_t (by omega)).symm hP hD hS (Nat.le_of_ble_eq_true rfl) (Nat.le_of_ble_eq_true rfl) dX0_isComplete_50
  ·
    refine lv_iload_n hx hb dX0_isComplete_12 rfl (lv_at hl 1 rfl) ?_
    refine lv_aload_n hx hb dX0_isComplete_13 rfl (lv_at hl 2 rfl) ?_
    refine lv_iload_n hx hb dX0_isComplete_14 rfl (lv_at hl 0 rfl) ?_
    refine k_Vi (As := [.int (nI i)]) (r := (nI (Tq sg n i))) hF (c_X0_signAt l g a sg n (by omega) hch i (by omega)) (cwV 1 hts gX0_isComplete_X0_signAt rfl rfl rfl (by decide +kernel) ⟨Nat.le_of_ble_eq_true rfl, Nat.le_of_ble_eq_true rfl⟩) hE hP hD hS hA (k_pall _) ((k_pall _).symm) 0 rfl rfl rfl rfl hl.1 rfl (Nat.le_of_ble_eq_true rfl) dX0_isComplete_15 ⟨Nat.le_of_ble_eq_true rfl, Nat.le_of_ble_eq_true rfl⟩ (fun H locs hP hD hS => ?_)
    have hP : va_P g.1 vwCl (wT g a (sg, (nI n))) _ := hP
    have hD : va_D A (wT g a (sg, (nI n))) := hD
    refine k_Si (w0 := []) (w1 := []) (As := [.int (nI (Sst sg n i)), .int (nI (Tq sg n i))]) (r := (nI (Sta (Sst sg n i) (Tq sg n i)))) hF (c_X0_stateAfter l g (Sst sg n i) (Sst_le _ _ _) (Tq sg n i) (Tq_lt hch _)) (va_cwS 2 hts gX0_isComplete_X0_stateAfter rfl rfl rfl (by decide +kernel) ⟨Nat.le_of_ble_eq_true rfl, Nat.le_of_ble_eq_true rfl⟩) hE hP hD hS hA (List.Perm.refl _) (List.Perm.refl _) rfl hl.1 rfl (Nat.le_of_ble_eq_true rfl) dX0_isComplete_18 ⟨Nat.le_of_ble_eq_true rfl, Nat.le_of_ble_eq_true rfl⟩ (fun H locs hP hD hS => ?_)
    have hP : va_P g.1 vwCl (wT g a (sg, (nI n))) _ := hP
    have hD : va_D A (wT g a (sg, (nI n))) := hD
    refine lv_istore_n (lv' := [(1, .int (nI (Sta (Sst sg n i) (Tq sg n i)))), (2, .int (nI i)), (0, .ref (a 0))]) hx hb dX0_isComplete_21 rfl hl (by decide) rfl (fun ls hl => ?_)
    refine lv_iinc (v := (nI (i + 1))) (lv' := [(2, .int (nI (i + 1))), (1, .int (nI (Sta (Sst sg n i) (Tq sg n i)))), (0, .ref (a 0))]) hx hb dX0_isComplete_22 hl (k := 1) rfl (k_inc1 _) (by decide) rfl (fun ls hl => ?_)
    refine lv_goto (tgt := 4) hx hb dX0_isComplete_25 (by decide) ?_
    have e7 : (nI (Sst sg n (i + 1))) = (nI (Sta (Sst sg n i) (Tq sg n i))) := (by first | (simp only [Sst, bI, if_neg (Nat.not_le.mpr c3), if_pos (Nat.not_le.mpr c3)]; done) | (simp only [Sst, bI, if_neg (Nat.not_le.mpr c3), if_pos (Nat.not_le.mpr c3)]; rfl) | rfl | (simp [Sst, bI, if_neg (Nat.not_le.mpr c3), if_pos (Nat.not_le.mpr c3)]; done))
    exact ih1 _ _ _ (by omega) ⟨hP, hD, hS, (by rw [e7]; exact lv_sub hl [0, 1, 2] rfl)⟩
set_option maxHeartbeats 4000000 in
set_option maxRecDepth 100000 in
theorem c_X0_add (l : Launch) (g : kG) (a : Nat → Nat) (sg : Nat → Int32) (n : Nat) (hn : n < 60) (q : Nat) (hq : q < 65536) : KV l yX0_add wsX0_add ({ frames := 0, cells := 0, slots := 0, locals := 0 }) g [.ref (a 0), .int (nI q)] (wT g a (sg, (nI n))) (wT g a (upd sg n (nI q), nI (n + 1))) 0 0 := by
  refine k_begin (cc := cX0_add) (maxL := 2) (ret := none) (Qc := fun A => kQv g (wT g a (upd sg n (nI q), nI (n + 1))) A) (by decide) rfl (Nat.le_of_ble_eq_true rfl) ?_
  intro p e s m below meth c A ls hF hr hlocks hin hE hP hD hS hA hl
  obtain ⟨hx, hb, hml, hown, hts⟩ := id hF
  have hown : s.vm.findClass RX0 = some m.cls := hown
  have hl : lv_has ls 2 [(0, .ref (a 0)), (1, .int (nI q))] := hl
  have hiX0 : ∀ w ∈ wsX00, w ∈ wsX0_add := fun _ h => List.mem_cons_of_mem _ (List.mem_append_right _ (h))
  have f15 : (Cond.fieldLink RX0 15 "ConcertUsher$EventText" "length" "I").before _ s = true := hts _ (List.mem_of_getElem? (i := 1) rfl)
  have f9 : (Cond.fieldLink RX0 9 "ConcertUsher$EventText" "signs" "[C").before _ s = true := hts _ (List.mem_of_getElem? (i := 2) rfl)
  refine lv_aload_n hx hb dX0_add_0 rfl (lv_at hl 0 rfl) ?_
  refine va_get (D := g.1) (ci := 0) (v := .int (nI n)) (C := RX0) (T := TX0) (N := 2) hx hb hts hiX0 hown hE.1 hP 0 rfl rfl 1 (by decide) f15 (fun _ h9 => h9) rfl dX0_add_1 ?_
  refine lv_bipush (v := (nI 60)) hx hb dX0_add_4 (by decide) ?_
  refine k_geN (tgt := 29) hx hb (by omega) (by decide) dX0_add_6 (by decide) (fun c1 => ?_) (fun c1 => ?_)
  ·
    exact absurd c1 (by omega)
  ·
    refine lv_aload_n hx hb dX0_add_9 rfl (lv_at hl 0 rfl) ?_
    refine va_get (D := g.1) (ci := 0) (v := .ref (a 1)) (C := RX0) (T := TX0) (N := 2) hx hb hts hiX0 hown hE.1 hP 0 rfl rfl 0 (by decide) f9 (fun _ h9 => h9) rfl dX0_add_10 ?_
    refine lv_aload_n hx hb dX0_add_13 rfl (lv_at hl 0 rfl) ?_
    refine va_get (D := g.1) (ci := 0) (v := .int (nI n)) (C := RX0) (T := TX0) (N := 2) hx hb hts hiX0 hown hE.1 hP 0 rfl rfl 1 (by decide) f15 (fun _ h9 => h9) rfl dX0_add_14 ?_
    refine lv_iload_n hx hb dX0_add_17 rfl (lv_at hl 1 rfl) ?_
    refine k_cast (f := sg) (ws1 := (wT g a ((upd sg n (nI q)), (nI n)))) hx hb hE hP hD hS 1 rfl n rfl (by omega) (by decide) (Tq_vnar q hq) rfl dX0_add_18 (fun H locs hP hD hS => ?_)
    refine lv_aload_n hx hb dX0_add_19 rfl (lv_at hl 0 rfl) ?_
    refine lv_dup hx hb dX0_add_20 rfl ?_
    refine va_get (D := g.1) (ci := 0) (v := .int (nI n)) (C := RX0) (T := TX0) (N := 2) hx hb hts hiX0 hown hE.1 hP 0 rfl rfl 1 (by decide) f15 (fun _ h9 => h9) rfl dX0_add_21 ?_
    refine lv_iconst (v := (nI 1)) hx hb dX0_add_24 (by decide) ?_
    refine lv_iadd hx hb dX0_add_25 ?_
    refine k_top (nI_add _ _) ?_
    refine va_put (D := g.1) (ci := 0) (v := .int (nI (n + 1))) (ty := .int) (C := RX0) (T := TX0) (N := 2) hx hb hts hiX0 tyX0 tyX0_ok nmX0 hown hE.1 hP hD hS 0 rfl rfl 1 (by decide) f15 (fun _ h9 => h9) rfl (tyX0_ok 1 (by decide)) rfl rfl (Nat.le_of_ble_eq_true rfl) dX0_add_26 (fun H locs hP hD hS => ?_)
    have hP : va_P g.1 vwCl (wT g a ((upd sg n (nI q)), (nI (n + 1)))) _ := hP
    have hD : va_D A (wT g a ((upd sg n (nI q)), (nI (n + 1)))) := hD
    have e2 : (upd sg n (nI q), nI (n + 1)) = ((upd sg n (nI q)), (nI (n + 1))) := (by first | (simp only [if_neg (Nat.not_le.mpr c1), if_pos (Nat.not_le.mpr c1)]; done) | (simp only [if_neg (Nat.not_le.mpr c1), if_pos (Nat.not_le.mpr c1)]; rfl) | rfl | (simp [if_neg (Nat.not_le.mpr c1), if_pos (Nat.not_le.mpr c1)]; done))
    have hP : va_P g.1 vwCl (wT g a (upd sg n (nI q), nI (n + 1))) H := by rw [e2]; exact hP
    have hD : va_D A (wT g a (upd sg n (nI q), nI (n + 1))) := by rw [e2]; exact hD
    exact k_vret hx hb hr hlocks hP hD hS (Nat.le_of_ble_eq_true rfl) (Nat.le_of_ble_eq_true rfl) dX0_add_29
