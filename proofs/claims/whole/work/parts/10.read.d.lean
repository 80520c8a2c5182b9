set_option maxHeartbeats 4000000 in
set_option maxRecDepth 100000 in
theorem c_X4_reads (l : Launch) (g : kG) (a : Nat → Nat) (m9 : MSt) (n : Nat) (hn : n ≤ 60) (hln : mln m9 = nI n) (hbf : Tok (mbf m9) n) : KI l yX4_reads wsX4_reads ({ frames := 4, cells := 0, slots := 0, locals := 88 }) g [.ref (a 0)] (wM g a m9) (nI ((rFin (mbf m9) n (mrd m9)).2.1)) (wM g a (MR m9 (rFin (mbf m9) n (mrd m9)))) 0 0 := by
  refine k_begin (cc := cX4_reads) (maxL := 1) (ret := (some .boolean)) (Qc := fun A => kQi g (nI ((rFin (mbf m9) n (mrd m9)).2.1)) (wM g a (MR m9 (rFin (mbf m9) n (mrd m9)))) A) (by decide) rfl (Nat.le_of_ble_eq_true rfl) ?_
  intro p e s m below meth c A ls hF hr hlocks hin hE hP hD hS hA hl
  obtain ⟨hx, hb, hml, hown, hts⟩ := id hF
  have hown : s.vm.findClass RX4 = some m.cls := hown
  have hl : lv_has ls 1 [(0, .ref (a 0))] := hl
  have hiX4 : ∀ w ∈ wsX40, w ∈ wsX4_reads := fun _ h => List.mem_cons_of_mem _ (List.mem_append_right _ (h))
  have f116 : (Cond.fieldLink RX4 116 "ConcertUsherModel" "at" "I").before _ s = true := hts _ (List.mem_of_getElem? (i := 1) rfl)
  have f129 : (Cond.fieldLink RX4 129 "ConcertUsherModel" "readMany" "I").before _ s = true := hts _ (List.mem_of_getElem? (i := 2) rfl)
  have f119 : (Cond.fieldLink RX4 119 "ConcertUsherModel" "isWell" "Z").before _ s = true := hts _ (List.mem_of_getElem? (i := 3) rfl)
  have f113 : (Cond.fieldLink RX4 113 "ConcertUsherModel" "length" "I").before _ s = true := hts _ (List.mem_of_getElem? (i := 4) rfl)
  refine lv_aload_n hx hb dX4_reads_0 rfl (lv_at hl 0 rfl) ?_
  refine lv_iconst (v := (nI 0)) hx hb dX4_reads_1 (by decide) ?_
  refine va_put (D := g.1) (ci := 4) (v := .int (nI 0)) (ty := .int) (C := RX4) (T := TX4) (N := 12) hx hb hts hiX4 tyX4 tyX4_ok nmX4 hown hE.1 hP hD hS 0 rfl rfl 7 (by decide) f116 (fun _ h9 => h9) rfl (tyX4_ok 7 (by decide)) rfl rfl (Nat.le_of_ble_eq_true rfl) dX4_reads_2 (fun H locs hP hD hS => ?_)
  have hP : va_P g.1 vwCl (wM g a (sMat m9 (nI 0))) _ := hP
  have hD : va_D A (wM g a (sMat m9 (nI 0))) := hD
  refine lv_aload_n hx hb dX4_reads_5 rfl (lv_at hl 0 rfl) ?_
  refine lv_iconst (v := (nI 0)) hx hb dX4_reads_6 (by decide) ?_
  refine va_put (D := g.1) (ci := 4) (v := .int (nI 0)) (ty := .int) (C := RX4) (T := TX4) (N := 12) hx hb hts hiX4 tyX4 tyX4_ok nmX4 hown hE.1 hP hD hS 0 rfl rfl 10 (by decide) f129 (fun _ h9 => h9) rfl (tyX4_ok 10 (by decide)) rfl rfl (Nat.le_of_ble_eq_true rfl) dX4_reads_7 (fun H locs hP hD hS => ?_)
  have hP : va_P g.1 vwCl (wM g a (sMrm (sMat m9 (nI 0)) (nI 0))) _ := hP
  have hD : va_D A (wM g a (sMrm (sMat m9 (nI 0)) (nI 0))) := hD
  refine lv_aload_n hx hb dX4_reads_10 rfl (lv_at hl 0 rfl) ?_
  refine k_Vv (As := []) hF (c_X4_readsEvent l g a (sMrm (sMat m9 (nI 0)) (nI 0)) n 0 hn hln rfl (by omega) hbf (by omega) 0 rfl (by omega)) (cwV 0 hts gX4_reads_X4_readsEvent rfl rfl rfl (by decide +kernel) ⟨Nat.le_of_ble_eq_true rfl, Nat.le_of_ble_eq_true rfl⟩) hE hP hD hS hA (k_pall _) ((k_pall _).symm) 0 rfl rfl rfl rfl hl.1 rfl (Nat.le_of_ble_eq_true rfl) dX4_reads_11 ⟨Nat.le_of_ble_eq_true rfl, Nat.le_of_ble_eq_true rfl⟩ (fun H locs hP hD hS => ?_)
  have hP : va_P g.1 vwCl (wM g a (sMrm (sMrd (sMat (sMiw m9 (nI (rEv (mbf m9) n 0 0 (mrd m9)).2.1)) (nI (rEv (mbf m9) n 0 0 (mrd m9)).1)) ((rEv (mbf m9) n 0 0 (mrd m9)).2.2.2)) (nI (rEv (mbf m9) n 0 0 (mrd m9)).2.2.1))) _ := hP
  have hD : va_D A (wM g a (sMrm (sMrd (sMat (sMiw m9 (nI (rEv (mbf m9) n 0 0 (mrd m9)).2.1)) (nI (rEv (mbf m9) n 0 0 (mrd m9)).1)) ((rEv (mbf m9) n 0 0 (mrd m9)).2.2.2)) (nI (rEv (mbf m9) n 0 0 (mrd m9)).2.2.1))) := hD
  refine k_loop (N := 100) (Inv := fun (i : Nat) (H : Heap) (locs : List Loc) (ls : Array Slot) => va_P g.1 vwCl (wM g a (sMrm (sMrd (sMat (sMiw m9 (nI (rS (mbf m9) n (mrd m9) i).2.1)) (nI (rS (mbf m9) n (mrd m9) i).1)) ((rS (mbf m9) n (mrd m9) i).2.2.2)) (nI (rS (mbf m9) n (mrd m9) i).2.2.1))) H ∧ va_D A (wM g a (sMrm (sMrd (sMat (sMiw m9 (nI (rS (mbf m9) n (mrd m9) i).2.1)) (nI (rS (mbf m9) n (mrd m9) i).1)) ((rS (mbf m9) n (mrd m9) i).2.2.2)) (nI (rS (mbf m9) n (mrd m9) i).2.2.1))) ∧ va_S A s.heap H locs ∧ lv_has ls 1 [(0, .ref (a 0))] ∧ (rdEnd (mbf m9) n (mrd m9) 0 100 = rdEnd (mbf m9) n (mrd m9) i (100 - i) ∧ rOK n (rS (mbf m9) n (mrd m9) i) i)) 0 (Nat.zero_le _) ⟨hP, hD, hS, lv_sub hl [0] rfl, ⟨rfl, rOK_0 hbf (mrd m9)⟩⟩ (fun i hle2 ih1 H locs ls hinv => ?_)
  obtain ⟨hP, hD, hS, hl, hR⟩ := hinv
  refine lv_aload_n hx hb dX4_reads_14 rfl (lv_at hl 0 rfl) ?_
  refine va_get (D := g.1) (ci := 4) (v := .int (nI (rS (mbf m9) n (mrd m9) i).2.1)) (C := RX4) (T := TX4) (N := 12) hx hb hts hiX4 hown hE.1 hP 0 rfl rfl 8 (by decide) f119 (fun _ h9 => h9) rfl dX4_reads_15 ?_
  refine k_if0 (tgt := 85) hx hb (Nat.lt_of_lt_of_le hR.2.1 (by decide)) dX4_reads_18 (by decide) (fun c3 => ?_) (fun c3 => ?_)
  ·
    have hF : (rFin (mbf m9) n (mrd m9)) = (rS (mbf m9) n (mrd m9) i) := by unfold rFin; rw [hR.1, rdEnd_go (rOK_lt hn hR.2), if_neg (fun z => z.1 c3)]
    refine lv_aload_n hx hb dX4_reads_85 rfl (lv_at hl 0 rfl) ?_
    refine va_get (D := g.1) (ci := 4) (v := .int (nI (rS (mbf m9) n (mrd m9) i).2.1)) (C := RX4) (T := TX4) (N := 12) hx hb hts hiX4 hown hE.1 hP 0 rfl rfl 8 (by decide) f119 (fun _ h9 => h9) rfl dX4_reads_86 ?_
    have e4 : (MR m9 (rFin (mbf m9) n (mrd m9))) = (sMrm (sMrd (sMat (sMiw m9 (nI (rS (mbf m9) n (mrd m9) i).2.1)) (nI (rS (mbf m9) n (mrd m9) i).1)) ((rS (mbf m9) n (mrd m9) i).2.2.2)) (nI (rS (mbf m9) n (mrd m9) i).2.2.1)) := (by first | (simp only [MR, if_pos c3, if_neg (not_not_intro c3), hF]; done) | (simp only [MR, if_pos c3, if_neg (not_not_intro c3), hF]; with_reducible rfl) | (simp only [MR, if_pos c3, if_neg (not_not_intro c3), hF]; (repeat (first | rw [if_neg (not_not_intro c3)] | rw [if_pos c3])); done) | with_reducible rfl | (simp [MR, if_pos c3, if_neg (not_not_intro c3), hF]; done))
    have hP : va_P g.1 vwCl (wM g a (MR m9 (rFin (mbf m9) n (mrd m9)))) H := by rw [e4]; exact hP
    have hD : va_D A (wM g a (MR m9 (rFin (mbf m9) n (mrd m9)))) := by rw [e4]; exact hD
    exact k_iret hx hb hr hlocks (bo_nar (k_b2 hR.2.1)) (by first | (simp only [MR, bI, if_pos c3, if_neg (not_not_intro c3), hF]; done) | (simp only [MR, bI, if_pos c3, if_neg (not_not_intro c3), hF]; with_reducible rfl) | (simp only [MR, bI, if_pos c3, if_neg (not_not_intro c3), hF]; (repeat (first | rw [if_neg (not_not_intro c3)] | rw [if_pos c3])); done) | with_reducible rfl | (simp [MR, bI, if_pos c3, if_neg (not_not_intro c3), hF]; done)) hP hD hS (Nat.le_of_ble_eq_true rfl) (Nat.le_of_ble_eq_true rfl) dX4_reads_89
  ·
    refine lv_aload_n hx hb dX4_reads_21 rfl (lv_at hl 0 rfl) ?_
    refine va_get (D := g.1) (ci := 4) (v := .int (nI (rS (mbf m9) n (mrd m9) i).1)) (C := RX4) (T := TX4) (N := 12) hx hb hts hiX4 hown hE.1 hP 0 rfl rfl 7 (by decide) f116 (fun _ h9 => h9) rfl dX4_reads_22 ?_
    refine lv_aload_n hx hb dX4_reads_25 rfl (lv_at hl 0 rfl) ?_
    refine va_get (D := g.1) (ci := 4) (v := .int (mln m9)) (C := RX4) (T := TX4) (N := 12) hx hb hts hiX4 hown hE.1 hP 0 rfl rfl 6 (by decide) f113 (fun _ h9 => h9) rfl dX4_reads_26 ?_
    refine k_top hln ?_
    refine k_geN (tgt := 85) hx hb (Nat.lt_of_le_of_lt hR.2.2.1 (by omega)) (by omega) dX4_reads_29 (by decide) (fun c5 => ?_) (fun c5 => ?_)
    ·
      have hF : (rFin (mbf m9) n (mrd m9)) = (rS (mbf m9) n (mrd m9) i) := by unfold rFin; rw [hR.1, rdEnd_go (rOK_lt hn hR.2), if_neg (fun z => absurd z.2 (Nat.not_lt.mpr c5))]
      refine lv_aload_n hx hb dX4_reads_85 rfl (lv_at hl 0 rfl) ?_
      refine va_get (D := g.1) (ci := 4) (v := .int (nI (rS (mbf m9) n (mrd m9) i).2.1)) (C := RX4) (T := TX4) (N := 12) hx hb hts hiX4 hown hE.1 hP 0 rfl rfl 8 (by decide) f119 (fun _ h9 => h9) rfl dX4_reads_86 ?_
      have e6 : (MR m9 (rFin (mbf m9) n (mrd m9))) = (sMrm (sMrd (sMat (sMiw m9 (nI (rS (mbf m9) n (mrd m9) i).2.1)) (nI (rS (mbf m9) n (mrd m9) i).1)) ((rS (mbf m9) n (mrd m9) i).2.2.2)) (nI (rS (mbf m9) n (mrd m9) i).2.2.1)) := (by first | (simp only [MR, if_neg c3, if_pos c3, if_pos c5, if_neg (not_not_intro c5), hF]; done) | (simp only [MR, if_neg c3, if_pos c3, if_pos c5, if_neg (not_not_intro c5), hF]; with_reducible rfl) | (simp only [MR, if_neg c3, if_pos c3, if_pos c5, if_neg (not_not_intro c5), hF]; (repeat (first | rw [if_neg (not_not_intro c5)] | rw [if_pos c5] | rw [if_neg c3])); done) | with_reducible rfl | (simp [MR, if_neg c3, if_pos c3, if_pos c5, if_neg (not_not_intro c5), hF]; done))
      have hP : va_P g.1 vwCl (wM g a (MR m9 (rFin (mbf m9) n (mrd m9)))) H := by rw [e6]; exact hP
      have hD : va_D A (wM g a (MR m9 (rFin (mbf m9) n (mrd m9)))) := by rw [e6]; exact hD
      exact k_iret hx hb hr hlocks (bo_nar (k_b2 hR.2.1)) (by first | (simp only [MR, bI, if_neg c3, if_pos c3, if_pos c5, if_neg (not_not_intro c5), hF]; done) | (simp only [MR, bI, if_neg c3, if_pos c3, if_pos c5, if_neg (not_not_intro c5), hF]; with_reducible rfl) | (simp only [MR, bI, if_neg c3, if_pos c3, if_pos c5, if_neg (not_not_intro c5), hF]; (repeat (first | rw [if_neg (not_not_intro c5)] | rw [if_pos c5] | rw [if_neg c3])); done) | with_reducible rfl | (simp [MR, bI, if_neg c3, if_pos c3, if_pos c5, if_neg (not_not_intro c5), hF]; done)) hP hD hS (Nat.le_of_ble_eq_true rfl) (Nat.le_of_ble_eq_true rfl) dX4_reads_89
    ·
      have hR2 : (rS (mbf m9) n (mrd m9) i).1 ≤ n := hR.2.2.1
      have hR3 : 3 * (rS (mbf m9) n (mrd m9) i).2.2.1 ≤ (rS (mbf m9) n (mrd m9) i).1 + 1 := hR.2.2.2.1
      have hR1 : (rS (mbf m9) n (mrd m9) i).2.1 < 2 := hR.2.1
      have hlt9 : (rS (mbf m9) n (mrd m9) i).1 < n := by omega
      refine lv_aload_n hx hb dX4_reads_32 rfl (lv_at hl 0 rfl) ?_
      refine lv_aload_n hx hb dX4_reads_33 rfl (lv_at hl 0 rfl) ?_
      refine k_Vi (As := []) (r := (nI (Bq (mbf m9) n ((rS (mbf m9) n (mrd m9) i).1)))) hF (c_X4_sign l g a (sMrm (sMrd (sMat (sMiw m9 (nI (rS (mbf m9) n (mrd m9) i).2.1)) (nI (rS (mbf m9) n (mrd m9) i).1)) ((rS (mbf m9) n (mrd m9) i).2.2.2)) (nI (rS (mbf m9) n (mrd m9) i).2.2.1)) n ((rS (mbf m9) n (mrd m9) i).1) hn hln rfl (by omega) hbf) (cwV 0 hts gX4_reads_X4_sign rfl rfl rfl (by decide +kernel) ⟨Nat.le_of_ble_eq_true rfl, Nat.le_of_ble_eq_true rfl⟩) hE hP hD hS hA (k_pall _) ((k_pall _).symm) 0 rfl rfl rfl rfl hl.1 rfl (Nat.le_of_ble_eq_true rfl) dX4_reads_34 ⟨Nat.le_of_ble_eq_true rfl, Nat.le_of_ble_eq_true rfl⟩ (fun H locs hP hD hS => ?_)
      have hP : va_P g.1 vwCl (wM g a (sMrm (sMrd (sMat (sMiw m9 (nI (rS (mbf m9) n (mrd m9) i).2.1)) (nI (rS (mbf m9) n (mrd m9) i).1)) ((rS (mbf m9) n (mrd m9) i).2.2.2)) (nI (rS (mbf m9) n (mrd m9) i).2.2.1))) _ := hP
      have hD : va_D A (wM g a (sMrm (sMrd (sMat (sMiw m9 (nI (rS (mbf m9) n (mrd m9) i).2.1)) (nI (rS (mbf m9) n (mrd m9) i).1)) ((rS (mbf m9) n (mrd m9) i).2.2.2)) (nI (rS (mbf m9) n (mrd m9) i).2.2.1))) := hD
      refine k_meet (x := .int (nI (b01 (Bq (mbf m9) n ((rS (mbf m9) n (mrd m9) i).1) = 59)))) (pj := 47) (rest := [.ref (a 0)]) (fun J7 => ?_) ?_
      ·
        refine lv_bipush (v := (nI 59)) hx hb dX4_reads_37 (by decide) ?_
        refine k_neN (tgt := 46) hx hb (Bq_lt31 hbf _) (by decide) dX4_reads_39 (by decide) (fun c8 => ?_) (fun c8 => ?_)
        ·
          refine lv_iconst (v := (nI 0)) hx hb dX4_reads_46 (by decide) ?_
          exact k_top (by rw [b01_f c8]) J7
        ·
          refine lv_iconst (v := (nI 1)) hx hb dX4_reads_42 (by decide) ?_
          refine lv_goto (tgt := 47) hx hb dX4_reads_43 (by decide) ?_
          exact k_top (by rw [b01_t c8]) J7
      ·
        refine va_put (D := g.1) (ci := 4) (v := .int (nI (b01 (Bq (mbf m9) n ((rS (mbf m9) n (mrd m9) i).1) = 59)))) (ty := .boolean) (C := RX4) (T := TX4) (N := 12) hx hb hts hiX4 tyX4 tyX4_ok nmX4 hown hE.1 hP hD hS 0 rfl rfl 8 (by decide) f119 (fun _ h9 => h9) rfl (tyX4_ok 8 (by decide)) (bo_nar (k_b2 b01_lt)) (bo_fits (k_b2 b01_lt)) (Nat.le_of_ble_eq_true rfl) dX4_reads_47 (fun H locs hP hD hS => ?_)
        have hP : va_P g.1 vwCl (wM g a (sMiw (sMrm (sMrd (sMat m9 (nI (rS (mbf m9) n (mrd m9) i).1)) ((rS (mbf m9) n (mrd m9) i).2.2.2)) (nI (rS (mbf m9) n (mrd m9) i).2.2.1)) (nI (b01 (Bq (mbf m9) n ((rS (mbf m9) n (mrd m9) i).1) = 59))))) _ := hP
        have hD : va_D A (wM g a (sMiw (sMrm (sMrd (sMat m9 (nI (rS (mbf m9) n (mrd m9) i).1)) ((rS (mbf m9) n (mrd m9) i).2.2.2)) (nI (rS (mbf m9) n (mrd m9) i).2.2.1)) (nI (b01 (Bq (mbf m9) n ((rS (mbf m9) n (mrd m9) i).1) = 59))))) := hD
        have hb2 : b01 (Bq (mbf m9) n ((rS (mbf m9) n (mrd m9) i).1) = 59) < 2 := b01_lt
        refine lv_aload_n hx hb dX4_reads_50 rfl (lv_at hl 0 rfl) ?_
        refine lv_dup hx hb dX4_reads_51 rfl ?_
        refine va_get (D := g.1) (ci := 4) (v := .int (nI (rS (mbf m9) n (mrd m9) i).1)) (C := RX4) (T := TX4) (N := 12) hx hb hts hiX4 hown hE.1 hP 0 rfl rfl 7 (by decide) f116 (fun _ h9 => h9) rfl dX4_reads_52 ?_
        refine lv_aload_n hx hb dX4_reads_55 rfl (lv_at hl 0 rfl) ?_
        refine va_get (D := g.1) (ci := 4) (v := .int (nI (b01 (Bq (mbf m9) n ((rS (mbf m9) n (mrd m9) i).1) = 59)))) (C := RX4) (T := TX4) (N := 12) hx hb hts hiX4 hown hE.1 hP 0 rfl rfl 8 (by decide) f119 (fun _ h9 => h9) rfl dX4_reads_56 ?_
        refine k_meet (x := .int (nI (b01 (Bq (mbf m9) n ((rS (mbf m9) n (mrd m9) i).1) = 59)))) (pj := 67) (rest := [.int (nI ((rS (mbf m9) n (mrd m9) i).1)), .ref (a 0)]) (fun J9 => ?_) ?_
        ·
          refine k_if0 (tgt := 66) hx hb b01_lt31 dX4_reads_59 (by decide) (fun c10 => ?_) (fun c10 => ?_)
          ·
            refine lv_iconst (v := (nI 0)) hx hb dX4_reads_66 (by decide) ?_
            exact k_top (congrArg nI (by have h8 : b01 (Bq (mbf m9) n ((rS (mbf m9) n (mrd m9) i).1) = 59) < 2 := b01_lt; omega)) J9
          ·
            refine lv_iconst (v := (nI 1)) hx hb dX4_reads_62 (by decide) ?_
            refine lv_goto (tgt := 67) hx hb dX4_reads_63 (by decide) ?_
            exact k_top (congrArg nI (by have h8 : b01 (Bq (mbf m9) n ((rS (mbf m9) n (mrd m9) i).1) = 59) < 2 := b01_lt; omega)) J9
        ·
          refine lv_iadd hx hb dX4_reads_67 ?_
          refine k_top (nI_add _ _) ?_
          refine va_put (D := g.1) (ci := 4) (v := .int (nI (((rS (mbf m9) n (mrd m9) i).1) + (b01 (Bq (mbf m9) n ((rS (mbf m9) n (mrd m9) i).1) = 59))))) (ty := .int) (C := RX4) (T := TX4) (N := 12) hx hb hts hiX4 tyX4 tyX4_ok nmX4 hown hE.1 hP hD hS 0 rfl rfl 7 (by decide) f116 (fun _ h9 => h9) rfl (tyX4_ok 7 (by decide)) rfl rfl (Nat.le_of_ble_eq_true rfl) dX4_reads_68 (fun H locs hP hD hS => ?_)
          have hP : va_P g.1 vwCl (wM g a (sMat (sMiw (sMrm (sMrd m9 ((rS (mbf m9) n (mrd m9) i).2.2.2)) (nI (rS (mbf m9) n (mrd m9) i).2.2.1)) (nI (b01 (Bq (mbf m9) n ((rS (mbf m9) n (mrd m9) i).1) = 59)))) (nI (((rS (mbf m9) n (mrd m9) i).1) + (b01 (Bq (mbf m9) n ((rS (mbf m9) n (mrd m9) i).1) = 59)))))) _ := hP
          have hD : va_D A (wM g a (sMat (sMiw (sMrm (sMrd m9 ((rS (mbf m9) n (mrd m9) i).2.2.2)) (nI (rS (mbf m9) n (mrd m9) i).2.2.1)) (nI (b01 (Bq (mbf m9) n ((rS (mbf m9) n (mrd m9) i).1) = 59)))) (nI (((rS (mbf m9) n (mrd m9) i).1) + (b01 (Bq (mbf m9) n ((rS (mbf m9) n (mrd m9) i).1) = 59)))))) := hD
          refine lv_aload_n hx hb dX4_reads_71 rfl (lv_at hl 0 rfl) ?_
          refine va_get (D := g.1) (ci := 4) (v := .int (nI (b01 (Bq (mbf m9) n ((rS (mbf m9) n (mrd m9) i).1) = 59)))) (C := RX4) (T := TX4) (N := 12) hx hb hts hiX4 hown hE.1 hP 0 rfl rfl 8 (by decide) f119 (fun _ h9 => h9) rfl dX4_reads_72 ?_
          refine k_if0 (tgt := 14) hx hb b01_lt31 dX4_reads_75 (by decide) (fun c11 => ?_) (fun c11 => ?_)
          ·
            have hq9 : ¬ Bq (mbf m9) n ((rS (mbf m9) n (mrd m9) i).1) = 59 := b01_0.mp c11
            have hT : (rS (mbf m9) n (mrd m9) (i + 1)) = ((rS (mbf m9) n (mrd m9) i).1, 0, (rS (mbf m9) n (mrd m9) i).2.2.1, (rS (mbf m9) n (mrd m9) i).2.2.2) := if_neg hq9
            have e12 : (sMrm (sMrd (sMat (sMiw m9 (nI (rS (mbf m9) n (mrd m9) (i + 1)).2.1)) (nI (rS (mbf m9) n (mrd m9) (i + 1)).1)) (rS (mbf m9) n (mrd m9) (i + 1)).2.2.2) (nI (rS (mbf m9) n (mrd m9) (i + 1)).2.2.1)) = (sMat (sMiw (sMrm (sMrd m9 ((rS (mbf m9) n (mrd m9) i).2.2.2)) (nI (rS (mbf m9) n (mrd m9) i).2.2.1)) (nI (b01 (Bq (mbf m9) n ((rS (mbf m9) n (mrd m9) i).1) = 59)))) (nI (((rS (mbf m9) n (mrd m9) i).1) + (b01 (Bq (mbf m9) n ((rS (mbf m9) n (mrd m9) i).1) = 59))))) := (by rw [hT, b01_f hq9]; rfl)
            exact ih1 _ _ _ (rOK_lt hn hR.2) ⟨(by rw [e12]; exact hP), (by rw [e12]; exact hD), hS, lv_sub hl [0] rfl, ⟨by rw [hR.1, rdEnd_go (rOK_lt hn hR.2), if_pos ⟨c3, hlt9⟩], rOK_s hbf hR.2 c3 hlt9⟩⟩
          ·
            have hq9 : Bq (mbf m9) n ((rS (mbf m9) n (mrd m9) i).1) = 59 := Decidable.not_not.mp (fun z => c11 (b01_f z))
            have hT : (rS (mbf m9) n (mrd m9) (i + 1)) = rEv (mbf m9) n ((rS (mbf m9) n (mrd m9) i).1 + 1) (rS (mbf m9) n (mrd m9) i).2.2.1 (rS (mbf m9) n (mrd m9) i).2.2.2 := if_pos hq9
            have hb9 : b01 (Bq (mbf m9) n ((rS (mbf m9) n (mrd m9) i).1) = 59) = 1 := b01_t hq9
            refine lv_aload_n hx hb dX4_reads_78 rfl (lv_at hl 0 rfl) ?_
            refine k_Vv (As := []) hF (c_X4_readsEvent l g a (sMat (sMiw (sMrm (sMrd m9 ((rS (mbf m9) n (mrd m9) i).2.2.2)) (nI (rS (mbf m9) n (mrd m9) i).2.2.1)) (nI (b01 (Bq (mbf m9) n ((rS (mbf m9) n (mrd m9) i).1) = 59)))) (nI (((rS (mbf m9) n (mrd m9) i).1) + (b01 (Bq (mbf m9) n ((rS (mbf m9) n (mrd m9) i).1) = 59))))) n (((rS (mbf m9) n (mrd m9) i).1) + (b01 (Bq (mbf m9) n ((rS (mbf m9) n (mrd m9) i).1) = 59))) hn hln rfl (by omega) hbf (by omega) ((rS (mbf m9) n (mrd m9) i).2.2.1) rfl (by omega)) (cwV 0 hts gX4_reads_X4_readsEvent rfl rfl rfl (by decide +kernel) ⟨Nat.le_of_ble_eq_true rfl, Nat.le_of_ble_eq_true rfl⟩) hE hP hD hS hA (k_pall _) ((k_pall _).symm) 0 rfl rfl rfl rfl hl.1 rfl (Nat.le_of_ble_eq_true rfl) dX4_reads_79 ⟨Nat.le_of_ble_eq_true rfl, Nat.le_of_ble_eq_true rfl⟩ (fun H locs hP hD hS => ?_)
            have hP : va_P g.1 vwCl (wM g a (sMrm (sMrd (sMat (sMiw m9 (nI (rEv (mbf m9) n (((rS (mbf m9) n (mrd m9) i).1) + (b01 (Bq (mbf m9) n ((rS (mbf m9) n (mrd m9) i).1) = 59))) ((rS (mbf m9) n (mrd m9) i).2.2.1) ((rS (mbf m9) n (mrd m9) i).2.2.2)).2.1)) (nI (rEv (mbf m9) n (((rS (mbf m9) n (mrd m9) i).1) + (b01 (Bq (mbf m9) n ((rS (mbf m9) n (mrd m9) i).1) = 59))) ((rS (mbf m9) n (mrd m9) i).2.2.1) ((rS (mbf m9) n (mrd m9) i).2.2.2)).1)) ((rEv (mbf m9) n (((rS (mbf m9) n (mrd m9) i).1) + (b01 (Bq (mbf m9) n ((rS (mbf m9) n (mrd m9) i).1) = 59))) ((rS (mbf m9) n (mrd m9) i).2.2.1) ((rS (mbf m9) n (mrd m9) i).2.2.2)).2.2.2)) (nI (rEv (mbf m9) n (((rS (mbf m9) n (mrd m9) i).1) + (b01 (Bq (mbf m9) n ((rS (mbf m9) n (mrd m9) i).1) = 59))) ((rS (mbf m9) n (mrd m9) i).2.2.1) ((rS (mbf m9) n (mrd m9) i).2.2.2)).2.2.1))) _ := hP
            have hD : va_D A (wM g a (sMrm (sMrd (sMat (sMiw m9 (nI (rEv (mbf m9) n (((rS (mbf m9) n (mrd m9) i).1) + (b01 (Bq (mbf m9) n ((rS (mbf m9) n (mrd m9) i).1) = 59))) ((rS (mbf m9) n (mrd m9) i).2.2.1) ((rS (mbf m9) n (mrd m9) i).2.2.2)).2.1)) (nI (rEv (mbf m9) n (((rS (mbf m9) n (mrd m9) i).1) + (b01 (Bq (mbf m9) n ((rS (mbf m9) n (mrd m9) i).1) = 59))) ((rS (mbf m9) n (mrd m9) i).2.2.1) ((rS (mbf m9) n (mrd m9) i).2.2.2)).1)) ((rEv (mbf m9) n (((rS (mbf m9) n (mrd m9) i).1) + (b01 (Bq (mbf m9) n ((rS (mbf m9) n (mrd m9) i).1) = 59))) ((rS (mbf m9) n (mrd m9) i).2.2.1) ((rS (mbf m9) n (mrd m9) i).2.2.2)).2.2.2)) (nI (rEv (mbf m9) n (((rS (mbf m9) n (mrd m9) i).1) + (b01 (Bq (mbf m9) n ((rS (mbf m9) n (mrd m9) i).1) = 59))) ((rS (mbf m9) n (mrd m9) i).2.2.1) ((rS (mbf m9) n (mrd m9) i).2.2.2)).2.2.1))) := hD
            refine lv_goto (tgt := 14) hx hb dX4_reads_82 (by decide) ?_
            have e13 : (sMrm (sMrd (sMat (sMiw m9 (nI (rS (mbf m9) n (mrd m9) (i + 1)).2.1)) (nI (rS (mbf m9) n (mrd m9) (i + 1)).1)) (rS (mbf m9) n (mrd m9) (i + 1)).2.2.2) (nI (rS (mbf m9) n (mrd m9) (i + 1)).2.2.1)) = (sMrm (sMrd (sMat (sMiw m9 (nI (rEv (mbf m9) n (((rS (mbf m9) n (mrd m9) i).1) + (b01 (Bq (mbf m9) n ((rS (mbf m9) n (mrd m9) i).1) = 59))) ((rS (mbf m9) n (mrd m9) i).2.2.1) ((rS (mbf m9) n (mrd m9) i).2.2.2)).2.1)) (nI (rEv (mbf m9) n (((rS (mbf m9) n (mrd m9) i).1) + (b01 (Bq (mbf m9) n ((rS (mbf m9) n (mrd m9) i).1) = 59))) ((rS (mbf m9) n (mrd m9) i).2.2.1) ((rS (mbf m9) n (mrd m9) i).2.2.2)).1)) ((rEv (mbf m9) n (((rS (mbf m9) n (mrd m9) i).1) + (b01 (Bq (mbf m9) n ((rS (mbf m9) n (mrd m9) i).1) = 59))) ((rS (mbf m9) n (mrd m9) i).2.2.1) ((rS (mbf m9) n (mrd m9) i).2.2.2)).2.2.2)) (nI (rEv (mbf m9) n (((rS (mbf m9) n (mrd m9) i).1) + (b01 (Bq (mbf m9) n ((rS (mbf m9) n (mrd m9) i).1) = 59))) ((rS (mbf m9) n (mrd m9) i).2.2.1) ((rS (mbf m9) n (mrd m9) i).2.2.2)).2.2.1)) := (by rw [hT, hb9])
            exact ih1 _ _ _ (rOK_lt hn hR.2) ⟨(by rw [e13]; exact hP), (by rw [e13]; exact hD), hS, lv_sub hl [0] rfl, ⟨by rw [hR.1, rdEnd_go (rOK_lt hn hR.2), if_pos ⟨c3, hlt9⟩], rOK_s hbf hR.2 c3 hlt9⟩⟩
set_option maxHeartbeats 4000000 in
set_option maxRecDepth 100000 in
theorem c_X4_firstError (l : Launch) (g : kG) (a : Nat → Nat) (m9 : MSt) (n : Nat) (hn : n ≤ 60) (hln : mln m9 = nI n) (hbf : Tok (mbf m9) n) : KI l yX4_firstError wsX4_firstError ({ frames := 5, cells := 0, slots := 0, locals := 108 }) g [.ref (a 0)] (wM g a m9) (nI (if (rFin (mbf m9) n (mrd m9)).2.1 = 0 then (rFin (mbf m9) n (mrd m9)).1 else n)) (wM g a (MR (sMth m9 (nI 0)) (rFin (mbf m9) n (mrd m9)))) 0 0 := by
  refine k_begin (cc := cX4_firstError) (maxL := 1) (ret := (some .int)) (Qc := fun A => kQi g (nI (if (rFin (mbf m9) n (mrd m9)).2.1 = 0 then (rFin (mbf m9) n (mrd m9)).1 else n)) (wM g a (MR (sMth m9 (nI 0)) (rFin (mbf m9) n (mrd m9)))) A) (by decide) rfl (Nat.le_of_ble_eq_true rfl) ?_
  intro p e s m below meth c A ls hF hr hlocks hin hE hP hD hS hA hl
  obtain ⟨hx, hb, hml, hown, hts⟩ := id hF
  have hown : s.vm.findClass RX4 = some m.cls := hown
  have hl : lv_has ls 1 [(0, .ref (a 0))] := hl
  have hiX4 : ∀ w ∈ wsX40, w ∈ wsX4_firstError := fun _ h => List.mem_cons_of_mem _ (List.mem_append_right _ (h))
  have f25 : (Cond.fieldLink RX4 25 "ConcertUsherModel" "thrown" "I").before _ s = true := hts _ (List.mem_of_getElem? (i := 1) rfl)
  have f116 : (Cond.fieldLink RX4 116 "ConcertUsherModel" "at" "I").before _ s = true := hts _ (List.mem_of_getElem? (i := 3) rfl)
  have f113 : (Cond.fieldLink RX4 113 "ConcertUsherModel" "length" "I").before _ s = true := hts _ (List.mem_of_getElem? (i := 2) rfl)
  refine lv_aload_n hx hb dX4_firstError_0 rfl (lv_at hl 0 rfl) ?_
  refine lv_iconst (v := (nI 0)) hx hb dX4_firstError_1 (by decide) ?_
  refine va_put (D := g.1) (ci := 4) (v := .int (nI 0)) (ty := .int) (C := RX4) (T := TX4) (N := 12) hx hb hts hiX4 tyX4 tyX4_ok nmX4 hown hE.1 hP hD hS 0 rfl rfl 0 (by decide) f25 (fun _ h9 => h9) rfl (tyX4_ok 0 (by decide)) rfl rfl (Nat.le_of_ble_eq_true rfl) dX4_firstError_2 (fun H locs hP hD hS => ?_)
  have hP : va_P g.1 vwCl (wM g a (sMth m9 (nI 0))) _ := hP
  have hD : va_D A (wM g a (sMth m9 (nI 0))) := hD
  refine lv_aload_n hx hb dX4_firstError_5 rfl (lv_at hl 0 rfl) ?_
  refine k_Vi (As := []) (r := (nI ((rFin (mbf m9) n (mrd m9)).2.1))) hF (c_X4_reads l g a (sMth m9 (nI 0)) n hn hln hbf) (cwV 0 hts gX4_firstError_X4_reads rfl rfl rfl (by decide +kernel) ⟨Nat.le_of_ble_eq_true rfl, Nat.le_of_ble_eq_true rfl⟩) hE hP hD hS hA (k_pall _) ((k_pall _).symm) 0 rfl rfl rfl rfl hl.1 rfl (Nat.le_of_ble_eq_true rfl) dX4_firstError_6 ⟨Nat.le_of_ble_eq_true rfl, Nat.le_of_ble_eq_true rfl⟩ (fun H locs hP hD hS => ?_)
  have hP : va_P g.1 vwCl (wM g a (sMrm (sMrd (sMat (sMiw (sMth m9 (nI 0)) (nI (rFin (mbf m9) n (mrd m9)).2.1)) (nI (rFin (mbf m9) n (mrd m9)).1)) ((rFin (mbf m9) n (mrd m9)).2.2.2)) (nI (rFin (mbf m9) n (mrd m9)).2.2.1))) _ := hP
  have hD : va_D A (wM g a (sMrm (sMrd (sMat (sMiw (sMth m9 (nI 0)) (nI (rFin (mbf m9) n (mrd m9)).2.1)) (nI (rFin (mbf m9) n (mrd m9)).1)) ((rFin (mbf m9) n (mrd m9)).2.2.2)) (nI (rFin (mbf m9) n (mrd m9)).2.2.1))) := hD
  refine k_if0 (tgt := 19) hx hb (Nat.lt_of_lt_of_le (rFin_lt hn hbf (mrd m9)).1 (by decide)) dX4_firstError_9 (by decide) (fun c1 => ?_) (fun c1 => ?_)
  ·
    refine lv_aload_n hx hb dX4_firstError_19 rfl (lv_at hl 0 rfl) ?_
    refine va_get (D := g.1) (ci := 4) (v := .int (nI (rFin (mbf m9) n (mrd m9)).1)) (C := RX4) (T := TX4) (N := 12) hx hb hts hiX4 hown hE.1 hP 0 rfl rfl 7 (by decide) f116 (fun _ h9 => h9) rfl dX4_firstError_20 ?_
    have e2 : (MR (sMth m9 (nI 0)) (rFin (mbf m9) n (mrd m9))) = (sMrm (sMrd (sMat (sMiw (sMth m9 (nI 0)) (nI (rFin (mbf m9) n (mrd m9)).2.1)) (nI (rFin (mbf m9) n (mrd m9)).1)) ((rFin (mbf m9) n (mrd m9)).2.2.2)) (nI (rFin (mbf m9) n (mrd m9)).2.2.1)) := (by first | (simp only [MR, if_pos c1, if_neg (not_not_intro c1)]; done) | (simp only [MR, if_pos c1, if_neg (not_not_intro c1)]; with_reducible rfl) | (simp only [MR, if_pos c1, if_neg (not_not_intro c1)]; (repeat (first | rw [if_neg (not_not_intro c1)] | rw [if_pos c1])); done) | with_reducible rfl | (simp [MR, if_pos c1, if_neg (not_not_intro c1)]; done))
    have hP : va_P g.1 vwCl (wM g a (MR (sMth m9 (nI 0)) (rFin (mbf m9) n (mrd m9)))) H := by rw [e2]; exact hP
    have hD : va_D A (wM g a (MR (sMth m9 (nI 0)) (rFin (mbf m9) n (mrd m9)))) := by rw [e2]; exact hD
    exact k_iret hx hb hr hlocks rfl (by first | (simp only [MR, bI, if_pos c1, if_neg (not_not_intro c1)]; done) | (simp only [MR, bI, if_pos c1, if_neg (not_not_intro c1)]; with_reducible rfl) | (simp only [MR, bI, if_pos c1, if_neg (not_not_intro c1)]; (repeat (first | rw [if_neg (not_not_intro c1)] | rw [if_pos c1])); done) | with_reducible rfl | (simp [MR, bI, if_pos c1, if_neg (not_not_intro c1)]; done)) hP hD hS (Nat.le_of_ble_eq_true rfl) (Nat.le_of_ble_eq_true rfl) dX4_firstError_23
  ·
    refine lv_aload_n hx hb dX4_firstError_12 rfl (lv_at hl 0 rfl) ?_
    refine va_get (D := g.1) (ci := 4) (v := .int (mln m9)) (C := RX4) (T := TX4) (N := 12) hx hb hts hiX4 hown hE.1 hP 0 rfl rfl 6 (by decide) f113 (fun _ h9 => h9) rfl dX4_firstError_13 ?_
    refine k_top hln ?_
    refine lv_goto (tgt := 23) hx hb dX4_firstError_16 (by decide) ?_
    have e3 : (MR (sMth m9 (nI 0)) (rFin (mbf m9) n (mrd m9))) = (sMrm (sMrd (sMat (sMiw (sMth m9 (nI 0)) (nI (rFin (mbf m9) n (mrd m9)).2.1)) (nI (rFin (mbf m9) n (mrd m9)).1)) ((rFin (mbf m9) n (mrd m9)).2.2.2)) (nI (rFin (mbf m9) n (mrd m9)).2.2.1)) := (by first | (simp only [MR, if_neg c1, if_pos c1]; done) | (simp only [MR, if_neg c1, if_pos c1]; with_reducible rfl) | (simp only [MR, if_neg c1, if_pos c1]; (repeat (first | rw [if_neg c1])); done) | with_reducible rfl | (simp [MR, if_neg c1, if_pos c1]; done))
    have hP : va_P g.1 vwCl (wM g a (MR (sMth m9 (nI 0)) (rFin (mbf m9) n (mrd m9)))) H := by rw [e3]; exact hP
    have hD : va_D A (wM g a (MR (sMth m9 (nI 0)) (rFin (mbf m9) n (mrd m9)))) := by rw [e3]; exact hD
    exact k_iret hx hb hr hlocks rfl (by first | (simp only [MR, bI, if_neg c1, if_pos c1]; done) | (simp only [MR, bI, if_neg c1, if_pos c1]; with_reducible rfl) | (simp only [MR, bI, if_neg c1, if_pos c1]; (repeat (first | rw [if_neg c1])); done) | with_reducible rfl | (simp [MR, bI, if_neg c1, if_pos c1]; done)) hP hD hS (Nat.le_of_ble_eq_true rfl) (Nat.le_of_ble_eq_true rfl) dX4_firstError_23
set_option maxHeartbeats 4000000 in
set_option maxRecDepth 100000 in
theorem c_X4_cellOfI (l : Launch) (g : kG) (x y : Int32) : KI l yX4_cellOf wsX4_cellOf ({ frames := 0, cells := 0, slots := 0, locals := 0 }) g [.int x, .int y] [] ((nI 6 * x) + y) [] 0 0 := by
  refine k_begin (cc := cX4_cellOf) (maxL := 2) (ret := (some .int)) (Qc := fun A => kQi g ((nI 6 * x) + y) [] A) (by decide) rfl (Nat.le_of_ble_eq_true rfl) ?_
  intro p e s m below meth c A ls hF hr hlocks hin hE hP hD hS hA hl
  obtain ⟨hx, hb, hml, hown, hts⟩ := id hF
  have hown : s.vm.findClass RX4 = some m.cls := hown
  have hl : lv_has ls 2 [(0, .int x), (1, .int y)] := hl
  refine lv_bipush (v := (nI 6)) hx hb dX4_cellOf_0 (by decide) ?_
  refine lv_iload_n hx hb dX4_cellOf_2 rfl (lv_at hl 0 rfl) ?_
  refine lv_imul hx hb dX4_cellOf_3 ?_
  refine lv_iload_n hx hb dX4_cellOf_4 rfl (lv_at hl 1 rfl) ?_
  refine lv_iadd hx hb dX4_cellOf_5 ?_
  have hP : va_P g.1 vwCl [] _ := hP
  have hD : va_D A [] := hD
  exact k_iret hx hb hr hlocks rfl (by first | with_reducible rfl | (simp only [bI]; done) | (simp only [bI]; with_reducible rfl) | (simp [bI]; done)) hP hD hS (Nat.le_of_ble_eq_true rfl) (Nat.le_of_ble_eq_true rfl) dX4_cellOf_6
