set_option maxHeartbeats 4000000 in
set_option maxRecDepth 100000 in
theorem c_X4_sign (l : Launch) (g : kG) (a : Nat → Nat) (m9 : MSt) (n a9 : Nat) (hn : n ≤ 60) (hln : mln m9 = nI n) (hat : mat m9 = nI a9) (ha9 : a9 ≤ 100) (hbf : Tok (mbf m9) n) : KI l yX4_sign wsX4_sign ({ frames := 0, cells := 0, slots := 0, locals := 0 }) g [.ref (a 0)] (wM g a m9) (nI (Bq (mbf m9) n a9)) (wM g a m9) 0 0 := by
  refine k_begin (cc := cX4_sign) (maxL := 1) (ret := (some .int)) (Qc := fun A => kQi g (nI (Bq (mbf m9) n a9)) (wM g a m9) A) (by decide) rfl (Nat.le_of_ble_eq_true rfl) ?_
  intro p e s m below meth c A ls hF hr hlocks hin hE hP hD hS hA hl
  obtain ⟨hx, hb, hml, hown, hts⟩ := id hF
  have hown : s.vm.findClass RX4 = some m.cls := hown
  have hl : lv_has ls 1 [(0, .ref (a 0))] := hl
  have hiX4 : ∀ w ∈ wsX40, w ∈ wsX4_sign := fun _ h => List.mem_cons_of_mem _ (List.mem_append_right _ (h))
  have f116 : (Cond.fieldLink RX4 116 "ConcertUsherModel" "at" "I").before _ s = true := hts _ (List.mem_of_getElem? (i := 1) rfl)
  have f113 : (Cond.fieldLink RX4 113 "ConcertUsherModel" "length" "I").before _ s = true := hts _ (List.mem_of_getElem? (i := 2) rfl)
  have f19 : (Cond.fieldLink RX4 19 "ConcertUsherModel" "buffer" "[I").before _ s = true := hts _ (List.mem_of_getElem? (i := 3) rfl)
  refine lv_aload_n hx hb dX4_sign_0 rfl (lv_at hl 0 rfl) ?_
  refine va_get (D := g.1) (ci := 4) (v := .int (mat m9)) (C := RX4) (T := TX4) (N := 12) hx hb hts hiX4 hown hE.1 hP 0 rfl rfl 7 (by decide) f116 (fun _ h9 => h9) rfl dX4_sign_1 ?_
  refine k_top hat ?_
  refine lv_aload_n hx hb dX4_sign_4 rfl (lv_at hl 0 rfl) ?_
  refine va_get (D := g.1) (ci := 4) (v := .int (mln m9)) (C := RX4) (T := TX4) (N := 12) hx hb hts hiX4 hown hE.1 hP 0 rfl rfl 6 (by decide) f113 (fun _ h9 => h9) rfl dX4_sign_5 ?_
  refine k_top hln ?_
  refine k_geN (tgt := 23) hx hb (by omega) (by omega) dX4_sign_8 (by decide) (fun c1 => ?_) (fun c1 => ?_)
  ·
    refine lv_iconst (v := (nI 0)) hx hb dX4_sign_23 (by decide) ?_
    have hP : va_P g.1 vwCl (wM g a m9) _ := hP
    have hD : va_D A (wM g a m9) := hD
    exact k_iret hx hb hr hlocks rfl (by rw [Bq, if_pos ‹_›]) hP hD hS (Nat.le_of_ble_eq_true rfl) (Nat.le_of_ble_eq_true rfl) dX4_sign_24
  ·
    refine lv_aload_n hx hb dX4_sign_11 rfl (lv_at hl 0 rfl) ?_
    refine va_get (D := g.1) (ci := 4) (v := .ref (a 4)) (C := RX4) (T := TX4) (N := 12) hx hb hts hiX4 hown hE.1 hP 0 rfl rfl 5 (by decide) f19 (fun _ h9 => h9) rfl dX4_sign_12 ?_
    refine lv_aload_n hx hb dX4_sign_15 rfl (lv_at hl 0 rfl) ?_
    refine va_get (D := g.1) (ci := 4) (v := .int (mat m9)) (C := RX4) (T := TX4) (N := 12) hx hb hts hiX4 hown hE.1 hP 0 rfl rfl 7 (by decide) f116 (fun _ h9 => h9) rfl dX4_sign_16 ?_
    refine k_top hat ?_
    refine k_iald (f := (mbf m9)) hx hb hE hP 4 rfl a9 rfl (by omega) (by decide) dX4_sign_19 ?_
    refine lv_goto (tgt := 24) hx hb dX4_sign_20 (by decide) ?_
    have hP : va_P g.1 vwCl (wM g a m9) _ := hP
    have hD : va_D A (wM g a m9) := hD
    exact k_iret hx hb hr hlocks rfl (by rw [Bq, if_neg (Nat.not_le.mpr ‹_›)]; exact (Tok_cl hbf ‹_›).1.symm) hP hD hS (Nat.le_of_ble_eq_true rfl) (Nat.le_of_ble_eq_true rfl) dX4_sign_24
set_option maxHeartbeats 4000000 in
set_option maxRecDepth 100000 in
theorem c_X4_figure (l : Launch) (g : kG) (a : Nat → Nat) (m9 : MSt) (n a9 : Nat) (hn : n ≤ 60) (hln : mln m9 = nI n) (hat : mat m9 = nI a9) (ha9 : a9 ≤ 100) (hbf : Tok (mbf m9) n) (w : Nat) (hiw : miw m9 = nI w) (hw2 : w < 2) (lo : Nat) (hlo : lo ≤ 9) (hi : Nat) (hhi : hi ≤ 9) : KI l yX4_figure wsX4_figure ({ frames := 1, cells := 0, slots := 0, locals := 22 }) g [.ref (a 0), .int (nI lo), .int (nI hi)] (wM g a m9) ((nI (Bq (mbf m9) n a9)) - (nI 48)) (wM g a (sMat (sMiw m9 (nI (figW w (Bq (mbf m9) n a9) lo hi))) (nI (a9 + (figW w (Bq (mbf m9) n a9) lo hi))))) 0 0 := by
  refine k_begin (cc := cX4_figure) (maxL := 4) (ret := (some .int)) (Qc := fun A => kQi g ((nI (Bq (mbf m9) n a9)) - (nI 48)) (wM g a (sMat (sMiw m9 (nI (figW w (Bq (mbf m9) n a9) lo hi))) (nI (a9 + (figW w (Bq (mbf m9) n a9) lo hi))))) A) (by decide) rfl (Nat.le_of_ble_eq_true rfl) ?_
  intro p e s m below meth c A ls hF hr hlocks hin hE hP hD hS hA hl
  obtain ⟨hx, hb, hml, hown, hts⟩ := id hF
  have hown : s.vm.findClass RX4 = some m.cls := hown
  have hl : lv_has ls 4 [(0, .ref (a 0)), (1, .int (nI lo)), (2, .int (nI hi))] := hl
  have hiX4 : ∀ w ∈ wsX40, w ∈ wsX4_figure := fun _ h => List.mem_cons_of_mem _ (List.mem_append_right _ (h))
  have f119 : (Cond.fieldLink RX4 119 "ConcertUsherModel" "isWell" "Z").before _ s = true := hts _ (List.mem_of_getElem? (i := 1) rfl)
  have f116 : (Cond.fieldLink RX4 116 "ConcertUsherModel" "at" "I").before _ s = true := hts _ (List.mem_of_getElem? (i := 2) rfl)
  refine lv_aload_n hx hb dX4_figure_0 rfl (lv_at hl 0 rfl) ?_
  refine lv_aload_n hx hb dX4_figure_1 rfl (lv_at hl 0 rfl) ?_
  refine va_get (D := g.1) (ci := 4) (v := .int (miw m9)) (C := RX4) (T := TX4) (N := 12) hx hb hts hiX4 hown hE.1 hP 0 rfl rfl 8 (by decide) f119 (fun _ h9 => h9) rfl dX4_figure_2 ?_
  refine k_top hiw ?_
  refine k_if0 (tgt := 30) hx hb (Nat.lt_trans hw2 (by decide)) dX4_figure_5 (by decide) (fun c1 => ?_) (fun c1 => ?_)
  ·
    refine lv_iconst (v := (nI 0)) hx hb dX4_figure_30 (by decide) ?_
    refine va_put (D := g.1) (ci := 4) (v := .int (nI 0)) (ty := .boolean) (C := RX4) (T := TX4) (N := 12) hx hb hts hiX4 tyX4 tyX4_ok nmX4 hown hE.1 hP hD hS 0 rfl rfl 8 (by decide) f119 (fun _ h9 => h9) rfl (tyX4_ok 8 (by decide)) rfl rfl (Nat.le_of_ble_eq_true rfl) dX4_figure_31 (fun H locs hP hD hS => ?_)
    have hP : va_P g.1 vwCl (wM g a (sMiw m9 (nI 0))) _ := hP
    have hD : va_D A (wM g a (sMiw m9 (nI 0))) := hD
    refine lv_aload_n hx hb dX4_figure_34 rfl (lv_at hl 0 rfl) ?_
    refine k_Vi (As := []) (r := (nI (Bq (mbf m9) n a9))) hF (c_X4_sign l g a (sMiw m9 (nI 0)) n a9 hn hln hat (by omega) hbf) (cwV 0 hts gX4_figure_X4_sign rfl rfl rfl (by decide +kernel) ⟨Nat.le_of_ble_eq_true rfl, Nat.le_of_ble_eq_true rfl⟩) hE hP hD hS hA (k_pall _) ((k_pall _).symm) 0 rfl rfl rfl rfl hl.1 rfl (Nat.le_of_ble_eq_true rfl) dX4_figure_35 ⟨Nat.le_of_ble_eq_true rfl, Nat.le_of_ble_eq_true rfl⟩ (fun H locs hP hD hS => ?_)
    have hP : va_P g.1 vwCl (wM g a (sMiw m9 (nI 0))) _ := hP
    have hD : va_D A (wM g a (sMiw m9 (nI 0))) := hD
    refine lv_bipush (v := (nI 48)) hx hb dX4_figure_38 (by decide) ?_
    refine lv_isub hx hb dX4_figure_40 ?_
    refine lv_istore_n (lv' := [(3, .int ((nI (Bq (mbf m9) n a9)) - (nI 48))), (0, .ref (a 0)), (1, .int (nI lo)), (2, .int (nI hi))]) hx hb dX4_figure_41 rfl hl (by decide) rfl (fun ls hl => ?_)
    refine lv_aload_n hx hb dX4_figure_42 rfl (lv_at hl 1 rfl) ?_
    refine lv_dup hx hb dX4_figure_43 rfl ?_
    refine va_get (D := g.1) (ci := 4) (v := .int (mat m9)) (C := RX4) (T := TX4) (N := 12) hx hb hts hiX4 hown hE.1 hP 0 rfl rfl 7 (by decide) f116 (fun _ h9 => h9) rfl dX4_figure_44 ?_
    refine k_top hat ?_
    refine lv_aload_n hx hb dX4_figure_47 rfl (lv_at hl 1 rfl) ?_
    refine va_get (D := g.1) (ci := 4) (v := .int (nI 0)) (C := RX4) (T := TX4) (N := 12) hx hb hts hiX4 hown hE.1 hP 0 rfl rfl 8 (by decide) f119 (fun _ h9 => h9) rfl dX4_figure_48 ?_
    refine k_if0 (tgt := 58) hx hb (by decide) dX4_figure_51 (by decide) (fun c2 => ?_) (fun c2 => ?_)
    ·
      refine lv_iconst (v := (nI 0)) hx hb dX4_figure_58 (by decide) ?_
      refine lv_iadd hx hb dX4_figure_59 ?_
      refine k_top (nI_add _ _) ?_
      refine va_put (D := g.1) (ci := 4) (v := .int (nI (a9 + 0))) (ty := .int) (C := RX4) (T := TX4) (N := 12) hx hb hts hiX4 tyX4 tyX4_ok nmX4 hown hE.1 hP hD hS 0 rfl rfl 7 (by decide) f116 (fun _ h9 => h9) rfl (tyX4_ok 7 (by decide)) rfl rfl (Nat.le_of_ble_eq_true rfl) dX4_figure_60 (fun H locs hP hD hS => ?_)
      have hP : va_P g.1 vwCl (wM g a (sMat (sMiw m9 (nI 0)) (nI (a9 + 0)))) _ := hP
      have hD : va_D A (wM g a (sMat (sMiw m9 (nI 0)) (nI (a9 + 0)))) := hD
      refine lv_iload_n hx hb dX4_figure_63 rfl (lv_at hl 0 rfl) ?_
      have e3 : (sMat (sMiw m9 (nI (figW w (Bq (mbf m9) n a9) lo hi))) (nI (a9 + (figW w (Bq (mbf m9) n a9) lo hi)))) = (sMat (sMiw m9 (nI 0)) (nI (a9 + 0))) := (by first | (simp only [figW, if_pos c1, if_neg (not_not_intro c1), if_pos c2, if_neg (not_not_intro c2)]; done) | (simp only [figW, if_pos c1, if_neg (not_not_intro c1), if_pos c2, if_neg (not_not_intro c2)]; with_reducible rfl) | (simp only [figW, if_pos c1, if_neg (not_not_intro c1), if_pos c2, if_neg (not_not_intro c2)]; (repeat (first | rw [if_neg (not_not_intro c2)] | rw [if_pos c2] | rw [if_neg (not_not_intro c1)] | rw [if_pos c1])); done) | with_reducible rfl | (simp [figW, if_pos c1, if_neg (not_not_intro c1), if_pos c2, if_neg (not_not_intro c2)]; done))
      have hP : va_P g.1 vwCl (wM g a (sMat (sMiw m9 (nI (figW w (Bq (mbf m9) n a9) lo hi))) (nI (a9 + (figW w (Bq (mbf m9) n a9) lo hi))))) H := by rw [e3]; exact hP
      have hD : va_D A (wM g a (sMat (sMiw m9 (nI (figW w (Bq (mbf m9) n a9) lo hi))) (nI (a9 + (figW w (Bq (mbf m9) n a9) lo hi))))) := by rw [e3]; exact hD
      exact k_iret hx hb hr hlocks rfl rfl hP hD hS (Nat.le_of_ble_eq_true rfl) (Nat.le_of_ble_eq_true rfl) dX4_figure_64
    ·
      exact absurd c2 (by decide)
  ·
    refine lv_aload_n hx hb dX4_figure_8 rfl (lv_at hl 0 rfl) ?_
    refine k_Vi (As := []) (r := (nI (Bq (mbf m9) n a9))) hF (c_X4_sign l g a m9 n a9 hn hln hat (by omega) hbf) (cwV 0 hts gX4_figure_X4_sign rfl rfl rfl (by decide +kernel) ⟨Nat.le_of_ble_eq_true rfl, Nat.le_of_ble_eq_true rfl⟩) hE hP hD hS hA (k_pall _) ((k_pall _).symm) 0 rfl rfl rfl rfl hl.1 rfl (Nat.le_of_ble_eq_true rfl) dX4_figure_9 ⟨Nat.le_of_ble_eq_true rfl, Nat.le_of_ble_eq_true rfl⟩ (fun H locs hP hD hS => ?_)
    have hP : va_P g.1 vwCl (wM g a m9) _ := hP
    have hD : va_D A (wM g a m9) := hD
    refine lv_bipush (v := (nI 48)) hx hb dX4_figure_12 (by decide) ?_
    refine lv_iload_n hx hb dX4_figure_14 rfl (lv_at hl 1 rfl) ?_
    refine lv_iadd hx hb dX4_figure_15 ?_
    refine k_top (nI_add _ _) ?_
    refine lv_bipush (v := (nI 48)) hx hb dX4_figure_16 (by decide) ?_
    refine lv_iload_n hx hb dX4_figure_18 rfl (lv_at hl 2 rfl) ?_
    refine lv_iadd hx hb dX4_figure_19 ?_
    refine k_top (nI_add _ _) ?_
    refine k_Si (w0 := []) (w1 := []) (As := [.int (nI (Bq (mbf m9) n a9)), .int (nI (48 + lo)), .int (nI (48 + hi))]) (r := (bI ((nI (48 + lo)) ≤ (nI (Bq (mbf m9) n a9)) ∧ (nI (Bq (mbf m9) n a9)) ≤ (nI (48 + hi))))) hF (c_X4_in l g (nI (Bq (mbf m9) n a9)) (nI (48 + lo)) (nI (48 + hi))) (va_cwS 3 hts gX4_figure_X4_in rfl rfl rfl (by decide +kernel) ⟨Nat.le_of_ble_eq_true rfl, Nat.le_of_ble_eq_true rfl⟩) hE hP hD hS hA (List.Perm.refl _) (List.Perm.refl _) rfl hl.1 rfl (Nat.le_of_ble_eq_true rfl) dX4_figure_20 ⟨Nat.le_of_ble_eq_true rfl, Nat.le_of_ble_eq_true rfl⟩ (fun H locs hP hD hS => ?_)
    have hP : va_P g.1 vwCl (wM g a m9) _ := hP
    have hD : va_D A (wM g a m9) := hD
    refine k_ifeqB (tgt := 30) hx hb dX4_figure_23 (by decide) (fun c4 => ?_) (fun c4 => ?_)
    ·
      refine lv_iconst (v := (nI 0)) hx hb dX4_figure_30 (by decide) ?_
      refine va_put (D := g.1) (ci := 4) (v := .int (nI 0)) (ty := .boolean) (C := RX4) (T := TX4) (N := 12) hx hb hts hiX4 tyX4 tyX4_ok nmX4 hown hE.1 hP hD hS 0 rfl rfl 8 (by decide) f119 (fun _ h9 => h9) rfl (tyX4_ok 8 (by decide)) rfl rfl (Nat.le_of_ble_eq_true rfl) dX4_figure_31 (fun H locs hP hD hS => ?_)
      have hP : va_P g.1 vwCl (wM g a (sMiw m9 (nI 0))) _ := hP
      have hD : va_D A (wM g a (sMiw m9 (nI 0))) := hD
      refine lv_aload_n hx hb dX4_figure_34 rfl (lv_at hl 0 rfl) ?_
      refine k_Vi (As := []) (r := (nI (Bq (mbf m9) n a9))) hF (c_X4_sign l g a (sMiw m9 (nI 0)) n a9 hn hln hat (by omega) hbf) (cwV 0 hts gX4_figure_X4_sign rfl rfl rfl (by decide +kernel) ⟨Nat.le_of_ble_eq_true rfl, Nat.le_of_ble_eq_true rfl⟩) hE hP hD hS hA (k_pall _) ((k_pall _).symm) 0 rfl rfl rfl rfl hl.1 rfl (Nat.le_of_ble_eq_true rfl) dX4_figure_35 ⟨Nat.le_of_ble_eq_true rfl, Nat.le_of_ble_eq_true rfl⟩ (fun H locs hP hD hS => ?_)
      have hP : va_P g.1 vwCl (wM g a (sMiw m9 (nI 0))) _ := hP
      have hD : va_D A (wM g a (sMiw m9 (nI 0))) := hD
      refine lv_bipush (v := (nI 48)) hx hb dX4_figure_38 (by decide) ?_
      refine lv_isub hx hb dX4_figure_40 ?_
      refine lv_istore_n (lv' := [(3, .int ((nI (Bq (mbf m9) n a9)) - (nI 48))), (0, .ref (a 0)), (1, .int (nI lo)), (2, .int (nI hi))]) hx hb dX4_figure_41 rfl hl (by decide) rfl (fun ls hl => ?_)
      refine lv_aload_n hx hb dX4_figure_42 rfl (lv_at hl 1 rfl) ?_
      refine lv_dup hx hb dX4_figure_43 rfl ?_
      refine va_get (D := g.1) (ci := 4) (v := .int (mat m9)) (C := RX4) (T := TX4) (N := 12) hx hb hts hiX4 hown hE.1 hP 0 rfl rfl 7 (by decide) f116 (fun _ h9 => h9) rfl dX4_figure_44 ?_
      refine k_top hat ?_
      refine lv_aload_n hx hb dX4_figure_47 rfl (lv_at hl 1 rfl) ?_
      refine va_get (D := g.1) (ci := 4) (v := .int (nI 0)) (C := RX4) (T := TX4) (N := 12) hx hb hts hiX4 hown hE.1 hP 0 rfl rfl 8 (by decide) f119 (fun _ h9 => h9) rfl dX4_figure_48 ?_
      refine k_if0 (tgt := 58) hx hb (by decide) dX4_figure_51 (by decide) (fun c5 => ?_) (fun c5 => ?_)
      ·
        refine lv_iconst (v := (nI 0)) hx hb dX4_figure_58 (by decide) ?_
        refine lv_iadd hx hb dX4_figure_59 ?_
        refine k_top (nI_add _ _) ?_
        refine va_put (D := g.1) (ci := 4) (v := .int (nI (a9 + 0))) (ty := .int) (C := RX4) (T := TX4) (N := 12) hx hb hts hiX4 tyX4 tyX4_ok nmX4 hown hE.1 hP hD hS 0 rfl rfl 7 (by decide) f116 (fun _ h9 => h9) rfl (tyX4_ok 7 (by decide)) rfl rfl (Nat.le_of_ble_eq_true rfl) dX4_figure_60 (fun H locs hP hD hS => ?_)
        have hP : va_P g.1 vwCl (wM g a (sMat (sMiw m9 (nI 0)) (nI (a9 + 0)))) _ := hP
        have hD : va_D A (wM g a (sMat (sMiw m9 (nI 0)) (nI (a9 + 0)))) := hD
        refine lv_iload_n hx hb dX4_figure_63 rfl (lv_at hl 0 rfl) ?_
        have e6 : (sMat (sMiw m9 (nI (figW w (Bq (mbf m9) n a9) lo hi))) (nI (a9 + (figW w (Bq (mbf m9) n a9) lo hi)))) = (sMat (sMiw m9 (nI 0)) (nI (a9 + 0))) := (by first | (simp only [figW, if_neg c1, if_pos c1, if_neg c4, if_pos c4, if_pos c5, if_neg (not_not_intro c5)]; done) | (simp only [figW, if_neg c1, if_pos c1, if_neg c4, if_pos c4, if_pos c5, if_neg (not_not_intro c5)]; with_reducible rfl) | (simp only [figW, if_neg c1, if_pos c1, if_neg c4, if_pos c4, if_pos c5, if_neg (not_not_intro c5)]; (repeat (first | rw [if_neg (not_not_intro c5)] | rw [if_pos c5] | rw [if_neg c4] | rw [if_neg c1])); done) | with_reducible rfl | (simp [figW, if_neg c1, if_pos c1, if_neg c4, if_pos c4, if_pos c5, if_neg (not_not_intro c5)]; done))
        have hP : va_P g.1 vwCl (wM g a (sMat (sMiw m9 (nI (figW w (Bq (mbf m9) n a9) lo hi))) (nI (a9 + (figW w (Bq (mbf m9) n a9) lo hi))))) H := by rw [e6]; exact hP
        have hD : va_D A (wM g a (sMat (sMiw m9 (nI (figW w (Bq (mbf m9) n a9) lo hi))) (nI (a9 + (figW w (Bq (mbf m9) n a9) lo hi))))) := by rw [e6]; exact hD
        exact k_iret hx hb hr hlocks rfl rfl hP hD hS (Nat.le_of_ble_eq_true rfl) (Nat.le_of_ble_eq_true rfl) dX4_figure_64
      ·
        exact absurd c5 (by decide)
    ·
      refine lv_iconst (v := (nI 1)) hx hb dX4_figure_26 (by decide) ?_
      refine lv_goto (tgt := 31) hx hb dX4_figure_27 (by decide) ?_
      refine va_put (D := g.1) (ci := 4) (v := .int (nI 1)) (ty := .boolean) (C := RX4) (T := TX4) (N := 12) hx hb hts hiX4 tyX4 tyX4_ok nmX4 hown hE.1 hP hD hS 0 rfl rfl 8 (by decide) f119 (fun _ h9 => h9) rfl (tyX4_ok 8 (by decide)) rfl rfl (Nat.le_of_ble_eq_true rfl) dX4_figure_31 (fun H locs hP hD hS => ?_)
      have hP : va_P g.1 vwCl (wM g a (sMiw m9 (nI 1))) _ := hP
      have hD : va_D A (wM g a (sMiw m9 (nI 1))) := hD
      refine lv_aload_n hx hb dX4_figure_34 rfl (lv_at hl 0 rfl) ?_
      refine k_Vi (As := []) (r := (nI (Bq (mbf m9) n a9))) hF (c_X4_sign l g a (sMiw m9 (nI 1)) n a9 hn hln hat (by omega) hbf) (cwV 0 hts gX4_figure_X4_sign rfl rfl rfl (by decide +kernel) ⟨Nat.le_of_ble_eq_true rfl, Nat.le_of_ble_eq_true rfl⟩) hE hP hD hS hA (k_pall _) ((k_pall _).symm) 0 rfl rfl rfl rfl hl.1 rfl (Nat.le_of_ble_eq_true rfl) dX4_figure_35 ⟨Nat.le_of_ble_eq_true rfl, Nat.le_of_ble_eq_true rfl⟩ (fun H locs hP hD hS => ?_)
      have hP : va_P g.1 vwCl (wM g a (sMiw m9 (nI 1))) _ := hP
      have hD : va_D A (wM g a (sMiw m9 (nI 1))) := hD
      refine lv_bipush (v := (nI 48)) hx hb dX4_figure_38 (by decide) ?_
      refine lv_isub hx hb dX4_figure_40 ?_
      refine lv_istore_n (lv' := [(3, .int ((nI (Bq (mbf m9) n a9)) - (nI 48))), (0, .ref (a 0)), (1, .int (nI lo)), (2, .int (nI hi))]) hx hb dX4_figure_41 rfl hl (by decide) rfl (fun ls hl => ?_)
      refine lv_aload_n hx hb dX4_figure_42 rfl (lv_at hl 1 rfl) ?_
      refine lv_dup hx hb dX4_figure_43 rfl ?_
      refine va_get (D := g.1) (ci := 4) (v := .int (mat m9)) (C := RX4) (T := TX4) (N := 12) hx hb hts hiX4 hown hE.1 hP 0 rfl rfl 7 (by decide) f116 (fun _ h9 => h9) rfl dX4_figure_44 ?_
      refine k_top hat ?_
      refine lv_aload_n hx hb dX4_figure_47 rfl (lv_at hl 1 rfl) ?_
      refine va_get (D := g.1) (ci := 4) (v := .int (nI 1)) (C := RX4) (T := TX4) (N := 12) hx hb hts hiX4 hown hE.1 hP 0 rfl rfl 8 (by decide) f119 (fun _ h9 => h9) rfl dX4_figure_48 ?_
      refine k_if0 (tgt := 58) hx hb (by decide) dX4_figure_51 (by decide) (fun c7 => ?_) (fun c7 => ?_)
      ·
        exact absurd c7 (by decide)
      ·
        refine lv_iconst (v := (nI 1)) hx hb dX4_figure_54 (by decide) ?_
        refine lv_goto (tgt := 59) hx hb dX4_figure_55 (by decide) ?_
        refine lv_iadd hx hb dX4_figure_59 ?_
        refine k_top (nI_add _ _) ?_
        refine va_put (D := g.1) (ci := 4) (v := .int (nI (a9 + 1))) (ty := .int) (C := RX4) (T := TX4) (N := 12) hx hb hts hiX4 tyX4 tyX4_ok nmX4 hown hE.1 hP hD hS 0 rfl rfl 7 (by decide) f116 (fun _ h9 => h9) rfl (tyX4_ok 7 (by decide)) rfl rfl (Nat.le_of_ble_eq_true rfl) dX4_figure_60 (fun H locs hP hD hS => ?_)
        have hP : va_P g.1 vwCl (wM g a (sMat (sMiw m9 (nI 1)) (nI (a9 + 1)))) _ := hP
        have hD : va_D A (wM g a (sMat (sMiw m9 (nI 1)) (nI (a9 + 1)))) := hD
        refine lv_iload_n hx hb dX4_figure_63 rfl (lv_at hl 0 rfl) ?_
        have e8 : (sMat (sMiw m9 (nI (figW w (Bq (mbf m9) n a9) lo hi))) (nI (a9 + (figW w (Bq (mbf m9) n a9) lo hi)))) = (sMat (sMiw m9 (nI 1)) (nI (a9 + 1))) := (by first | (simp only [figW, if_neg c1, if_pos c1, if_pos c4, if_neg (not_not_intro c4), if_neg c7, if_pos c7]; done) | (simp only [figW, if_neg c1, if_pos c1, if_pos c4, if_neg (not_not_intro c4), if_neg c7, if_pos c7]; with_reducible rfl) | (simp only [figW, if_neg c1, if_pos c1, if_pos c4, if_neg (not_not_intro c4), if_neg c7, if_pos c7]; (repeat (first | rw [if_neg c7] | rw [if_neg (not_not_intro c4)] | rw [if_pos c4] | rw [if_neg c1])); done) | with_reducible rfl | (simp [figW, if_neg c1, if_pos c1, if_pos c4, if_neg (not_not_intro c4), if_neg c7, if_pos c7]; done))
        have hP : va_P g.1 vwCl (wM g a (sMat (sMiw m9 (nI (figW w (Bq (mbf m9) n a9) lo hi))) (nI (a9 + (figW w (Bq (mbf m9) n a9) lo hi))))) H := by rw [e8]; exact hP
        have hD : va_D A (wM g a (sMat (sMiw m9 (nI (figW w (Bq (mbf m9) n a9) lo hi))) (nI (a9 + (figW w (Bq (mbf m9) n a9) lo hi))))) := by rw [e8]; exact hD
        exact k_iret hx hb hr hlocks rfl rfl hP hD hS (Nat.le_of_ble_eq_true rfl) (Nat.le_of_ble_eq_true rfl) dX4_figure_64
set_option maxHeartbeats 4000000 in
set_option maxRecDepth 100000 in
theorem c_X4_number (l : Launch) (g : kG) (a : Nat → Nat) (m9 : MSt) (n a9 : Nat) (hn : n ≤ 60) (hln : mln m9 = nI n) (hat : mat m9 = nI a9) (ha9 : a9 ≤ 100) (hbf : Tok (mbf m9) n) (ha98 : a9 ≤ 98) (w : Nat) (hiw : miw m9 = nI w) (hw2 : w < 2) : KI l yX4_number wsX4_number ({ frames := 2, cells := 0, slots := 0, locals := 45 }) g [.ref (a 0)] (wM g a m9) (numV (mbf m9) n a9 w) (wM g a (sMat (sMiw m9 (nI (figW w (Bq (mbf m9) n a9) 1 9))) (nI (numA (mbf m9) n a9 w)))) 0 0 := by
  refine k_begin (cc := cX4_number) (maxL := 2) (ret := (some .int)) (Qc := fun A => kQi g (numV (mbf m9) n a9 w) (wM g a (sMat (sMiw m9 (nI (figW w (Bq (mbf m9) n a9) 1 9))) (nI (numA (mbf m9) n a9 w)))) A) (by decide) rfl (Nat.le_of_ble_eq_true rfl) ?_
  intro p e s m below meth c A ls hF hr hlocks hin hE hP hD hS hA hl
  obtain ⟨hx, hb, hml, hown, hts⟩ := id hF
  have hown : s.vm.findClass RX4 = some m.cls := hown
  have hl : lv_has ls 2 [(0, .ref (a 0))] := hl
  have hiX4 : ∀ w ∈ wsX40, w ∈ wsX4_number := fun _ h => List.mem_cons_of_mem _ (List.mem_append_right _ (h))
  have f119 : (Cond.fieldLink RX4 119 "ConcertUsherModel" "isWell" "Z").before _ s = true := hts _ (List.mem_of_getElem? (i := 1) rfl)
  have f116 : (Cond.fieldLink RX4 116 "ConcertUsherModel" "at" "I").before _ s = true := hts _ (List.mem_of_getElem? (i := 2) rfl)
  refine lv_aload_n hx hb dX4_number_0 rfl (lv_at hl 0 rfl) ?_
  refine lv_iconst (v := (nI 1)) hx hb dX4_number_1 (by decide) ?_
  refine lv_bipush (v := (nI 9)) hx hb dX4_number_2 (by decide) ?_
  refine k_Vi (As := [.int (nI 1), .int (nI 9)]) (r := ((nI (Bq (mbf m9) n a9)) - (nI 48))) hF (c_X4_figure l g a m9 n a9 hn hln hat (by omega) hbf w hiw hw2 1 (by decide) 9 (by decide)) (cwV 2 hts gX4_number_X4_figure rfl rfl rfl (by decide +kernel) ⟨Nat.le_of_ble_eq_true rfl, Nat.le_of_ble_eq_true rfl⟩) hE hP hD hS hA (k_pall _) ((k_pall _).symm) 0 rfl rfl rfl rfl hl.1 rfl (Nat.le_of_ble_eq_true rfl) dX4_number_4 ⟨Nat.le_of_ble_eq_true rfl, Nat.le_of_ble_eq_true rfl⟩ (fun H locs hP hD hS => ?_)
  have hP : va_P g.1 vwCl (wM g a (sMat (sMiw m9 (nI (figW w (Bq (mbf m9) n a9) 1 9))) (nI (a9 + (figW w (Bq (mbf m9) n a9) 1 9))))) _ := hP
  have hD : va_D A (wM g a (sMat (sMiw m9 (nI (figW w (Bq (mbf m9) n a9) 1 9))) (nI (a9 + (figW w (Bq (mbf m9) n a9) 1 9))))) := hD
  refine lv_istore_n (lv' := [(1, .int ((nI (Bq (mbf m9) n a9)) - (nI 48))), (0, .ref (a 0))]) hx hb dX4_number_7 rfl hl (by decide) rfl (fun ls hl => ?_)
  have hfw := figW_lt w (Bq (mbf m9) n a9) 1 9
  refine lv_aload_n hx hb dX4_number_8 rfl (lv_at hl 1 rfl) ?_
  refine va_get (D := g.1) (ci := 4) (v := .int (nI (figW w (Bq (mbf m9) n a9) 1 9))) (C := RX4) (T := TX4) (N := 12) hx hb hts hiX4 hown hE.1 hP 0 rfl rfl 8 (by decide) f119 (fun _ h9 => h9) rfl dX4_number_9 ?_
  refine k_if0 (tgt := 69) hx hb (figW_lt31 _ _ _ _) dX4_number_12 (by decide) (fun c1 => ?_) (fun c1 => ?_)
  ·
    refine lv_iload_n hx hb dX4_number_69 rfl (lv_at hl 0 rfl) ?_
    have e2 : (sMat (sMiw m9 (nI (figW w (Bq (mbf m9) n a9) 1 9))) (nI (numA (mbf m9) n a9 w))) = (sMat (sMiw m9 (nI (figW w (Bq (mbf m9) n a9) 1 9))) (nI (a9 + (figW w (Bq (mbf m9) n a9) 1 9)))) := (by first | (simp only [numV, numA, if_pos c1, if_neg (not_not_intro c1)]; done) | (simp only [numV, numA, if_pos c1, if_neg (not_not_intro c1)]; with_reducible rfl) | (simp only [numV, numA, if_pos c1, if_neg (not_not_intro c1)]; (repeat (first | rw [if_neg (not_not_intro c1)] | rw [if_pos c1])); done) | with_reducible rfl | (simp [numV, numA, if_pos c1, if_neg (not_not_intro c1)]; done))
    have hP : va_P g.1 vwCl (wM g a (sMat (sMiw m9 (nI (figW w (Bq (mbf m9) n a9) 1 9))) (nI (numA (mbf m9) n a9 w)))) H := by rw [e2]; exact hP
    have hD : va_D A (wM g a (sMat (sMiw m9 (nI (figW w (Bq (mbf m9) n a9) 1 9))) (nI (numA (mbf m9) n a9 w)))) := by rw [e2]; exact hD
    exact k_iret hx hb hr hlocks rfl (by first | (simp only [numV, numA, bI, if_pos c1, if_neg (not_not_intro c1)]; done) | (simp only [numV, numA, bI, if_pos c1, if_neg (not_not_intro c1)]; with_reducible rfl) | (simp only [numV, numA, bI, if_pos c1, if_neg (not_not_intro c1)]; (repeat (first | rw [if_neg (not_not_intro c1)] | rw [if_pos c1])); done) | with_reducible rfl | (simp [numV, numA, bI, if_pos c1, if_neg (not_not_intro c1)]; done)) hP hD hS (Nat.le_of_ble_eq_true rfl) (Nat.le_of_ble_eq_true rfl) dX4_number_70
  ·
    refine lv_aload_n hx hb dX4_number_15 rfl (lv_at hl 1 rfl) ?_
    refine k_Vi (As := []) (r := (nI (Bq (mbf m9) n (a9 + (figW w (Bq (mbf m9) n a9) 1 9))))) hF (c_X4_sign l g a (sMat (sMiw m9 (nI (figW w (Bq (mbf m9) n a9) 1 9))) (nI (a9 + (figW w (Bq (mbf m9) n a9) 1 9)))) n (a9 + (figW w (Bq (mbf m9) n a9) 1 9)) hn hln rfl (by omega) hbf) (cwV 0 hts gX4_number_X4_sign rfl rfl rfl (by decide +kernel) ⟨Nat.le_of_ble_eq_true rfl, Nat.le_of_ble_eq_true rfl⟩) hE hP hD hS hA (k_pall _) ((k_pall _).symm) 0 rfl rfl rfl rfl hl.1 rfl (Nat.le_of_ble_eq_true rfl) dX4_number_16 ⟨Nat.le_of_ble_eq_true rfl, Nat.le_of_ble_eq_true rfl⟩ (fun H locs hP hD hS => ?_)
    have hP : va_P g.1 vwCl (wM g a (sMat (sMiw m9 (nI (figW w (Bq (mbf m9) n a9) 1 9))) (nI (a9 + (figW w (Bq (mbf m9) n a9) 1 9))))) _ := hP
    have hD : va_D A (wM g a (sMat (sMiw m9 (nI (figW w (Bq (mbf m9) n a9) 1 9))) (nI (a9 + (figW w (Bq (mbf m9) n a9) 1 9))))) := hD
    refine lv_bipush (v := (nI 48)) hx hb dX4_number_19 (by decide) ?_
    refine lv_bipush (v := (nI 57)) hx hb dX4_number_21 (by decide) ?_
    refine k_Si (w0 := []) (w1 := []) (As := [.int (nI (Bq (mbf m9) n (a9 + (figW w (Bq (mbf m9) n a9) 1 9)))), .int (nI 48), .int (nI 57)]) (r := (bI ((nI 48) ≤ (nI (Bq (mbf m9) n (a9 + (figW w (Bq (mbf m9) n a9) 1 9)))) ∧ (nI (Bq (mbf m9) n (a9 + (figW w (Bq (mbf m9) n a9) 1 9)))) ≤ (nI 57)))) hF (c_X4_in l g (nI (Bq (mbf m9) n (a9 + (figW w (Bq (mbf m9) n a9) 1 9)))) (nI 48) (nI 57)) (va_cwS 3 hts gX4_number_X4_in rfl rfl rfl (by decide +kernel) ⟨Nat.le_of_ble_eq_true rfl, Nat.le_of_ble_eq_true rfl⟩) hE hP hD hS hA (List.Perm.refl _) (List.Perm.refl _) rfl hl.1 rfl (Nat.le_of_ble_eq_true rfl) dX4_number_23 ⟨Nat.le_of_ble_eq_true rfl, Nat.le_of_ble_eq_true rfl⟩ (fun H locs hP hD hS => ?_)
    have hP : va_P g.1 vwCl (wM g a (sMat (sMiw m9 (nI (figW w (Bq (mbf m9) n a9) 1 9))) (nI (a9 + (figW w (Bq (mbf m9) n a9) 1 9))))) _ := hP
    have hD : va_D A (wM g a (sMat (sMiw m9 (nI (figW w (Bq (mbf m9) n a9) 1 9))) (nI (a9 + (figW w (Bq (mbf m9) n a9) 1 9))))) := hD
    refine k_ifeqB (tgt := 69) hx hb dX4_number_26 (by decide) (fun c3 => ?_) (fun c3 => ?_)
    ·
      refine lv_iload_n hx hb dX4_number_69 rfl (lv_at hl 0 rfl) ?_
      have e4 : (sMat (sMiw m9 (nI (figW w (Bq (mbf m9) n a9) 1 9))) (nI (numA (mbf m9) n a9 w))) = (sMat (sMiw m9 (nI (figW w (Bq (mbf m9) n a9) 1 9))) (nI (a9 + (figW w (Bq (mbf m9) n a9) 1 9)))) := (by first | (simp only [numV, numA, if_neg c1, if_pos c1, if_neg c3, if_pos c3]; done) | (simp only [numV, numA, if_neg c1, if_pos c1, if_neg c3, if_pos c3]; with_reducible rfl) | (simp only [numV, numA, if_neg c1, if_pos c1, if_neg c3, if_pos c3]; (repeat (first | rw [if_neg c3] | rw [if_neg c1])); done) | with_reducible rfl | (simp [numV, numA, if_neg c1, if_pos c1, if_neg c3, if_pos c3]; done))
      have hP : va_P g.1 vwCl (wM g a (sMat (sMiw m9 (nI (figW w (Bq (mbf m9) n a9) 1 9))) (nI (numA (mbf m9) n a9 w)))) H := by rw [e4]; exact hP
      have hD : va_D A (wM g a (sMat (sMiw m9 (nI (figW w (Bq (mbf m9) n a9) 1 9))) (nI (numA (mbf m9) n a9 w)))) := by rw [e4]; exact hD
      exact k_iret hx hb hr hlocks rfl (by first | (simp only [numV, numA, bI, if_neg c1, if_pos c1, if_neg c3, if_pos c3]; done) | (simp only [numV, numA, bI, if_neg c1, if_pos c1, if_neg c3, if_pos c3]; with_reducible rfl) | (simp only [numV, numA, bI, if_neg c1, if_pos c1, if_neg c3, if_pos c3]; (repeat (first | rw [if_neg c3] | rw [if_neg c1])); done) | with_reducible rfl | (simp [numV, numA, bI, if_neg c1, if_pos c1, if_neg c3, if_pos c3]; done)) hP hD hS (Nat.le_of_ble_eq_true rfl) (Nat.le_of_ble_eq_true rfl) dX4_number_70
    ·
      refine lv_bipush (v := (nI 10)) hx hb dX4_number_29 (by decide) ?_
      refine lv_iload_n hx hb dX4_number_31 rfl (lv_at hl 0 rfl) ?_
      refine lv_imul hx hb dX4_number_32 ?_
      refine lv_aload_n hx hb dX4_number_33 rfl (lv_at hl 1 rfl) ?_
      refine k_Vi (As := []) (r := (nI (Bq (mbf m9) n (a9 + (figW w (Bq (mbf m9) n a9) 1 9))))) hF (c_X4_sign l g a (sMat (sMiw m9 (nI (figW w (Bq (mbf m9) n a9) 1 9))) (nI (a9 + (figW w (Bq (mbf m9) n a9) 1 9)))) n (a9 + (figW w (Bq (mbf m9) n a9) 1 9)) hn hln rfl (by omega) hbf) (cwV 0 hts gX4_number_X4_sign rfl rfl rfl (by decide +kernel) ⟨Nat.le_of_ble_eq_true rfl, Nat.le_of_ble_eq_true rfl⟩) hE hP hD hS hA (k_pall _) ((k_pall _).symm) 0 rfl rfl rfl rfl hl.1 rfl (Nat.le_of_ble_eq_true rfl) dX4_number_34 ⟨Nat.le_of_ble_eq_true rfl, Nat.le_of_ble_eq_true rfl⟩ (fun H locs hP hD hS => ?_)
      have hP : va_P g.1 vwCl (wM g a (sMat (sMiw m9 (nI (figW w (Bq (mbf m9) n a9) 1 9))) (nI (a9 + (figW w (Bq (mbf m9) n a9) 1 9))))) _ := hP
      have hD : va_D A (wM g a (sMat (sMiw m9 (nI (figW w (Bq (mbf m9) n a9) 1 9))) (nI (a9 + (figW w (Bq (mbf m9) n a9) 1 9))))) := hD
      refine lv_iadd hx hb dX4_number_37 ?_
      refine lv_bipush (v := (nI 48)) hx hb dX4_number_38 (by decide) ?_
      refine lv_isub hx hb dX4_number_40 ?_
      refine lv_bipush (v := (nI 60)) hx hb dX4_number_41 (by decide) ?_
      refine lv_icmp_gt (tgt := 69) hx hb dX4_number_43 (by decide) (fun c5 => ?_) (fun c5 => ?_)
      ·
        refine lv_iload_n hx hb dX4_number_69 rfl (lv_at hl 0 rfl) ?_
        have e6 : (sMat (sMiw m9 (nI (figW w (Bq (mbf m9) n a9) 1 9))) (nI (numA (mbf m9) n a9 w))) = (sMat (sMiw m9 (nI (figW w (Bq (mbf m9) n a9) 1 9))) (nI (a9 + (figW w (Bq (mbf m9) n a9) 1 9)))) := (by first | (simp only [numV, numA, if_neg c1, if_pos c1, if_pos c3, if_neg (not_not_intro c3), if_pos c5, if_neg (not_not_intro c5)]; done) | (simp only [numV, numA, if_neg c1, if_pos c1, if_pos c3, if_neg (not_not_intro c3), if_pos c5, if_neg (not_not_intro c5)]; with_reducible rfl) | (simp only [numV, numA, if_neg c1, if_pos c1, if_pos c3, if_neg (not_not_intro c3), if_pos c5, if_neg (not_not_intro c5)]; (repeat (first | rw [if_neg (not_not_intro c5)] | rw [if_pos c5] | rw [if_neg (not_not_intro c3)] | rw [if_pos c3] | rw [if_neg c1])); done) | with_reducible rfl | (simp [numV, numA, if_neg c1, if_pos c1, if_pos c3, if_neg (not_not_intro c3), if_pos c5, if_neg (not_not_intro c5)]; done))
        have hP : va_P g.1 vwCl (wM g a (sMat (sMiw m9 (nI (figW w (Bq (mbf m9) n a9) 1 9))) (nI (numA (mbf m9) n a9 w)))) H := by rw [e6]; exact hP
        have hD : va_D A (wM g a (sMat (sMiw m9 (nI (figW w (Bq (mbf m9) n a9) 1 9))) (nI (numA (mbf m9) n a9 w)))) := by rw [e6]; exact hD
        exact k_iret hx hb hr hlocks rfl (by first | (simp only [numV, numA, bI, if_neg c1, if_pos c1, if_pos c3, if_neg (not_not_intro c3), if_pos c5, if_neg (not_not_intro c5)]; done) | (simp only [numV, numA, bI, if_neg c1, if_pos c1, if_pos c3, if_neg (not_not_intro c3), if_pos c5, if_neg (not_not_intro c5)]; with_reducible rfl) | (simp only [numV, numA, bI, if_neg c1, if_pos c1, if_pos c3, if_neg (not_not_intro c3), if_pos c5, if_neg (not_not_intro c5)]; (repeat (first | rw [if_neg (not_not_intro c5)] | rw [if_pos c5] | rw [if_neg (not_not_intro c3)] | rw [if_pos c3] | rw [if_neg c1])); done) | with_reducible rfl | (simp [numV, numA, bI, if_neg c1, if_pos c1, if_pos c3, if_neg (not_not_intro c3), if_pos c5, if_neg (not_not_intro c5)]; done)) hP hD hS (Nat.le_of_ble_eq_true rfl) (Nat.le_of_ble_eq_true rfl) dX4_number_70
      ·
        refine lv_bipush (v := (nI 10)) hx hb dX4_number_46 (by decide) ?_
        refine lv_iload_n hx hb dX4_number_48 rfl (lv_at hl 0 rfl) ?_
        refine lv_imul hx hb dX4_number_49 ?_
        refine lv_aload_n hx hb dX4_number_50 rfl (lv_at hl 1 rfl) ?_
        refine k_Vi (As := []) (r := (nI (Bq (mbf m9) n (a9 + (figW w (Bq (mbf m9) n a9) 1 9))))) hF (c_X4_sign l g a (sMat (sMiw m9 (nI (figW w (Bq (mbf m9) n a9) 1 9))) (nI (a9 + (figW w (Bq (mbf m9) n a9) 1 9)))) n (a9 + (figW w (Bq (mbf m9) n a9) 1 9)) hn hln rfl (by omega) hbf) (cwV 0 hts gX4_number_X4_sign rfl rfl rfl (by decide +kernel) ⟨Nat.le_of_ble_eq_true rfl, Nat.le_of_ble_eq_true rfl⟩) hE hP hD hS hA (k_pall _) ((k_pall _).symm) 0 rfl rfl rfl rfl hl.1 rfl (Nat.le_of_ble_eq_true rfl) dX4_number_51 ⟨Nat.le_of_ble_eq_true rfl, Nat.le_of_ble_eq_true rfl⟩ (fun H locs hP hD hS => ?_)
        have hP : va_P g.1 vwCl (wM g a (sMat (sMiw m9 (nI (figW w (Bq (mbf m9) n a9) 1 9))) (nI (a9 + (figW w (Bq (mbf m9) n a9) 1 9))))) _ := hP
        have hD : va_D A (wM g a (sMat (sMiw m9 (nI (figW w (Bq (mbf m9) n a9) 1 9))) (nI (a9 + (figW w (Bq (mbf m9) n a9) 1 9))))) := hD
        refine lv_iadd hx hb dX4_number_54 ?_
        refine lv_bipush (v := (nI 48)) hx hb dX4_number_55 (by decide) ?_
        refine lv_isub hx hb dX4_number_57 ?_
        refine lv_istore_n (lv' := [(1, .int ((((nI 10) * ((nI (Bq (mbf m9) n a9)) - (nI 48))) + (nI (Bq (mbf m9) n (a9 + (figW w (Bq (mbf m9) n a9) 1 9))))) - (nI 48))), (0, .ref (a 0))]) hx hb dX4_number_58 rfl hl (by decide) rfl (fun ls hl => ?_)
        refine lv_aload_n hx hb dX4_number_59 rfl (lv_at hl 1 rfl) ?_
        refine lv_dup hx hb dX4_number_60 rfl ?_
        refine va_get (D := g.1) (ci := 4) (v := .int (nI (a9 + (figW w (Bq (mbf m9) n a9) 1 9)))) (C := RX4) (T := TX4) (N := 12) hx hb hts hiX4 hown hE.1 hP 0 rfl rfl 7 (by decide) f116 (fun _ h9 => h9) rfl dX4_number_61 ?_
        refine lv_iconst (v := (nI 1)) hx hb dX4_number_64 (by decide) ?_
        refine lv_iadd hx hb dX4_number_65 ?_
        refine k_top (nI_add _ _) ?_
        refine va_put (D := g.1) (ci := 4) (v := .int (nI ((a9 + (figW w (Bq (mbf m9) n a9) 1 9)) + 1))) (ty := .int) (C := RX4) (T := TX4) (N := 12) hx hb hts hiX4 tyX4 tyX4_ok nmX4 hown hE.1 hP hD hS 0 rfl rfl 7 (by decide) f116 (fun _ h9 => h9) rfl (tyX4_ok 7 (by decide)) rfl rfl (Nat.le_of_ble_eq_true rfl) dX4_number_66 (fun H locs hP hD hS => ?_)
        have hP : va_P g.1 vwCl (wM g a (sMat (sMiw m9 (nI (figW w (Bq (mbf m9) n a9) 1 9))) (nI ((a9 + (figW w (Bq (mbf m9) n a9) 1 9)) + 1)))) _ := hP
        have hD : va_D A (wM g a (sMat (sMiw m9 (nI (figW w (Bq (mbf m9) n a9) 1 9))) (nI ((a9 + (figW w (Bq (mbf m9) n a9) 1 9)) + 1)))) := hD
        refine lv_iload_n hx hb dX4_number_69 rfl (lv_at hl 0 rfl) ?_
        have e7 : (sMat (sMiw m9 (nI (figW w (Bq (mbf m9) n a9) 1 9))) (nI (numA (mbf m9) n a9 w))) = (sMat (sMiw m9 (nI (figW w (Bq (mbf m9) n a9) 1 9))) (nI ((a9 + (figW w (Bq (mbf m9) n a9) 1 9)) + 1))) := (by first | (simp only [numV, numA, if_neg c1, if_pos c1, if_pos c3, if_neg (not_not_intro c3), if_neg c5, if_pos c5]; done) | (simp only [numV, numA, if_neg c1, if_pos c1, if_pos c3, if_neg (not_not_intro c3), if_neg c5, if_pos c5]; with_reducible rfl) | (simp only [numV, numA, if_neg c1, if_pos c1, if_pos c3, if_neg (not_not_intro c3), if_neg c5, if_pos c5]; (repeat (first | rw [if_neg c5] | rw [if_neg (not_not_intro c3)] | rw [if_pos c3] | rw [if_neg c1])); done) | with_reducible rfl | (simp [numV, numA, if_neg c1, if_pos c1, if_pos c3, if_neg (not_not_intro c3), if_neg c5, if_pos c5]; done))
        have hP : va_P g.1 vwCl (wM g a (sMat (sMiw m9 (nI (figW w (Bq (mbf m9) n a9) 1 9))) (nI (numA (mbf m9) n a9 w)))) H := by rw [e7]; exact hP
        have hD : va_D A (wM g a (sMat (sMiw m9 (nI (figW w (Bq (mbf m9) n a9) 1 9))) (nI (numA (mbf m9) n a9 w)))) := by rw [e7]; exact hD
        exact k_iret hx hb hr hlocks rfl (by first | (simp only [numV, numA, bI, if_neg c1, if_pos c1, if_pos c3, if_neg (not_not_intro c3), if_neg c5, if_pos c5]; done) | (simp only [numV, numA, bI, if_neg c1, if_pos c1, if_pos c3, if_neg (not_not_intro c3), if_neg c5, if_pos c5]; with_reducible rfl) | (simp only [numV, numA, bI, if_neg c1, if_pos c1, if_pos c3, if_neg (not_not_intro c3), if_neg c5, if_pos c5]; (repeat (first | rw [if_neg c5] | rw [if_neg (not_not_intro c3)] | rw [if_pos c3] | rw [if_neg c1])); done) | with_reducible rfl | (simp [numV, numA, bI, if_neg c1, if_pos c1, if_pos c3, if_neg (not_not_intro c3), if_neg c5, if_pos c5]; done)) hP hD hS (Nat.le_of_ble_eq_true rfl) (Nat.le_of_ble_eq_true rfl) dX4_number_70
