set_option maxHeartbeats 4000000 in
set_option maxRecDepth 100000 in
theorem c_X1_init (l : Launch) (g : kG) (b : Nat) : KN l yX1_init wsX1_init ({ frames := 1, cells := 3, slots := 102, locals := 20 }) g [.ref b] [(b, .inr (1, raw1))] (fun u : Nat → Nat => u 0 = b) (fun u => wH g u H0) 3 102 := by
  refine k_begin (cc := cX1_init) (maxL := 1) (ret := none) (Qc := fun A => kQn g (fun u : Nat → Nat => u 0 = b) (fun u => wH g u H0) A) (by decide) rfl (Nat.le_of_ble_eq_true rfl) ?_
  intro p e s m below meth c A ls hF hr hlocks hin hE hP hD hS hA hl
  obtain ⟨hx, hb, hml, hown, hts⟩ := id hF
  have hown : s.vm.findClass RX1 = some m.cls := hown
  have hl : lv_has ls 1 [(0, .ref b)] := hl
  have hP : va_P g.1 vwCl [(b, .inr (1, [.null, .null, .null, .int (nI 0), .int (nI 0), .int (nI 0), .int (nI 0), .int (nI 0), .int (nI 0), .int (nI 0), .int (nI 0), .int (nI 0)]))] _ := hP
  have hD : va_D A [(b, .inr (1, [.null, .null, .null, .int (nI 0), .int (nI 0), .int (nI 0), .int (nI 0), .int (nI 0), .int (nI 0), .int (nI 0), .int (nI 0), .int (nI 0)]))] := hD
  have hiX1 : ∀ w ∈ wsX10, w ∈ wsX1_init := fun _ h => List.mem_cons_of_mem _ (List.mem_append_right _ (h))
  have oil : (Cond.methodLink RX1 3 objectInit).before _ s = true := hts _ (List.mem_of_getElem? (i := 1) rfl)
  have oii : (Cond.instanceMethod objectInit).before _ s = true := hts _ (List.mem_of_getElem? (i := 2) rfl)
  have ac_int : (Cond.arrayClass .int).before _ s = true := hts _ (List.mem_of_getElem? (i := 4) rfl)
  have f9 : (Cond.fieldLink RX1 9 "ConcertUsher$Hall" "listeners" "[I").before _ s = true := hts _ (List.mem_of_getElem? (i := 5) rfl)
  have f15 : (Cond.fieldLink RX1 15 "ConcertUsher$Hall" "rests" "[I").before _ s = true := hts _ (List.mem_of_getElem? (i := 6) rfl)
  have f18 : (Cond.fieldLink RX1 18 "ConcertUsher$Hall" "counts" "[I").before _ s = true := hts _ (List.mem_of_getElem? (i := 7) rfl)
  have f21 : (Cond.fieldLink RX1 21 "ConcertUsher$Hall" "openRows" "I").before _ s = true := hts _ (List.mem_of_getElem? (i := 8) rfl)
  have f25 : (Cond.fieldLink RX1 25 "ConcertUsher$Hall" "isQuick" "Z").before _ s = true := hts _ (List.mem_of_getElem? (i := 9) rfl)
  have f29 : (Cond.fieldLink RX1 29 "ConcertUsher$Hall" "isFirstPresent" "Z").before _ s = true := hts _ (List.mem_of_getElem? (i := 10) rfl)
  have f32 : (Cond.fieldLink RX1 32 "ConcertUsher$Hall" "isSecondPresent" "Z").before _ s = true := hts _ (List.mem_of_getElem? (i := 11) rfl)
  have f35 : (Cond.fieldLink RX1 35 "ConcertUsher$Hall" "fading" "I").before _ s = true := hts _ (List.mem_of_getElem? (i := 12) rfl)
  have f38 : (Cond.fieldLink RX1 38 "ConcertUsher$Hall" "patience" "I").before _ s = true := hts _ (List.mem_of_getElem? (i := 13) rfl)
  have f41 : (Cond.fieldLink RX1 41 "ConcertUsher$Hall" "asking" "I").before _ s = true := hts _ (List.mem_of_getElem? (i := 14) rfl)
  have f44 : (Cond.fieldLink RX1 44 "ConcertUsher$Hall" "minutes" "I").before _ s = true := hts _ (List.mem_of_getElem? (i := 15) rfl)
  have f47 : (Cond.fieldLink RX1 47 "ConcertUsher$Hall" "sinceQuestion" "I").before _ s = true := hts _ (List.mem_of_getElem? (i := 16) rfl)
  refine lv_aload_n hx hb dX1_init_0 rfl (lv_at hl 0 rfl) ?_
  refine W.objInit hx hb hown oil oii (hts _ (List.mem_of_getElem? (i := 3) rfl)) rfl (by rw [hml]; exact hl.1) rfl dX1_init_1 (Nat.le_of_ble_eq_true rfl) (Nat.le_of_ble_eq_true rfl) ?_
  refine W.eq (g2 := F0 m 4 ls []) rfl ?_
  refine lv_aload_n hx hb dX1_init_4 rfl (lv_at hl 0 rfl) ?_
  refine lv_bipush (v := (nI 48)) hx hb dX1_init_5 (by decide) ?_
  refine k_newi hx hb ac_int hE hP hD hS hA 48 (by decide) (by decide) (Nat.le_of_ble_eq_true rfl) (Nat.le_of_ble_eq_true rfl) dX1_init_7 (fun q1 H hP hD hS => ?_)
  have hP : va_P g.1 vwCl ([(b, .inr (1, [.null, .null, .null, .int (nI 0), .int (nI 0), .int (nI 0), .int (nI 0), .int (nI 0), .int (nI 0), .int (nI 0), .int (nI 0), .int (nI 0)]))] ++ [(q1, .inl (g.2.1, 48, .inl z0))]) _ := hP
  have hD : va_D A ([(b, .inr (1, [.null, .null, .null, .int (nI 0), .int (nI 0), .int (nI 0), .int (nI 0), .int (nI 0), .int (nI 0), .int (nI 0), .int (nI 0), .int (nI 0)]))] ++ [(q1, .inl (g.2.1, 48, .inl z0))]) := hD
  refine va_putF (D := g.1) (ci := 1) (v := .ref q1) (ty := tyX1 0) (C := RX1) (T := TX1) (N := 12) hx hb hts hiX1 tyX1 tyX1_ok nmX1 hown hE.1 hP hD hS 0 rfl rfl 0 (by decide) f9 (fun _ h9 => h9) rfl hin rfl (tyX1_ok 0 (by decide)) rfl rfl (Nat.le_of_ble_eq_true rfl) dX1_init_9 (fun H locs hP hD hS => ?_)
  have hP : va_P g.1 vwCl ([(b, .inr (1, [.ref q1, .null, .null, .int (nI 0), .int (nI 0), .int (nI 0), .int (nI 0), .int (nI 0), .int (nI 0), .int (nI 0), .int (nI 0), .int (nI 0)]))] ++ [(q1, .inl (g.2.1, 48, .inl z0))]) _ := hP
  have hD : va_D A ([(b, .inr (1, [.ref q1, .null, .null, .int (nI 0), .int (nI 0), .int (nI 0), .int (nI 0), .int (nI 0), .int (nI 0), .int (nI 0), .int (nI 0), .int (nI 0)]))] ++ [(q1, .inl (g.2.1, 48, .inl z0))]) := hD
  refine lv_aload_n hx hb dX1_init_12 rfl (lv_at hl 0 rfl) ?_
  refine lv_bipush (v := (nI 48)) hx hb dX1_init_13 (by decide) ?_
  refine k_newi hx hb ac_int hE hP hD hS hA 48 (by decide) (by decide) (Nat.le_of_ble_eq_true rfl) (Nat.le_of_ble_eq_true rfl) dX1_init_15 (fun q2 H hP hD hS => ?_)
  have hP : va_P g.1 vwCl ([(b, .inr (1, [.ref q1, .null, .null, .int (nI 0), .int (nI 0), .int (nI 0), .int (nI 0), .int (nI 0), .int (nI 0), .int (nI 0), .int (nI 0), .int (nI 0)]))] ++ ([(q1, .inl (g.2.1, 48, .inl z0))] ++ [(q2, .inl (g.2.1, 48, .inl z0))])) _ := hP
  have hD : va_D A ([(b, .inr (1, [.ref q1, .null, .null, .int (nI 0), .int (nI 0), .int (nI 0), .int (nI 0), .int (nI 0), .int (nI 0), .int (nI 0), .int (nI 0), .int (nI 0)]))] ++ ([(q1, .inl (g.2.1, 48, .inl z0))] ++ [(q2, .inl (g.2.1, 48, .inl z0))])) := hD
  refine va_putF (D := g.1) (ci := 1) (v := .ref q2) (ty := tyX1 1) (C := RX1) (T := TX1) (N := 12) hx hb hts hiX1 tyX1 tyX1_ok nmX1 hown hE.1 hP hD hS 0 rfl rfl 1 (by decide) f15 (fun _ h9 => h9) rfl hin rfl (tyX1_ok 1 (by decide)) rfl rfl (Nat.le_of_ble_eq_true rfl) dX1_init_17 (fun H locs hP hD hS => ?_)
  have hP : va_P g.1 vwCl ([(b, .inr (1, [.ref q1, .ref q2, .null, .int (nI 0), .int (nI 0), .int (nI 0), .int (nI 0), .int (nI 0), .int (nI 0), .int (nI 0), .int (nI 0), .int (nI 0)]))] ++ ([(q1, .inl (g.2.1, 48, .inl z0))] ++ [(q2, .inl (g.2.1, 48, .inl z0))])) _ := hP
  have hD : va_D A ([(b, .inr (1, [.ref q1, .ref q2, .null, .int (nI 0), .int (nI 0), .int (nI 0), .int (nI 0), .int (nI 0), .int (nI 0), .int (nI 0), .int (nI 0), .int (nI 0)]))] ++ ([(q1, .inl (g.2.1, 48, .inl z0))] ++ [(q2, .inl (g.2.1, 48, .inl z0))])) := hD
  refine lv_aload_n hx hb dX1_init_20 rfl (lv_at hl 0 rfl) ?_
  refine lv_bipush (v := (nI 6)) hx hb dX1_init_21 (by decide) ?_
  refine k_newi hx hb ac_int hE hP hD hS hA 6 (by decide) (by decide) (Nat.le_of_ble_eq_true rfl) (Nat.le_of_ble_eq_true rfl) dX1_init_23 (fun q3 H hP hD hS => ?_)
  have hP : va_P g.1 vwCl ([(b, .inr (1, [.ref q1, .ref q2, .null, .int (nI 0), .int (nI 0), .int (nI 0), .int (nI 0), .int (nI 0), .int (nI 0), .int (nI 0), .int (nI 0), .int (nI 0)]))] ++ ([(q1, .inl (g.2.1, 48, .inl z0))] ++ ([(q2, .inl (g.2.1, 48, .inl z0))] ++ [(q3, .inl (g.2.1, 6, .inl z0))]))) _ := hP
  have hD : va_D A ([(b, .inr (1, [.ref q1, .ref q2, .null, .int (nI 0), .int (nI 0), .int (nI 0), .int (nI 0), .int (nI 0), .int (nI 0), .int (nI 0), .int (nI 0), .int (nI 0)]))] ++ ([(q1, .inl (g.2.1, 48, .inl z0))] ++ ([(q2, .inl (g.2.1, 48, .inl z0))] ++ [(q3, .inl (g.2.1, 6, .inl z0))]))) := hD
  refine va_putF (D := g.1) (ci := 1) (v := .ref q3) (ty := tyX1 2) (C := RX1) (T := TX1) (N := 12) hx hb hts hiX1 tyX1 tyX1_ok nmX1 hown hE.1 hP hD hS 0 rfl rfl 2 (by decide) f18 (fun _ h9 => h9) rfl hin rfl (tyX1_ok 2 (by decide)) rfl rfl (Nat.le_of_ble_eq_true rfl) dX1_init_25 (fun H locs hP hD hS => ?_)
  have hP : va_P g.1 vwCl ([(b, .inr (1, [.ref q1, .ref q2, .ref q3, .int (nI 0), .int (nI 0), .int (nI 0), .int (nI 0), .int (nI 0), .int (nI 0), .int (nI 0), .int (nI 0), .int (nI 0)]))] ++ ([(q1, .inl (g.2.1, 48, .inl z0))] ++ ([(q2, .inl (g.2.1, 48, .inl z0))] ++ [(q3, .inl (g.2.1, 6, .inl z0))]))) _ := hP
  have hD : va_D A ([(b, .inr (1, [.ref q1, .ref q2, .ref q3, .int (nI 0), .int (nI 0), .int (nI 0), .int (nI 0), .int (nI 0), .int (nI 0), .int (nI 0), .int (nI 0), .int (nI 0)]))] ++ ([(q1, .inl (g.2.1, 48, .inl z0))] ++ ([(q2, .inl (g.2.1, 48, .inl z0))] ++ [(q3, .inl (g.2.1, 6, .inl z0))]))) := hD
  refine lv_aload_n hx hb dX1_init_28 rfl (lv_at hl 0 rfl) ?_
  refine lv_iconst (v := (nI 0)) hx hb dX1_init_29 (by decide) ?_
  refine va_put (D := g.1) (ci := 1) (v := .int (nI 0)) (ty := tyX1 3) (C := RX1) (T := TX1) (N := 12) hx hb hts hiX1 tyX1 tyX1_ok nmX1 hown hE.1 hP hD hS 0 rfl rfl 3 (by decide) f21 (fun _ h9 => h9) rfl (tyX1_ok 3 (by decide)) rfl rfl (Nat.le_of_ble_eq_true rfl) dX1_init_30 (fun H locs hP hD hS => ?_)
  have hP : va_P g.1 vwCl ([(b, .inr (1, [.ref q1, .ref q2, .ref q3, .int (nI 0), .int (nI 0), .int (nI 0), .int (nI 0), .int (nI 0), .int (nI 0), .int (nI 0), .int (nI 0), .int (nI 0)]))] ++ ([(q1, .inl (g.2.1, 48, .inl z0))] ++ ([(q2, .inl (g.2.1, 48, .inl z0))] ++ [(q3, .inl (g.2.1, 6, .inl z0))]))) _ := hP
  have hD : va_D A ([(b, .inr (1, [.ref q1, .ref q2, .ref q3, .int (nI 0), .int (nI 0), .int (nI 0), .int (nI 0), .int (nI 0), .int (nI 0), .int (nI 0), .int (nI 0), .int (nI 0)]))] ++ ([(q1, .inl (g.2.1, 48, .inl z0))] ++ ([(q2, .inl (g.2.1, 48, .inl z0))] ++ [(q3, .inl (g.2.1, 6, .inl z0))]))) := hD
  refine lv_aload_n hx hb dX1_init_33 rfl (lv_at hl 0 rfl) ?_
  refine lv_iconst (v := (nI 0)) hx hb dX1_init_34 (by decide) ?_
  refine va_put (D := g.1) (ci := 1) (v := .int (nI 0)) (ty := tyX1 4) (C := RX1) (T := TX1) (N := 12) hx hb hts hiX1 tyX1 tyX1_ok nmX1 hown hE.1 hP hD hS 0 rfl rfl 4 (by decide) f25 (fun _ h9 => h9) rfl (tyX1_ok 4 (by decide)) rfl rfl (Nat.le_of_ble_eq_true rfl) dX1_init_35 (fun H locs hP hD hS => ?_)
  have hP : va_P g.1 vwCl ([(b, .inr (1, [.ref q1, .ref q2, .ref q3, .int (nI 0), .int (nI 0), .int (nI 0), .int (nI 0), .int (nI 0), .int (nI 0), .int (nI 0), .int (nI 0), .int (nI 0)]))] ++ ([(q1, .inl (g.2.1, 48, .inl z0))] ++ ([(q2, .inl (g.2.1, 48, .inl z0))] ++ [(q3, .inl (g.2.1, 6, .inl z0))]))) _ := hP
  have hD : va_D A ([(b, .inr (1, [.ref q1, .ref q2, .ref q3, .int (nI 0), .int (nI 0), .int (nI 0), .int (nI 0), .int (nI 0), .int (nI 0), .int (nI 0), .int (nI 0), .int (nI 0)]))] ++ ([(q1, .inl (g.2.1, 48, .inl z0))] ++ ([(q2, .inl (g.2.1, 48, .inl z0))] ++ [(q3, .inl (g.2.1, 6, .inl z0))]))) := hD
  refine lv_aload_n hx hb dX1_init_38 rfl (lv_at hl 0 rfl) ?_
  refine lv_iconst (v := (nI 0)) hx hb dX1_init_39 (by decide) ?_
  refine va_put (D := g.1) (ci := 1) (v := .int (nI 0)) (ty := tyX1 5) (C := RX1) (T := TX1) (N := 12) hx hb hts hiX1 tyX1 tyX1_ok nmX1 hown hE.1 hP hD hS 0 rfl rfl 5 (by decide) f29 (fun _ h9 => h9) rfl (tyX1_ok 5 (by decide)) rfl rfl (Nat.le_of_ble_eq_true rfl) dX1_init_40 (fun H locs hP hD hS => ?_)
  have hP : va_P g.1 vwCl ([(b, .inr (1, [.ref q1, .ref q2, .ref q3, .int (nI 0), .int (nI 0), .int (nI 0), .int (nI 0), .int (nI 0), .int (nI 0), .int (nI 0), .int (nI 0), .int (nI 0)]))] ++ ([(q1, .inl (g.2.1, 48, .inl z0))] ++ ([(q2, .inl (g.2.1, 48, .inl z0))] ++ [(q3, .inl (g.2.1, 6, .inl z0))]))) _ := hP
  have hD : va_D A ([(b, .inr (1, [.ref q1, .ref q2, .ref q3, .int (nI 0), .int (nI 0), .int (nI 0), .int (nI 0), .int (nI 0), .int (nI 0), .int (nI 0), .int (nI 0), .int (nI 0)]))] ++ ([(q1, .inl (g.2.1, 48, .inl z0))] ++ ([(q2, .inl (g.2.1, 48, .inl z0))] ++ [(q3, .inl (g.2.1, 6, .inl z0))]))) := hD
  refine lv_aload_n hx hb dX1_init_43 rfl (lv_at hl 0 rfl) ?_
  refine lv_iconst (v := (nI 0)) hx hb dX1_init_44 (by decide) ?_
  refine va_put (D := g.1) (ci := 1) (v := .int (nI 0)) (ty := tyX1 6) (C := RX1) (T := TX1) (N := 12) hx hb hts hiX1 tyX1 tyX1_ok nmX1 hown hE.1 hP hD hS 0 rfl rfl 6 (by decide) f32 (fun _ h9 => h9) rfl (tyX1_ok 6 (by decide)) rfl rfl (Nat.le_of_ble_eq_true rfl) dX1_init_45 (fun H locs hP hD hS => ?_)
  have hP : va_P g.1 vwCl ([(b, .inr (1, [.ref q1, .ref q2, .ref q3, .int (nI 0), .int (nI 0), .int (nI 0), .int (nI 0), .int (nI 0), .int (nI 0), .int (nI 0), .int (nI 0), .int (nI 0)]))] ++ ([(q1, .inl (g.2.1, 48, .inl z0))] ++ ([(q2, .inl (g.2.1, 48, .inl z0))] ++ [(q3, .inl (g.2.1, 6, .inl z0))]))) _ := hP
  have hD : va_D A ([(b, .inr (1, [.ref q1, .ref q2, .ref q3, .int (nI 0), .int (nI 0), .int (nI 0), .int (nI 0), .int (nI 0), .int (nI 0), .int (nI 0), .int (nI 0), .int (nI 0)]))] ++ ([(q1, .inl (g.2.1, 48, .inl z0))] ++ ([(q2, .inl (g.2.1, 48, .inl z0))] ++ [(q3, .inl (g.2.1, 6, .inl z0))]))) := hD
  refine lv_aload_n hx hb dX1_init_48 rfl (lv_at hl 0 rfl) ?_
  refine lv_bipush (v := (nI 20)) hx hb dX1_init_49 (by decide) ?_
  refine va_put (D := g.1) (ci := 1) (v := .int (nI 20)) (ty := tyX1 7) (C := RX1) (T := TX1) (N := 12) hx hb hts hiX1 tyX1 tyX1_ok nmX1 hown hE.1 hP hD hS 0 rfl rfl 7 (by decide) f35 (fun _ h9 => h9) rfl (tyX1_ok 7 (by decide)) rfl rfl (Nat.le_of_ble_eq_true rfl) dX1_init_51 (fun H locs hP hD hS => ?_)
  have hP : va_P g.1 vwCl ([(b, .inr (1, [.ref q1, .ref q2, .ref q3, .int (nI 0), .int (nI 0), .int (nI 0), .int (nI 0), .int (nI 20), .int (nI 0), .int (nI 0), .int (nI 0), .int (nI 0)]))] ++ ([(q1, .inl (g.2.1, 48, .inl z0))] ++ ([(q2, .inl (g.2.1, 48, .inl z0))] ++ [(q3, .inl (g.2.1, 6, .inl z0))]))) _ := hP
  have hD : va_D A ([(b, .inr (1, [.ref q1, .ref q2, .ref q3, .int (nI 0), .int (nI 0), .int (nI 0), .int (nI 0), .int (nI 20), .int (nI 0), .int (nI 0), .int (nI 0), .int (nI 0)]))] ++ ([(q1, .inl (g.2.1, 48, .inl z0))] ++ ([(q2, .inl (g.2.1, 48, .inl z0))] ++ [(q3, .inl (g.2.1, 6, .inl z0))]))) := hD
  refine lv_aload_n hx hb dX1_init_54 rfl (lv_at hl 0 rfl) ?_
  refine lv_iconst (v := (nI 3)) hx hb dX1_init_55 (by decide) ?_
  refine va_put (D := g.1) (ci := 1) (v := .int (nI 3)) (ty := tyX1 8) (C := RX1) (T := TX1) (N := 12) hx hb hts hiX1 tyX1 tyX1_ok nmX1 hown hE.1 hP hD hS 0 rfl rfl 8 (by decide) f38 (fun _ h9 => h9) rfl (tyX1_ok 8 (by decide)) rfl rfl (Nat.le_of_ble_eq_true rfl) dX1_init_56 (fun H locs hP hD hS => ?_)
  have hP : va_P g.1 vwCl ([(b, .inr (1, [.ref q1, .ref q2, .ref q3, .int (nI 0), .int (nI 0), .int (nI 0), .int (nI 0), .int (nI 20), .int (nI 3), .int (nI 0), .int (nI 0), .int (nI 0)]))] ++ ([(q1, .inl (g.2.1, 48, .inl z0))] ++ ([(q2, .inl (g.2.1, 48, .inl z0))] ++ [(q3, .inl (g.2.1, 6, .inl z0))]))) _ := hP
  have hD : va_D A ([(b, .inr (1, [.ref q1, .ref q2, .ref q3, .int (nI 0), .int (nI 0), .int (nI 0), .int (nI 0), .int (nI 20), .int (nI 3), .int (nI 0), .int (nI 0), .int (nI 0)]))] ++ ([(q1, .inl (g.2.1, 48, .inl z0))] ++ ([(q2, .inl (g.2.1, 48, .inl z0))] ++ [(q3, .inl (g.2.1, 6, .inl z0))]))) := hD
  refine lv_aload_n hx hb dX1_init_59 rfl (lv_at hl 0 rfl) ?_
  refine lv_bipush (v := (nI 10)) hx hb dX1_init_60 (by decide) ?_
  refine va_put (D := g.1) (ci := 1) (v := .int (nI 10)) (ty := tyX1 9) (C := RX1) (T := TX1) (N := 12) hx hb hts hiX1 tyX1 tyX1_ok nmX1 hown hE.1 hP hD hS 0 rfl rfl 9 (by decide) f41 (fun _ h9 => h9) rfl (tyX1_ok 9 (by decide)) rfl rfl (Nat.le_of_ble_eq_true rfl) dX1_init_62 (fun H locs hP hD hS => ?_)
  have hP : va_P g.1 vwCl ([(b, .inr (1, [.ref q1, .ref q2, .ref q3, .int (nI 0), .int (nI 0), .int (nI 0), .int (nI 0), .int (nI 20), .int (nI 3), .int (nI 10), .int (nI 0), .int (nI 0)]))] ++ ([(q1, .inl (g.2.1, 48, .inl z0))] ++ ([(q2, .inl (g.2.1, 48, .inl z0))] ++ [(q3, .inl (g.2.1, 6, .inl z0))]))) _ := hP
  have hD : va_D A ([(b, .inr (1, [.ref q1, .ref q2, .ref q3, .int (nI 0), .int (nI 0), .int (nI 0), .int (nI 0), .int (nI 20), .int (nI 3), .int (nI 10), .int (nI 0), .int (nI 0)]))] ++ ([(q1, .inl (g.2.1, 48, .inl z0))] ++ ([(q2, .inl (g.2.1, 48, .inl z0))] ++ [(q3, .inl (g.2.1, 6, .inl z0))]))) := hD
  refine lv_aload_n hx hb dX1_init_65 rfl (lv_at hl 0 rfl) ?_
  refine lv_iconst (v := (nI 0)) hx hb dX1_init_66 (by decide) ?_
  refine va_put (D := g.1) (ci := 1) (v := .int (nI 0)) (ty := tyX1 10) (C := RX1) (T := TX1) (N := 12) hx hb hts hiX1 tyX1 tyX1_ok nmX1 hown hE.1 hP hD hS 0 rfl rfl 10 (by decide) f44 (fun _ h9 => h9) rfl (tyX1_ok 10 (by decide)) rfl rfl (Nat.le_of_ble_eq_true rfl) dX1_init_67 (fun H locs hP hD hS => ?_)
  have hP : va_P g.1 vwCl ([(b, .inr (1, [.ref q1, .ref q2, .ref q3, .int (nI 0), .int (nI 0), .int (nI 0), .int (nI 0), .int (nI 20), .int (nI 3), .int (nI 10), .int (nI 0), .int (nI 0)]))] ++ ([(q1, .inl (g.2.1, 48, .inl z0))] ++ ([(q2, .inl (g.2.1, 48, .inl z0))] ++ [(q3, .inl (g.2.1, 6, .inl z0))]))) _ := hP
  have hD : va_D A ([(b, .inr (1, [.ref q1, .ref q2, .ref q3, .int (nI 0), .int (nI 0), .int (nI 0), .int (nI 0), .int (nI 20), .int (nI 3), .int (nI 10), .int (nI 0), .int (nI 0)]))] ++ ([(q1, .inl (g.2.1, 48, .inl z0))] ++ ([(q2, .inl (g.2.1, 48, .inl z0))] ++ [(q3, .inl (g.2.1, 6, .inl z0))]))) := hD
  refine lv_aload_n hx hb dX1_init_70 rfl (lv_at hl 0 rfl) ?_
  refine lv_iconst (v := (nI 0)) hx hb dX1_init_71 (by decide) ?_
  refine va_put (D := g.1) (ci := 1) (v := .int (nI 0)) (ty := tyX1 11) (C := RX1) (T := TX1) (N := 12) hx hb hts hiX1 tyX1 tyX1_ok nmX1 hown hE.1 hP hD hS 0 rfl rfl 11 (by decide) f47 (fun _ h9 => h9) rfl (tyX1_ok 11 (by decide)) rfl rfl (Nat.le_of_ble_eq_true rfl) dX1_init_72 (fun H locs hP hD hS => ?_)
  have hP : va_P g.1 vwCl ([(b, .inr (1, [.ref q1, .ref q2, .ref q3, .int (nI 0), .int (nI 0), .int (nI 0), .int (nI 0), .int (nI 20), .int (nI 3), .int (nI 10), .int (nI 0), .int (nI 0)]))] ++ ([(q1, .inl (g.2.1, 48, .inl z0))] ++ ([(q2, .inl (g.2.1, 48, .inl z0))] ++ [(q3, .inl (g.2.1, 6, .inl z0))]))) _ := hP
  have hD : va_D A ([(b, .inr (1, [.ref q1, .ref q2, .ref q3, .int (nI 0), .int (nI 0), .int (nI 0), .int (nI 0), .int (nI 20), .int (nI 3), .int (nI 10), .int (nI 0), .int (nI 0)]))] ++ ([(q1, .inl (g.2.1, 48, .inl z0))] ++ ([(q2, .inl (g.2.1, 48, .inl z0))] ++ [(q3, .inl (g.2.1, 6, .inl z0))]))) := hD
  exact k_nret (ad4 b q1 q2 q3) hx hb hr hlocks rfl hP hD hS (Nat.le_of_ble_eq_true rfl) (Nat.le_of_ble_eq_true rfl) dX1_init_75
