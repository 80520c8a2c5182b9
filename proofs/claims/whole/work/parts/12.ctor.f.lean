set_option maxHeartbeats 4000000 in
set_option maxRecDepth 100000 in
theorem c_X4_init (l : Launch) (g : kG) (b : Nat) : KN l yX4_init wsX4_init ({ frames := 1, cells := 5, slots := 1116, locals := 20 }) g [.ref b] [(b, .inr (4, raw4))] (fun u : Nat → Nat => u 0 = b) (fun u => wM g u M0) 5 1116 := by
  refine k_begin (cc := cX4_init) (maxL := 1) (ret := none) (Qc := fun A => kQn g (fun u : Nat → Nat => u 0 = b) (fun u => wM g u M0) A) (by decide) rfl (Nat.le_of_ble_eq_true rfl) ?_
  intro p e s m below meth c A ls hF hr hlocks hin hE hP hD hS hA hl
  obtain ⟨hx, hb, hml, hown, hts⟩ := id hF
  have hown : s.vm.findClass RX4 = some m.cls := hown
  have hl : lv_has ls 1 [(0, .ref b)] := hl
  have hP : va_P g.1 vwCl [(b, .inr (4, [.int (nI 0), .null, .null, .null, .int (nI 0), .null, .int (nI 0), .int (nI 0), .int (nI 0), .null, .int (nI 0), .long 0]))] _ := hP
  have hD : va_D A [(b, .inr (4, [.int (nI 0), .null, .null, .null, .int (nI 0), .null, .int (nI 0), .int (nI 0), .int (nI 0), .null, .int (nI 0), .long 0]))] := hD
  have hiX4 : ∀ w ∈ wsX40, w ∈ wsX4_init := fun _ h => List.mem_cons_of_mem _ (List.mem_append_right _ (h))
  have oil : (Cond.methodLink RX4 1 objectInit).before _ s = true := hts _ (List.mem_of_getElem? (i := 1) rfl)
  have oii : (Cond.instanceMethod objectInit).before _ s = true := hts _ (List.mem_of_getElem? (i := 2) rfl)
  have ac_int : (Cond.arrayClass .int).before _ s = true := hts _ (List.mem_of_getElem? (i := 4) rfl)
  have f7 : (Cond.fieldLink RX4 7 "ConcertUsherModel" "s" "[I").before _ s = true := hts _ (List.mem_of_getElem? (i := 5) rfl)
  have f13 : (Cond.fieldLink RX4 13 "ConcertUsherModel" "aside" "[I").before _ s = true := hts _ (List.mem_of_getElem? (i := 6) rfl)
  have f16 : (Cond.fieldLink RX4 16 "ConcertUsherModel" "saved" "[I").before _ s = true := hts _ (List.mem_of_getElem? (i := 7) rfl)
  have f19 : (Cond.fieldLink RX4 19 "ConcertUsherModel" "buffer" "[I").before _ s = true := hts _ (List.mem_of_getElem? (i := 8) rfl)
  have f22 : (Cond.fieldLink RX4 22 "ConcertUsherModel" "read" "[I").before _ s = true := hts _ (List.mem_of_getElem? (i := 9) rfl)
  have f25 : (Cond.fieldLink RX4 25 "ConcertUsherModel" "thrown" "I").before _ s = true := hts _ (List.mem_of_getElem? (i := 10) rfl)
  refine lv_aload_n hx hb dX4_init_0 rfl (lv_at hl 0 rfl) ?_
  refine W.objInit hx hb hown oil oii (hts _ (List.mem_of_getElem? (i := 3) rfl)) rfl (by rw [hml]; exact hl.1) rfl dX4_init_1 (Nat.le_of_ble_eq_true rfl) (Nat.le_of_ble_eq_true rfl) ?_
  refine W.eq (g2 := F0 m 4 ls []) rfl ?_
  refine lv_aload_n hx hb dX4_init_4 rfl (lv_at hl 0 rfl) ?_
  refine lv_bipush (v := (nI 120)) hx hb dX4_init_5 (by decide) ?_
  refine k_newi hx hb ac_int hE hP hD hS hA 120 (by decide) (by decide) (Nat.le_of_ble_eq_true rfl) (Nat.le_of_ble_eq_true rfl) dX4_init_7 (fun q1 H hP hD hS => ?_)
  have hP : va_P g.1 vwCl ([(b, .inr (4, [.int (nI 0), .null, .null, .null, .int (nI 0), .null, .int (nI 0), .int (nI 0), .int (nI 0), .null, .int (nI 0), .long 0]))] ++ [(q1, .inl (g.2.1, 120, .inl z0))]) _ := hP
  have hD : va_D A ([(b, .inr (4, [.int (nI 0), .null, .null, .null, .int (nI 0), .null, .int (nI 0), .int (nI 0), .int (nI 0), .null, .int (nI 0), .long 0]))] ++ [(q1, .inl (g.2.1, 120, .inl z0))]) := hD
  refine va_putF (D := g.1) (ci := 4) (v := .ref q1) (ty := tyX4 1) (C := RX4) (T := TX4) (N := 12) hx hb hts hiX4 tyX4 tyX4_ok nmX4 hown hE.1 hP hD hS 0 rfl rfl 1 (by decide) f7 (fun _ h9 => h9) rfl hin rfl (tyX4_ok 1 (by decide)) rfl rfl (Nat.le_of_ble_eq_true rfl) dX4_init_9 (fun H locs hP hD hS => ?_)
  have hP : va_P g.1 vwCl ([(b, .inr (4, [.int (nI 0), .ref q1, .null, .null, .int (nI 0), .null, .int (nI 0), .int (nI 0), .int (nI 0), .null, .int (nI 0), .long 0]))] ++ [(q1, .inl (g.2.1, 120, .inl z0))]) _ := hP
  have hD : va_D A ([(b, .inr (4, [.int (nI 0), .ref q1, .null, .null, .int (nI 0), .null, .int (nI 0), .int (nI 0), .int (nI 0), .null, .int (nI 0), .long 0]))] ++ [(q1, .inl (g.2.1, 120, .inl z0))]) := hD
  refine lv_aload_n hx hb dX4_init_12 rfl (lv_at hl 0 rfl) ?_
  refine lv_bipush (v := (nI 120)) hx hb dX4_init_13 (by decide) ?_
  refine k_newi hx hb ac_int hE hP hD hS hA 120 (by decide) (by decide) (Nat.le_of_ble_eq_true rfl) (Nat.le_of_ble_eq_true rfl) dX4_init_15 (fun q2 H hP hD hS => ?_)
  have hP : va_P g.1 vwCl ([(b, .inr (4, [.int (nI 0), .ref q1, .null, .null, .int (nI 0), .null, .int (nI 0), .int (nI 0), .int (nI 0), .null, .int (nI 0), .long 0]))] ++ ([(q1, .inl (g.2.1, 120, .inl z0))] ++ [(q2, .inl (g.2.1, 120, .inl z0))])) _ := hP
  have hD : va_D A ([(b, .inr (4, [.int (nI 0), .ref q1, .null, .null, .int (nI 0), .null, .int (nI 0), .int (nI 0), .int (nI 0), .null, .int (nI 0), .long 0]))] ++ ([(q1, .inl (g.2.1, 120, .inl z0))] ++ [(q2, .inl (g.2.1, 120, .inl z0))])) := hD
  refine va_putF (D := g.1) (ci := 4) (v := .ref q2) (ty := tyX4 2) (C := RX4) (T := TX4) (N := 12) hx hb hts hiX4 tyX4 tyX4_ok nmX4 hown hE.1 hP hD hS 0 rfl rfl 2 (by decide) f13 (fun _ h9 => h9) rfl hin rfl (tyX4_ok 2 (by decide)) rfl rfl (Nat.le_of_ble_eq_true rfl) dX4_init_17 (fun H locs hP hD hS => ?_)
  have hP : va_P g.1 vwCl ([(b, .inr (4, [.int (nI 0), .ref q1, .ref q2, .null, .int (nI 0), .null, .int (nI 0), .int (nI 0), .int (nI 0), .null, .int (nI 0), .long 0]))] ++ ([(q1, .inl (g.2.1, 120, .inl z0))] ++ [(q2, .inl (g.2.1, 120, .inl z0))])) _ := hP
  have hD : va_D A ([(b, .inr (4, [.int (nI 0), .ref q1, .ref q2, .null, .int (nI 0), .null, .int (nI 0), .int (nI 0), .int (nI 0), .null, .int (nI 0), .long 0]))] ++ ([(q1, .inl (g.2.1, 120, .inl z0))] ++ [(q2, .inl (g.2.1, 120, .inl z0))])) := hD
  refine lv_aload_n hx hb dX4_init_20 rfl (lv_at hl 0 rfl) ?_
  refine lv_sipush (v := (nI 720)) hx hb dX4_init_21 (by decide) ?_
  refine k_newi hx hb ac_int hE hP hD hS hA 720 (by decide) (by decide) (Nat.le_of_ble_eq_true rfl) (Nat.le_of_ble_eq_true rfl) dX4_init_24 (fun q3 H hP hD hS => ?_)
  have hP : va_P g.1 vwCl ([(b, .inr (4, [.int (nI 0), .ref q1, .ref q2, .null, .int (nI 0), .null, .int (nI 0), .int (nI 0), .int (nI 0), .null, .int (nI 0), .long 0]))] ++ ([(q1, .inl (g.2.1, 120, .inl z0))] ++ ([(q2, .inl (g.2.1, 120, .inl z0))] ++ [(q3, .inl (g.2.1, 720, .inl z0))]))) _ := hP
  have hD : va_D A ([(b, .inr (4, [.int (nI 0), .ref q1, .ref q2, .null, .int (nI 0), .null, .int (nI 0), .int (nI 0), .int (nI 0), .null, .int (nI 0), .long 0]))] ++ ([(q1, .inl (g.2.1, 120, .inl z0))] ++ ([(q2, .inl (g.2.1, 120, .inl z0))] ++ [(q3, .inl (g.2.1, 720, .inl z0))]))) := hD
  refine va_putF (D := g.1) (ci := 4) (v := .ref q3) (ty := tyX4 3) (C := RX4) (T := TX4) (N := 12) hx hb hts hiX4 tyX4 tyX4_ok nmX4 hown hE.1 hP hD hS 0 rfl rfl 3 (by decide) f16 (fun _ h9 => h9) rfl hin rfl (tyX4_ok 3 (by decide)) rfl rfl (Nat.le_of_ble_eq_true rfl) dX4_init_26 (fun H locs hP hD hS => ?_)
  have hP : va_P g.1 vwCl ([(b, .inr (4, [.int (nI 0), .ref q1, .ref q2, .ref q3, .int (nI 0), .null, .int (nI 0), .int (nI 0), .int (nI 0), .null, .int (nI 0), .long 0]))] ++ ([(q1, .inl (g.2.1, 120, .inl z0))] ++ ([(q2, .inl (g.2.1, 120, .inl z0))] ++ [(q3, .inl (g.2.1, 720, .inl z0))]))) _ := hP
  have hD : va_D A ([(b, .inr (4, [.int (nI 0), .ref q1, .ref q2, .ref q3, .int (nI 0), .null, .int (nI 0), .int (nI 0), .int (nI 0), .null, .int (nI 0), .long 0]))] ++ ([(q1, .inl (g.2.1, 120, .inl z0))] ++ ([(q2, .inl (g.2.1, 120, .inl z0))] ++ [(q3, .inl (g.2.1, 720, .inl z0))]))) := hD
  refine lv_aload_n hx hb dX4_init_29 rfl (lv_at hl 0 rfl) ?_
  refine lv_bipush (v := (nI 60)) hx hb dX4_init_30 (by decide) ?_
  refine k_newi hx hb ac_int hE hP hD hS hA 60 (by decide) (by decide) (Nat.le_of_ble_eq_true rfl) (Nat.le_of_ble_eq_true rfl) dX4_init_32 (fun q4 H hP hD hS => ?_)
  have hP : va_P g.1 vwCl ([(b, .inr (4, [.int (nI 0), .ref q1, .ref q2, .ref q3, .int (nI 0), .null, .int (nI 0), .int (nI 0), .int (nI 0), .null, .int (nI 0), .long 0]))] ++ ([(q1, .inl (g.2.1, 120, .inl z0))] ++ ([(q2, .inl (g.2.1, 120, .inl z0))] ++ ([(q3, .inl (g.2.1, 720, .inl z0))] ++ [(q4, .inl (g.2.1, 60, .inl z0))])))) _ := hP
  have hD : va_D A ([(b, .inr (4, [.int (nI 0), .ref q1, .ref q2, .ref q3, .int (nI 0), .null, .int (nI 0), .int (nI 0), .int (nI 0), .null, .int (nI 0), .long 0]))] ++ ([(q1, .inl (g.2.1, 120, .inl z0))] ++ ([(q2, .inl (g.2.1, 120, .inl z0))] ++ ([(q3, .inl (g.2.1, 720, .inl z0))] ++ [(q4, .inl (g.2.1, 60, .inl z0))])))) := hD
  refine va_putF (D := g.1) (ci := 4) (v := .ref q4) (ty := tyX4 5) (C := RX4) (T := TX4) (N := 12) hx hb hts hiX4 tyX4 tyX4_ok nmX4 hown hE.1 hP hD hS 0 rfl rfl 5 (by decide) f19 (fun _ h9 => h9) rfl hin rfl (tyX4_ok 5 (by decide)) rfl rfl (Nat.le_of_ble_eq_true rfl) dX4_init_34 (fun H locs hP hD hS => ?_)
  have hP : va_P g.1 vwCl ([(b, .inr (4, [.int (nI 0), .ref q1, .ref q2, .ref q3, .int (nI 0), .ref q4, .int (nI 0), .int (nI 0), .int (nI 0), .null, .int (nI 0), .long 0]))] ++ ([(q1, .inl (g.2.1, 120, .inl z0))] ++ ([(q2, .inl (g.2.1, 120, .inl z0))] ++ ([(q3, .inl (g.2.1, 720, .inl z0))] ++ [(q4, .inl (g.2.1, 60, .inl z0))])))) _ := hP
  have hD : va_D A ([(b, .inr (4, [.int (nI 0), .ref q1, .ref q2, .ref q3, .int (nI 0), .ref q4, .int (nI 0), .int (nI 0), .int (nI 0), .null, .int (nI 0), .long 0]))] ++ ([(q1, .inl (g.2.1, 120, .inl z0))] ++ ([(q2, .inl (g.2.1, 120, .inl z0))] ++ ([(q3, .inl (g.2.1, 720, .inl z0))] ++ [(q4, .inl (g.2.1, 60, .inl z0))])))) := hD
  refine lv_aload_n hx hb dX4_init_37 rfl (lv_at hl 0 rfl) ?_
  refine lv_bipush (v := (nI 96)) hx hb dX4_init_38 (by decide) ?_
  refine k_newi hx hb ac_int hE hP hD hS hA 96 (by decide) (by decide) (Nat.le_of_ble_eq_true rfl) (Nat.le_of_ble_eq_true rfl) dX4_init_40 (fun q5 H hP hD hS => ?_)
  have hP : va_P g.1 vwCl ([(b, .inr (4, [.int (nI 0), .ref q1, .ref q2, .ref q3, .int (nI 0), .ref q4, .int (nI 0), .int (nI 0), .int (nI 0), .null, .int (nI 0), .long 0]))] ++ ([(q1, .inl (g.2.1, 120, .inl z0))] ++ ([(q2, .inl (g.2.1, 120, .inl z0))] ++ ([(q3, .inl (g.2.1, 720, .inl z0))] ++ ([(q4, .inl (g.2.1, 60, .inl z0))] ++ [(q5, .inl (g.2.1, 96, .inl z0))]))))) _ := hP
  have hD : va_D A ([(b, .inr (4, [.int (nI 0), .ref q1, .ref q2, .ref q3, .int (nI 0), .ref q4, .int (nI 0), .int (nI 0), .int (nI 0), .null, .int (nI 0), .long 0]))] ++ ([(q1, .inl (g.2.1, 120, .inl z0))] ++ ([(q2, .inl (g.2.1, 120, .inl z0))] ++ ([(q3, .inl (g.2.1, 720, .inl z0))] ++ ([(q4, .inl (g.2.1, 60, .inl z0))] ++ [(q5, .inl (g.2.1, 96, .inl z0))]))))) := hD
  refine va_putF (D := g.1) (ci := 4) (v := .ref q5) (ty := tyX4 9) (C := RX4) (T := TX4) (N := 12) hx hb hts hiX4 tyX4 tyX4_ok nmX4 hown hE.1 hP hD hS 0 rfl rfl 9 (by decide) f22 (fun _ h9 => h9) rfl hin rfl (tyX4_ok 9 (by decide)) rfl rfl (Nat.le_of_ble_eq_true rfl) dX4_init_42 (fun H locs hP hD hS => ?_)
  have hP : va_P g.1 vwCl ([(b, .inr (4, [.int (nI 0), .ref q1, .ref q2, .ref q3, .int (nI 0), .ref q4, .int (nI 0), .int (nI 0), .int (nI 0), .ref q5, .int (nI 0), .long 0]))] ++ ([(q1, .inl (g.2.1, 120, .inl z0))] ++ ([(q2, .inl (g.2.1, 120, .inl z0))] ++ ([(q3, .inl (g.2.1, 720, .inl z0))] ++ ([(q4, .inl (g.2.1, 60, .inl z0))] ++ [(q5, .inl (g.2.1, 96, .inl z0))]))))) _ := hP
  have hD : va_D A ([(b, .inr (4, [.int (nI 0), .ref q1, .ref q2, .ref q3, .int (nI 0), .ref q4, .int (nI 0), .int (nI 0), .int (nI 0), .ref q5, .int (nI 0), .long 0]))] ++ ([(q1, .inl (g.2.1, 120, .inl z0))] ++ ([(q2, .inl (g.2.1, 120, .inl z0))] ++ ([(q3, .inl (g.2.1, 720, .inl z0))] ++ ([(q4, .inl (g.2.1, 60, .inl z0))] ++ [(q5, .inl (g.2.1, 96, .inl z0))]))))) := hD
  refine lv_aload_n hx hb dX4_init_45 rfl (lv_at hl 0 rfl) ?_
  refine lv_iconst (v := (nI 0)) hx hb dX4_init_46 (by decide) ?_
  refine va_put (D := g.1) (ci := 4) (v := .int (nI 0)) (ty := tyX4 0) (C := RX4) (T := TX4) (N := 12) hx hb hts hiX4 tyX4 tyX4_ok nmX4 hown hE.1 hP hD hS 0 rfl rfl 0 (by decide) f25 (fun _ h9 => h9) rfl (tyX4_ok 0 (by decide)) rfl rfl (Nat.le_of_ble_eq_true rfl) dX4_init_47 (fun H locs hP hD hS => ?_)
  have hP : va_P g.1 vwCl ([(b, .inr (4, [.int (nI 0), .ref q1, .ref q2, .ref q3, .int (nI 0), .ref q4, .int (nI 0), .int (nI 0), .int (nI 0), .ref q5, .int (nI 0), .long 0]))] ++ ([(q1, .inl (g.2.1, 120, .inl z0))] ++ ([(q2, .inl (g.2.1, 120, .inl z0))] ++ ([(q3, .inl (g.2.1, 720, .inl z0))] ++ ([(q4, .inl (g.2.1, 60, .inl z0))] ++ [(q5, .inl (g.2.1, 96, .inl z0))]))))) _ := hP
  have hD : va_D A ([(b, .inr (4, [.int (nI 0), .ref q1, .ref q2, .ref q3, .int (nI 0), .ref q4, .int (nI 0), .int (nI 0), .int (nI 0), .ref q5, .int (nI 0), .long 0]))] ++ ([(q1, .inl (g.2.1, 120, .inl z0))] ++ ([(q2, .inl (g.2.1, 120, .inl z0))] ++ ([(q3, .inl (g.2.1, 720, .inl z0))] ++ ([(q4, .inl (g.2.1, 60, .inl z0))] ++ [(q5, .inl (g.2.1, 96, .inl z0))]))))) := hD
  refine lv_aload_n hx hb dX4_init_50 rfl (lv_at hl 0 rfl) ?_
  refine va_get (D := g.1) (ci := 4) (v := .ref q1) (C := RX4) (T := TX4) (N := 12) hx hb hts hiX4 hown hE.1 hP 0 rfl rfl 1 (by decide) f7 (fun _ h9 => h9) rfl dX4_init_51 ?_
  refine lv_iconst (v := (nI 0)) hx hb dX4_init_54 (by decide) ?_
  refine lv_bipush (v := (nI 20)) hx hb dX4_init_55 (by decide) ?_
  refine k_iast (f := z0) (ws1 := ([(b, .inr (4, [.int (nI 0), .ref q1, .ref q2, .ref q3, .int (nI 0), .ref q4, .int (nI 0), .int (nI 0), .int (nI 0), .ref q5, .int (nI 0), .long 0]))] ++ ([(q1, .inl (g.2.1, 120, .inl (upd z0 0 (nI 20))))] ++ ([(q2, .inl (g.2.1, 120, .inl z0))] ++ ([(q3, .inl (g.2.1, 720, .inl z0))] ++ ([(q4, .inl (g.2.1, 60, .inl z0))] ++ [(q5, .inl (g.2.1, 96, .inl z0))])))))) hx hb hE hP hD hS 1 rfl 0 rfl (by decide) (by decide) rfl dX4_init_57 (fun H locs hP hD hS => ?_)
  refine lv_aload_n hx hb dX4_init_58 rfl (lv_at hl 0 rfl) ?_
  refine va_get (D := g.1) (ci := 4) (v := .ref q1) (C := RX4) (T := TX4) (N := 12) hx hb hts hiX4 hown hE.1 hP 0 rfl rfl 1 (by decide) f7 (fun _ h9 => h9) rfl dX4_init_59 ?_
  refine lv_iconst (v := (nI 1)) hx hb dX4_init_62 (by decide) ?_
  refine lv_iconst (v := (nI 3)) hx hb dX4_init_63 (by decide) ?_
  refine k_iast (f := (upd z0 0 (nI 20))) (ws1 := ([(b, .inr (4, [.int (nI 0), .ref q1, .ref q2, .ref q3, .int (nI 0), .ref q4, .int (nI 0), .int (nI 0), .int (nI 0), .ref q5, .int (nI 0), .long 0]))] ++ ([(q1, .inl (g.2.1, 120, .inl (upd (upd z0 0 (nI 20)) 1 (nI 3))))] ++ ([(q2, .inl (g.2.1, 120, .inl z0))] ++ ([(q3, .inl (g.2.1, 720, .inl z0))] ++ ([(q4, .inl (g.2.1, 60, .inl z0))] ++ [(q5, .inl (g.2.1, 96, .inl z0))])))))) hx hb hE hP hD hS 1 rfl 1 rfl (by decide) (by decide) rfl dX4_init_64 (fun H locs hP hD hS => ?_)
  refine lv_aload_n hx hb dX4_init_65 rfl (lv_at hl 0 rfl) ?_
  refine va_get (D := g.1) (ci := 4) (v := .ref q1) (C := RX4) (T := TX4) (N := 12) hx hb hts hiX4 hown hE.1 hP 0 rfl rfl 1 (by decide) f7 (fun _ h9 => h9) rfl dX4_init_66 ?_
  refine lv_iconst (v := (nI 2)) hx hb dX4_init_69 (by decide) ?_
  refine lv_bipush (v := (nI 10)) hx hb dX4_init_70 (by decide) ?_
  refine k_iast (f := (upd (upd z0 0 (nI 20)) 1 (nI 3))) (ws1 := ([(b, .inr (4, [.int (nI 0), .ref q1, .ref q2, .ref q3, .int (nI 0), .ref q4, .int (nI 0), .int (nI 0), .int (nI 0), .ref q5, .int (nI 0), .long 0]))] ++ ([(q1, .inl (g.2.1, 120, .inl (upd (upd (upd z0 0 (nI 20)) 1 (nI 3)) 2 (nI 10))))] ++ ([(q2, .inl (g.2.1, 120, .inl z0))] ++ ([(q3, .inl (g.2.1, 720, .inl z0))] ++ ([(q4, .inl (g.2.1, 60, .inl z0))] ++ [(q5, .inl (g.2.1, 96, .inl z0))])))))) hx hb hE hP hD hS 1 rfl 2 rfl (by decide) (by decide) rfl dX4_init_72 (fun H locs hP hD hS => ?_)
  exact k_nret (ad6 b q1 q2 q3 q4 q5) hx hb hr hlocks rfl hP hD hS (Nat.le_of_ble_eq_true rfl) (Nat.le_of_ble_eq_true rfl) dX4_init_73
