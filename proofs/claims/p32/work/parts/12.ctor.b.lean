set_option maxHeartbeats 4000000 in
set_option maxRecDepth 100000 in
theorem c_X0_init (l : Launch) (g : kG) (b : Nat) : KN l yX0_init wsX0_init ({ frames := 1, cells := 1, slots := 60, locals := 20 }) g [.ref b] [(b, .inr (0, raw0))] (fun u : Nat → Nat => u 0 = b) (fun u => wT g u T0) 1 60 := by
  refine k_begin (cc := cX0_init) (maxL := 1) (ret := none) (Qc := fun A => kQn g (fun u : Nat → Nat => u 0 = b) (fun u => wT g u T0) A) (by decide) rfl (Nat.le_of_ble_eq_true rfl) ?_
  intro p e s m below meth c A ls hF hr hlocks hin hE hP hD hS hA hl
  obtain ⟨hx, hb, hml, hown, hts⟩ := id hF
  have hown : s.vm.findClass RX0 = some m.cls := hown
  have hl : lv_has ls 1 [(0, .ref b)] := hl
  have hP : va_P g.1 vwCl [(b, .inr (0, [.null, .int (nI 0)]))] _ := hP
  have hD : va_D A [(b, .inr (0, [.null, .int (nI 0)]))] := hD
  have hiX0 : ∀ w ∈ wsX00, w ∈ wsX0_init := fun _ h => List.mem_cons_of_mem _ (List.mem_append_right _ (h))
  have oil : (Cond.methodLink RX0 3 objectInit).before _ s = true := hts _ (List.mem_of_getElem? (i := 1) rfl)
  have oii : (Cond.instanceMethod objectInit).before _ s = true := hts _ (List.mem_of_getElem? (i := 2) rfl)
  have ac_char : (Cond.arrayClass .char).before _ s = true := hts _ (List.mem_of_getElem? (i := 4) rfl)
  have f9 : (Cond.fieldLink RX0 9 "ConcertUsher$EventText" "signs" "[C").before _ s = true := hts _ (List.mem_of_getElem? (i := 5) rfl)
  have f15 : (Cond.fieldLink RX0 15 "ConcertUsher$EventText" "length" "I").before _ s = true := hts _ (List.mem_of_getElem? (i := 6) rfl)
  refine lv_aload_n hx hb dX0_init_0 rfl (lv_at hl 0 rfl) ?_
  refine W.objInit hx hb hown oil oii (hts _ (List.mem_of_getElem? (i := 3) rfl)) rfl (by rw [hml]; exact hl.1) rfl dX0_init_1 (Nat.le_of_ble_eq_true rfl) (Nat.le_of_ble_eq_true rfl) ?_
  refine W.eq (g2 := F0 m 4 ls []) rfl ?_
  refine lv_aload_n hx hb dX0_init_4 rfl (lv_at hl 0 rfl) ?_
  refine lv_bipush (v := (nI 60)) hx hb dX0_init_5 (by decide) ?_
  refine k_newc hx hb ac_char hE hP hD hS hA 60 (by decide) (by decide) (Nat.le_of_ble_eq_true rfl) (Nat.le_of_ble_eq_true rfl) dX0_init_7 (fun q1 H hP hD hS => ?_)
  have hP : va_P g.1 vwCl ([(b, .inr (0, [.null, .int (nI 0)]))] ++ [(q1, .inl (g.2.2.1, 60, .inl z0))]) _ := hP
  have hD : va_D A ([(b, .inr (0, [.null, .int (nI 0)]))] ++ [(q1, .inl (g.2.2.1, 60, .inl z0))]) := hD
  refine va_putF (D := g.1) (ci := 0) (v := .ref q1) (ty := tyX0 0) (C := RX0) (T := TX0) (N := 2) hx hb hts hiX0 tyX0 tyX0_ok nmX0 hown hE.1 hP hD hS 0 rfl rfl 0 (by decide) f9 (fun _ h9 => h9) rfl hin rfl (tyX0_ok 0 (by decide)) rfl rfl (Nat.le_of_ble_eq_true rfl) dX0_init_9 (fun H locs hP hD hS => ?_)
  have hP : va_P g.1 vwCl ([(b, .inr (0, [.ref q1, .int (nI 0)]))] ++ [(q1, .inl (g.2.2.1, 60, .inl z0))]) _ := hP
  have hD : va_D A ([(b, .inr (0, [.ref q1, .int (nI 0)]))] ++ [(q1, .inl (g.2.2.1, 60, .inl z0))]) := hD
  refine lv_aload_n hx hb dX0_init_12 rfl (lv_at hl 0 rfl) ?_
  refine lv_iconst (v := (nI 0)) hx hb dX0_init_13 (by decide) ?_
  refine va_put (D := g.1) (ci := 0) (v := .int (nI 0)) (ty := tyX0 1) (C := RX0) (T := TX0) (N := 2) hx hb hts hiX0 tyX0 tyX0_ok nmX0 hown hE.1 hP hD hS 0 rfl rfl 1 (by decide) f15 (fun _ h9 => h9) rfl (tyX0_ok 1 (by decide)) rfl rfl (Nat.le_of_ble_eq_true rfl) dX0_init_14 (fun H locs hP hD hS => ?_)
  have hP : va_P g.1 vwCl ([(b, .inr (0, [.ref q1, .int (nI 0)]))] ++ [(q1, .inl (g.2.2.1, 60, .inl z0))]) _ := hP
  have hD : va_D A ([(b, .inr (0, [.ref q1, .int (nI 0)]))] ++ [(q1, .inl (g.2.2.1, 60, .inl z0))]) := hD
  exact k_nret (ad2 b q1) hx hb hr hlocks rfl hP hD hS (Nat.le_of_ble_eq_true rfl) (Nat.le_of_ble_eq_true rfl) dX0_init_17
