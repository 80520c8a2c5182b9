set_option maxHeartbeats 4000000 in
set_option maxRecDepth 100000 in
theorem c_X3_init (l : Launch) (g : kG) (b : Nat) : KN l yX3_init wsX3_init ({ frames := 3, cells := 32, slots := 869, locals := 61 }) g [.ref b] [(b, .inr (3, raw3))] (fun _ : (Nat → Nat) × (Nat → Nat) × (Nat → Nat) × (Nat → Nat → Nat) => True) (fun u => (wU b (u.1 0) (u.2.2.1 0) (u.2.1 0)) ++ ((wH g u.1 H0) ++ ((wT g u.2.1 T0) ++ ((wK0 g u.2.2.1 u.2.2.2 K0) ++ (wHs g u.2.2.2 (fun _ => H0) 6))))) 32 869 := by
  refine k_begin (cc := cX3_init) (maxL := 1) (ret := none) (Qc := fun A => kQn g (fun _ : (Nat → Nat) × (Nat → Nat) × (Nat → Nat) × (Nat → Nat → Nat) => True) (fun u => (wU b (u.1 0) (u.2.2.1 0) (u.2.1 0)) ++ ((wH g u.1 H0) ++ ((wT g u.2.1 T0) ++ ((wK0 g u.2.2.1 u.2.2.2 K0) ++ (wHs g u.2.2.2 (fun _ => H0) 6))))) A) (by decide) rfl (Nat.le_of_ble_eq_true rfl) ?_
  intro p e s m below meth c A ls hF hr hlocks hin hE hP hD hS hA hl
  obtain ⟨hx, hb, hml, hown, hts⟩ := id hF
  have hown : s.vm.findClass RX3 = some m.cls := hown
  have hl : lv_has ls 1 [(0, .ref b)] := hl
  have hP : va_P g.1 vwCl [(b, .inr (3, [.null, .null, .null]))] _ := hP
  have hD : va_D A [(b, .inr (3, [.null, .null, .null]))] := hD
  have hiX1 : ∀ w ∈ wsX10, w ∈ wsX3_init := fun _ h => List.mem_cons_of_mem _ (List.mem_append_left _ (List.mem_append_left _ (List.mem_append_left _ (List.mem_append_right _ (h)))))
  have hiX3 : ∀ w ∈ wsX30, w ∈ wsX3_init := fun _ h => List.mem_cons_of_mem _ (List.mem_append_left _ (List.mem_append_left _ (List.mem_append_right _ (h))))
  have hiX2 : ∀ w ∈ wsX20, w ∈ wsX3_init := fun _ h => List.mem_cons_of_mem _ (List.mem_append_left _ (List.mem_append_right _ (h)))
  have hiX0 : ∀ w ∈ wsX00, w ∈ wsX3_init := fun _ h => List.mem_cons_of_mem _ (List.mem_append_right _ (h))
  have oil : (Cond.methodLink RX3 3 objectInit).before _ s = true := hts _ (List.mem_of_getElem? (i := 1) rfl)
  have oii : (Cond.instanceMethod objectInit).before _ s = true := hts _ (List.mem_of_getElem? (i := 2) rfl)
  have cl9 : (Cond.classLink RX3 9 RX1).before _ s = true := hts _ (List.mem_of_getElem? (i := 4) rfl)
  have inX1 : (Cond.instantiable RX1 12).before _ s = true := hts _ (List.mem_of_getElem? (i := 5) rfl)
  have iniX1 : (Cond.initialized RX1).before _ s = true := hts _ (List.mem_of_getElem? (i := 6) rfl)
  have imX1 : (Cond.instanceMethod yX1_init).before _ s = true := hts _ (List.mem_of_getElem? (i := 16) rfl)
  have f12 : (Cond.fieldLink RX3 12 "ConcertUsher" "hall" "LConcertUsher$Hall;").before _ s = true := hts _ (List.mem_of_getElem? (i := 7) rfl)
  have cl16 : (Cond.classLink RX3 16 RX2).before _ s = true := hts _ (List.mem_of_getElem? (i := 8) rfl)
  have inX2 : (Cond.instantiable RX2 3).before _ s = true := hts _ (List.mem_of_getElem? (i := 9) rfl)
  have iniX2 : (Cond.initialized RX2).before _ s = true := hts _ (List.mem_of_getElem? (i := 10) rfl)
  have imX2 : (Cond.instanceMethod yX2_init).before _ s = true := hts _ (List.mem_of_getElem? (i := 33) rfl)
  have mlX2 : (Cond.methodLink RX3 18 yX2_init).before _ s = true := hts _ (List.mem_of_getElem? (i := 32) rfl)
  have f19 : (Cond.fieldLink RX3 19 "ConcertUsher" "history" "LConcertUsher$History;").before _ s = true := hts _ (List.mem_of_getElem? (i := 11) rfl)
  have cl23 : (Cond.classLink RX3 23 RX0).before _ s = true := hts _ (List.mem_of_getElem? (i := 12) rfl)
  have inX0 : (Cond.instantiable RX0 2).before _ s = true := hts _ (List.mem_of_getElem? (i := 13) rfl)
  have iniX0 : (Cond.initialized RX0).before _ s = true := hts _ (List.mem_of_getElem? (i := 14) rfl)
  have imX0 : (Cond.instanceMethod yX0_init).before _ s = true := hts _ (List.mem_of_getElem? (i := 40) rfl)
  have f26 : (Cond.fieldLink RX3 26 "ConcertUsher" "text" "LConcertUsher$EventText;").before _ s = true := hts _ (List.mem_of_getElem? (i := 15) rfl)
  refine lv_aload_n hx hb dX3_init_0 rfl (lv_at hl 0 rfl) ?_
  refine W.objInit hx hb hown oil oii (hts _ (List.mem_of_getElem? (i := 3) rfl)) rfl (by rw [hml]; exact hl.1) rfl dX3_init_1 (Nat.le_of_ble_eq_true rfl) (Nat.le_of_ble_eq_true rfl) ?_
  refine W.eq (g2 := F0 m 4 ls []) rfl ?_
  refine lv_aload_n hx hb dX3_init_4 rfl (lv_at hl 0 rfl) ?_
  refine va_new (ci := 1) (C := RX1) (T := TX1) (N := 12) (fs := raw1) hx hb hts hiX1 tyX1 tyX1_ok hown cl9 inX1 iniX1 hE.1 hP hD hS hA rfl (fun j hj => by rcases (show j = 0 ∨ j = 1 ∨ j = 2 ∨ j = 3 ∨ j = 4 ∨ j = 5 ∨ j = 6 ∨ j = 7 ∨ j = 8 ∨ j = 9 ∨ j = 10 ∨ j = 11 by omega) with rfl | rfl | rfl | rfl | rfl | rfl | rfl | rfl | rfl | rfl | rfl | rfl <;> rfl) (Nat.le_of_ble_eq_true rfl) (Nat.le_of_ble_eq_true rfl) dX3_init_5 (fun q1 H hP hD hS => ?_)
  have hP : va_P g.1 vwCl ([(b, .inr (3, [.null, .null, .null]))] ++ [(q1, .inr (1, raw1))]) _ := hP
  have hD : va_D A ([(b, .inr (3, [.null, .null, .null]))] ++ [(q1, .inr (1, raw1))]) := hD
  refine lv_dup hx hb dX3_init_8 rfl ?_
  have hP : va_P g.1 vwCl ([(b, .inr (3, [.null, .null, .null]))] ++ [(q1, .inr (1, raw1))]) _ := hP
  have hD : va_D A ([(b, .inr (3, [.null, .null, .null]))] ++ [(q1, .inr (1, raw1))]) := hD
  refine k_INn (As := []) (ws1 := (fun u => [(b, .inr (3, [.null, .null, .null]))] ++ (wH g u H0))) hF (c_X1_init l g q1) ⟨va_cnB 0 hts gX3_init_X1_init_n11 rfl rfl rfl hE.2.1.2.2.1 iniX1 (by decide +kernel) ⟨(Nat.le_of_ble_eq_true rfl), (Nat.le_of_ble_eq_true rfl)⟩, rfl, imX1⟩ hE hP hD hS hA List.perm_append_comm (fun _ => List.perm_append_comm) rfl hl.1 rfl (Nat.le_of_ble_eq_true rfl) dX3_init_9 ⟨(Nat.le_of_ble_eq_true rfl), (Nat.le_of_ble_eq_true rfl)⟩ (fun u2 H locs hu hP2 hD2 hS2 => ?_)
  have hu : (u2 0) = q1 := hu
  subst hu
  have hP := hP2
  have hD := hD2
  have hS := hS2
  have hP : va_P g.1 vwCl ([(b, .inr (3, [.null, .null, .null]))] ++ (wH g u2 H0)) _ := hP
  have hD : va_D A ([(b, .inr (3, [.null, .null, .null]))] ++ (wH g u2 H0)) := hD
  refine va_putF (D := g.1) (ci := 3) (v := .ref (u2 0)) (ty := tyX3 0) (C := RX3) (T := TX3) (N := 3) hx hb hts hiX3 tyX3 tyX3_ok nmX3 hown hE.1 hP hD hS 0 rfl rfl 0 (by decide) f12 (fun _ h9 => h9) rfl hin rfl (tyX3_ok 0 (by decide)) rfl rfl (Nat.le_of_ble_eq_true rfl) dX3_init_12 (fun H locs hP hD hS => ?_)
  have hP : va_P g.1 vwCl ([(b, .inr (3, [.ref (u2 0), .null, .null]))] ++ (wH g u2 H0)) _ := hP
  have hD : va_D A ([(b, .inr (3, [.ref (u2 0), .null, .null]))] ++ (wH g u2 H0)) := hD
  refine lv_aload_n hx hb dX3_init_15 rfl (lv_at hl 0 rfl) ?_
  refine va_new (ci := 2) (C := RX2) (T := TX2) (N := 3) (fs := raw2) hx hb hts hiX2 tyX2 tyX2_ok hown cl16 inX2 iniX2 hE.1 hP hD hS hA rfl (fun j hj => by rcases (show j = 0 ∨ j = 1 ∨ j = 2 by omega) with rfl | rfl | rfl <;> rfl) (Nat.le_of_ble_eq_true rfl) (Nat.le_of_ble_eq_true rfl) dX3_init_16 (fun q3 H hP hD hS => ?_)
  have hP : va_P g.1 vwCl ([(b, .inr (3, [.ref (u2 0), .null, .null]))] ++ ((wH g u2 H0) ++ [(q3, .inr (2, raw2))])) _ := hP
  have hD : va_D A ([(b, .inr (3, [.ref (u2 0), .null, .null]))] ++ ((wH g u2 H0) ++ [(q3, .inr (2, raw2))])) := hD
  refine lv_dup hx hb dX3_init_19 rfl ?_
  have hP : va_P g.1 vwCl (([(b, .inr (3, [.ref (u2 0), .null, .null]))] ++ (wH g u2 H0)) ++ [(q3, .inr (2, raw2))]) _ := hP
  have hD : va_D A (([(b, .inr (3, [.ref (u2 0), .null, .null]))] ++ (wH g u2 H0)) ++ [(q3, .inr (2, raw2))]) := hD
  refine k_In (As := []) (ws1 := (fun u => ([(b, .inr (3, [.ref (u2 0), .null, .null]))] ++ (wH g u2 H0)) ++ ((wK0 g u.1 u.2 K0) ++ (wHs g u.2 (fun _ => H0) 6)))) hF (c_X2_init l g q3) ⟨callB_of 0 hts gX3_init_X2_init rfl rfl rfl iniX2 mlX2 (by decide +kernel) ⟨(Nat.le_of_ble_eq_true rfl), (Nat.le_of_ble_eq_true rfl)⟩, rfl, imX2⟩ hE hP hD hS hA List.perm_append_comm (fun _ => List.perm_append_comm) rfl hl.1 rfl (Nat.le_of_ble_eq_true rfl) dX3_init_20 ⟨(Nat.le_of_ble_eq_true rfl), (Nat.le_of_ble_eq_true rfl)⟩ (fun u4 H locs hu hP2 hD2 hS2 => ?_)
  have hu : (u4.1 0) = q3 := hu
  subst hu
  have hP := hP2
  have hD := hD2
  have hS := hS2
  have hP : va_P g.1 vwCl ([(b, .inr (3, [.ref (u2 0), .null, .null]))] ++ ((wH g u2 H0) ++ ((wK0 g u4.1 u4.2 K0) ++ (wHs g u4.2 (fun _ => H0) 6)))) _ := hP
  have hD : va_D A ([(b, .inr (3, [.ref (u2 0), .null, .null]))] ++ ((wH g u2 H0) ++ ((wK0 g u4.1 u4.2 K0) ++ (wHs g u4.2 (fun _ => H0) 6)))) := hD
  refine va_putF (D := g.1) (ci := 3) (v := .ref (u4.1 0)) (ty := tyX3 1) (C := RX3) (T := TX3) (N := 3) hx hb hts hiX3 tyX3 tyX3_ok nmX3 hown hE.1 hP hD hS 0 rfl rfl 1 (by decide) f19 (fun _ h9 => h9) rfl hin rfl (tyX3_ok 1 (by decide)) rfl rfl (Nat.le_of_ble_eq_true rfl) dX3_init_23 (fun H locs hP hD hS => ?_)
  have hP : va_P g.1 vwCl ([(b, .inr (3, [.ref (u2 0), .ref (u4.1 0), .null]))] ++ ((wH g u2 H0) ++ ((wK0 g u4.1 u4.2 K0) ++ (wHs g u4.2 (fun _ => H0) 6)))) _ := hP
  have hD : va_D A ([(b, .inr (3, [.ref (u2 0), .ref (u4.1 0), .null]))] ++ ((wH g u2 H0) ++ ((wK0 g u4.1 u4.2 K0) ++ (wHs g u4.2 (fun _ => H0) 6)))) := hD
  refine lv_aload_n hx hb dX3_init_26 rfl (lv_at hl 0 rfl) ?_
  refine va_new (ci := 0) (C := RX0) (T := TX0) (N := 2) (fs := raw0) hx hb hts hiX0 tyX0 tyX0_ok hown cl23 inX0 iniX0 hE.1 hP hD hS hA rfl (fun j hj => by rcases (show j = 0 ∨ j = 1 by omega) with rfl | rfl <;> rfl) (Nat.le_of_ble_eq_true rfl) (Nat.le_of_ble_eq_true rfl) dX3_init_27 (fun q5 H hP hD hS => ?_)
  have hP : va_P g.1 vwCl ([(b, .inr (3, [.ref (u2 0), .ref (u4.1 0), .null]))] ++ ((wH g u2 H0) ++ (((wK0 g u4.1 u4.2 K0) ++ (wHs g u4.2 (fun _ => H0) 6)) ++ [(q5, .inr (0, raw0))]))) _ := hP
  have hD : va_D A ([(b, .inr (3, [.ref (u2 0), .ref (u4.1 0), .null]))] ++ ((wH g u2 H0) ++ (((wK0 g u4.1 u4.2 K0) ++ (wHs g u4.2 (fun _ => H0) 6)) ++ [(q5, .inr (0, raw0))]))) := hD
  refine lv_dup hx hb dX3_init_30 rfl ?_
  have hP : va_P g.1 vwCl (([(b, .inr (3, [.ref (u2 0), .ref (u4.1 0), .null]))] ++ ((wH g u2 H0) ++ ((wK0 g u4.1 u4.2 K0) ++ (wHs g u4.2 (fun _ => H0) 6)))) ++ [(q5, .inr (0, raw0))]) _ := hP
  have hD : va_D A (([(b, .inr (3, [.ref (u2 0), .ref (u4.1 0), .null]))] ++ ((wH g u2 H0) ++ ((wK0 g u4.1 u4.2 K0) ++ (wHs g u4.2 (fun _ => H0) 6)))) ++ [(q5, .inr (0, raw0))]) := hD
  refine k_INn (As := []) (ws1 := (fun u => ([(b, .inr (3, [.ref (u2 0), .ref (u4.1 0), .null]))] ++ ((wH g u2 H0) ++ ((wK0 g u4.1 u4.2 K0) ++ (wHs g u4.2 (fun _ => H0) 6)))) ++ (wT g u T0))) hF (c_X0_init l g q5) ⟨va_cnB 0 hts gX3_init_X0_init_n25 rfl rfl rfl hE.2.1.2.2.2 iniX0 (by decide +kernel) ⟨(Nat.le_of_ble_eq_true rfl), (Nat.le_of_ble_eq_true rfl)⟩, rfl, imX0⟩ hE hP hD hS hA List.perm_append_comm (fun _ => List.perm_append_comm) rfl hl.1 rfl (Nat.le_of_ble_eq_true rfl) dX3_init_31 ⟨(Nat.le_of_ble_eq_true rfl), (Nat.le_of_ble_eq_true rfl)⟩ (fun u6 H locs hu hP2 hD2 hS2 => ?_)
  have hu : (u6 0) = q5 := hu
  subst hu
  have hP := hP2
  have hD := hD2
  have hS := hS2
  have hP : va_P g.1 vwCl ([(b, .inr (3, [.ref (u2 0), .ref (u4.1 0), .null]))] ++ ((wH g u2 H0) ++ (((wK0 g u4.1 u4.2 K0) ++ (wHs g u4.2 (fun _ => H0) 6)) ++ (wT g u6 T0)))) _ := hP
  have hD : va_D A ([(b, .inr (3, [.ref (u2 0), .ref (u4.1 0), .null]))] ++ ((wH g u2 H0) ++ (((wK0 g u4.1 u4.2 K0) ++ (wHs g u4.2 (fun _ => H0) 6)) ++ (wT g u6 T0)))) := hD
  refine va_putF (D := g.1) (ci := 3) (v := .ref (u6 0)) (ty := tyX3 2) (C := RX3) (T := TX3) (N := 3) hx hb hts hiX3 tyX3 tyX3_ok nmX3 hown hE.1 hP hD hS 0 rfl rfl 2 (by decide) f26 (fun _ h9 => h9) rfl hin rfl (tyX3_ok 2 (by decide)) rfl rfl (Nat.le_of_ble_eq_true rfl) dX3_init_34 (fun H locs hP hD hS => ?_)
  have hP : va_P g.1 vwCl ([(b, .inr (3, [.ref (u2 0), .ref (u4.1 0), .ref (u6 0)]))] ++ ((wH g u2 H0) ++ (((wK0 g u4.1 u4.2 K0) ++ (wHs g u4.2 (fun _ => H0) 6)) ++ (wT g u6 T0)))) _ := hP
  have hD : va_D A ([(b, .inr (3, [.ref (u2 0), .ref (u4.1 0), .ref (u6 0)]))] ++ ((wH g u2 H0) ++ (((wK0 g u4.1 u4.2 K0) ++ (wHs g u4.2 (fun _ => H0) 6)) ++ (wT g u6 T0)))) := hD
  have hP : va_P g.1 vwCl ((wU b (u2 0) (u4.1 0) (u6 0)) ++ ((wH g u2 H0) ++ (((wK0 g u4.1 u4.2 K0) ++ (wHs g u4.2 (fun _ => H0) 6)) ++ (wT g u6 T0)))) _ := hP
  have hD : va_D A ((wU b (u2 0) (u4.1 0) (u6 0)) ++ ((wH g u2 H0) ++ (((wK0 g u4.1 u4.2 K0) ++ (wHs g u4.2 (fun _ => H0) 6)) ++ (wT g u6 T0)))) := hD
  have hP : va_P g.1 vwCl ((wU b (u2 0) (u4.1 0) (u6 0)) ++ ((wH g u2 H0) ++ ((wT g u6 T0) ++ ((wK0 g u4.1 u4.2 K0) ++ (wHs g u4.2 (fun _ => H0) 6))))) _ := k_P_perm (k_pmX _ _ _ _) hP
  have hD : va_D A ((wU b (u2 0) (u4.1 0) (u6 0)) ++ ((wH g u2 H0) ++ ((wT g u6 T0) ++ ((wK0 g u4.1 u4.2 K0) ++ (wHs g u4.2 (fun _ => H0) 6))))) := k_D_perm (k_pmX _ _ _ _) hD
  exact k_nret ((u2, u6, u4.1, u4.2) : (Nat → Nat) × (Nat → Nat) × (Nat → Nat) × (Nat → Nat → Nat)) hx hb hr hlocks trivial hP hD hS (Nat.le_of_ble_eq_true rfl) (Nat.le_of_ble_eq_true rfl) dX3_init_37
