set_option maxHeartbeats 4000000 in
set_option maxRecDepth 100000 in
theorem c_X2_init (l : Launch) (g : kG) (b : Nat) : KN l yX2_init wsX2_init ({ frames := 2, cells := 25, slots := 690, locals := 40 }) g [.ref b] [(b, .inr (2, raw2))] (fun u : (Nat → Nat) × (Nat → Nat → Nat) => u.1 0 = b) (fun u => (wK0 g u.1 u.2 K0) ++ (wHs g u.2 (fun _ => H0) 6)) 25 690 := by
  refine k_begin (cc := cX2_init) (maxL := 2) (ret := none) (Qc := fun A => kQn g (fun u : (Nat → Nat) × (Nat → Nat → Nat) => u.1 0 = b) (fun u => (wK0 g u.1 u.2 K0) ++ (wHs g u.2 (fun _ => H0) 6)) A) (by decide) rfl (Nat.le_of_ble_eq_true rfl) ?_
  intro p e s m below meth c A ls hF hr hlocks hin hE hP hD hS hA hl
  obtain ⟨hx, hb, hml, hown, hts⟩ := id hF
  have hown : s.vm.findClass RX2 = some m.cls := hown
  have hl : lv_has ls 2 [(0, .ref b)] := hl
  have hP : va_P g.1 vwCl [(b, .inr (2, [.null, .int (nI 0), .int (nI 0)]))] _ := hP
  have hD : va_D A [(b, .inr (2, [.null, .int (nI 0), .int (nI 0)]))] := hD
  have hiX2 : ∀ w ∈ wsX20, w ∈ wsX2_init := fun _ h => List.mem_cons_of_mem _ (List.mem_append_left _ (List.mem_append_right _ (h)))
  have hiX1 : ∀ w ∈ wsX10, w ∈ wsX2_init := fun _ h => List.mem_cons_of_mem _ (List.mem_append_right _ (h))
  have oil : (Cond.methodLink RX2 3 objectInit).before _ s = true := hts _ (List.mem_of_getElem? (i := 1) rfl)
  have oii : (Cond.instanceMethod objectInit).before _ s = true := hts _ (List.mem_of_getElem? (i := 2) rfl)
  have cl9 : (Cond.classLink RX2 9 RX1).before _ s = true := hts _ (List.mem_of_getElem? (i := 4) rfl)
  have f11 : (Cond.fieldLink RX2 11 "ConcertUsher$History" "halls" "[LConcertUsher$Hall;").before _ s = true := hts _ (List.mem_of_getElem? (i := 5) rfl)
  have f17 : (Cond.fieldLink RX2 17 "ConcertUsher$History" "oldest" "I").before _ s = true := hts _ (List.mem_of_getElem? (i := 6) rfl)
  have f21 : (Cond.fieldLink RX2 21 "ConcertUsher$History" "size" "I").before _ s = true := hts _ (List.mem_of_getElem? (i := 7) rfl)
  have inX1 : (Cond.instantiable RX1 12).before _ s = true := hts _ (List.mem_of_getElem? (i := 8) rfl)
  have iniX1 : (Cond.initialized RX1).before _ s = true := hts _ (List.mem_of_getElem? (i := 9) rfl)
  have imX1 : (Cond.instanceMethod yX1_init).before _ s = true := hts _ (List.mem_of_getElem? (i := 10) rfl)
  refine lv_aload_n hx hb dX2_init_0 rfl (lv_at hl 0 rfl) ?_
  refine W.objInit hx hb hown oil oii (hts _ (List.mem_of_getElem? (i := 3) rfl)) rfl (by rw [hml]; exact hl.1) rfl dX2_init_1 (Nat.le_of_ble_eq_true rfl) (Nat.le_of_ble_eq_true rfl) ?_
  refine W.eq (g2 := F0 m 4 ls []) rfl ?_
  refine lv_aload_n hx hb dX2_init_4 rfl (lv_at hl 0 rfl) ?_
  refine lv_bipush (v := (nI 6)) hx hb dX2_init_5 (by decide) ?_
  refine k_newq hx hb hown cl9 hE hP hD hS hA 6 (by decide) (by decide) (Nat.le_of_ble_eq_true rfl) (Nat.le_of_ble_eq_true rfl) dX2_init_7 (fun q1 H hP hD hS => ?_)
  have hP : va_P g.1 vwCl ([(b, .inr (2, [.null, .int (nI 0), .int (nI 0)]))] ++ [(q1, .inl (g.2.2.2.1, 6, .inr (.inr (.inr (.inr (fun _ => none))))))]) _ := hP
  have hD : va_D A ([(b, .inr (2, [.null, .int (nI 0), .int (nI 0)]))] ++ [(q1, .inl (g.2.2.2.1, 6, .inr (.inr (.inr (.inr (fun _ => none))))))]) := hD
  refine va_putF (D := g.1) (ci := 2) (v := .ref q1) (ty := tyX2 0) (C := RX2) (T := TX2) (N := 3) hx hb hts hiX2 tyX2 tyX2_ok nmX2 hown hE.1 hP hD hS 0 rfl rfl 0 (by decide) f11 (fun _ h9 => h9) rfl hin rfl (tyX2_ok 0 (by decide)) rfl rfl (Nat.le_of_ble_eq_true rfl) dX2_init_10 (fun H locs hP hD hS => ?_)
  have hP : va_P g.1 vwCl ([(b, .inr (2, [.ref q1, .int (nI 0), .int (nI 0)]))] ++ [(q1, .inl (g.2.2.2.1, 6, .inr (.inr (.inr (.inr (fun _ => none))))))]) _ := hP
  have hD : va_D A ([(b, .inr (2, [.ref q1, .int (nI 0), .int (nI 0)]))] ++ [(q1, .inl (g.2.2.2.1, 6, .inr (.inr (.inr (.inr (fun _ => none))))))]) := hD
  refine lv_aload_n hx hb dX2_init_13 rfl (lv_at hl 0 rfl) ?_
  refine lv_iconst (v := (nI 0)) hx hb dX2_init_14 (by decide) ?_
  refine va_put (D := g.1) (ci := 2) (v := .int (nI 0)) (ty := tyX2 1) (C := RX2) (T := TX2) (N := 3) hx hb hts hiX2 tyX2 tyX2_ok nmX2 hown hE.1 hP hD hS 0 rfl rfl 1 (by decide) f17 (fun _ h9 => h9) rfl (tyX2_ok 1 (by decide)) rfl rfl (Nat.le_of_ble_eq_true rfl) dX2_init_15 (fun H locs hP hD hS => ?_)
  have hP : va_P g.1 vwCl ([(b, .inr (2, [.ref q1, .int (nI 0), .int (nI 0)]))] ++ [(q1, .inl (g.2.2.2.1, 6, .inr (.inr (.inr (.inr (fun _ => none))))))]) _ := hP
  have hD : va_D A ([(b, .inr (2, [.ref q1, .int (nI 0), .int (nI 0)]))] ++ [(q1, .inl (g.2.2.2.1, 6, .inr (.inr (.inr (.inr (fun _ => none))))))]) := hD
  refine lv_aload_n hx hb dX2_init_18 rfl (lv_at hl 0 rfl) ?_
  refine lv_iconst (v := (nI 0)) hx hb dX2_init_19 (by decide) ?_
  refine va_put (D := g.1) (ci := 2) (v := .int (nI 0)) (ty := tyX2 2) (C := RX2) (T := TX2) (N := 3) hx hb hts hiX2 tyX2 tyX2_ok nmX2 hown hE.1 hP hD hS 0 rfl rfl 2 (by decide) f21 (fun _ h9 => h9) rfl (tyX2_ok 2 (by decide)) rfl rfl (Nat.le_of_ble_eq_true rfl) dX2_init_20 (fun H locs hP hD hS => ?_)
  have hP : va_P g.1 vwCl ([(b, .inr (2, [.ref q1, .int (nI 0), .int (nI 0)]))] ++ [(q1, .inl (g.2.2.2.1, 6, .inr (.inr (.inr (.inr (fun _ => none))))))]) _ := hP
  have hD : va_D A ([(b, .inr (2, [.ref q1, .int (nI 0), .int (nI 0)]))] ++ [(q1, .inl (g.2.2.2.1, 6, .inr (.inr (.inr (.inr (fun _ => none))))))]) := hD
  refine lv_iconst (v := (nI 0)) hx hb dX2_init_23 (by decide) ?_
  refine lv_istore_n (lv' := [(1, .int (nI 0)), (0, .ref b)]) hx hb dX2_init_24 rfl hl (by decide) rfl (fun ls hl => ?_)
  refine lv_iload_n hx hb dX2_init_25 rfl (lv_at hl 0 rfl) ?_
  refine lv_bipush (v := (nI 6)) hx hb dX2_init_26 (by decide) ?_
  refine k_geN (tgt := 50) hx hb (by decide) (by decide) dX2_init_28 (by decide) (fun c2 => absurd c2 (by decide)) (fun c2 => ?_)
  refine lv_aload_n hx hb dX2_init_31 rfl (lv_at hl 1 rfl) ?_
  refine va_get (D := g.1) (ci := 2) (v := .ref q1) (C := RX2) (T := TX2) (N := 3) hx hb hts hiX2 hown hE.1 hP 0 rfl rfl 0 (by decide) f11 (fun _ h9 => h9) rfl dX2_init_32 ?_
  refine lv_iload_n hx hb dX2_init_35 rfl (lv_at hl 0 rfl) ?_
  refine va_new (ci := 1) (C := RX1) (T := TX1) (N := 12) (fs := raw1) hx hb hts hiX1 tyX1 tyX1_ok hown cl9 inX1 iniX1 hE.1 hP hD hS hA rfl (fun j hj => by rcases (show j = 0 ∨ j = 1 ∨ j = 2 ∨ j = 3 ∨ j = 4 ∨ j = 5 ∨ j = 6 ∨ j = 7 ∨ j = 8 ∨ j = 9 ∨ j = 10 ∨ j = 11 by omega) with rfl | rfl | rfl | rfl | rfl | rfl | rfl | rfl | rfl | rfl | rfl | rfl <;> rfl) (Nat.le_of_ble_eq_true rfl) (Nat.le_of_ble_eq_true rfl) dX2_init_36 (fun q3 H hP hD hS => ?_)
  have hP : va_P g.1 vwCl ([(b, .inr (2, [.ref q1, .int (nI 0), .int (nI 0)]))] ++ ([(q1, .inl (g.2.2.2.1, 6, .inr (.inr (.inr (.inr (fun _ => none))))))] ++ [(q3, .inr (1, raw1))])) _ := hP
  have hD : va_D A ([(b, .inr (2, [.ref q1, .int (nI 0), .int (nI 0)]))] ++ ([(q1, .inl (g.2.2.2.1, 6, .inr (.inr (.inr (.inr (fun _ => none))))))] ++ [(q3, .inr (1, raw1))])) := hD
  refine lv_dup hx hb dX2_init_39 rfl ?_
  have hP : va_P g.1 vwCl (([(b, .inr (2, [.ref q1, .int (nI 0), .int (nI 0)]))] ++ [(q1, .inl (g.2.2.2.1, 6, .inr (.inr (.inr (.inr (fun _ => none))))))]) ++ ([] ++ [(q3, .inr (1, raw1))])) _ := hP
  have hD : va_D A (([(b, .inr (2, [.ref q1, .int (nI 0), .int (nI 0)]))] ++ [(q1, .inl (g.2.2.2.1, 6, .inr (.inr (.inr (.inr (fun _ => none))))))]) ++ ([] ++ [(q3, .inr (1, raw1))])) := hD
  refine k_INn (As := []) (ws1 := (fun u => ([(b, .inr (2, [.ref q1, .int (nI 0), .int (nI 0)]))] ++ [(q1, .inl (g.2.2.2.1, 6, .inr (.inr (.inr (.inr (fun _ => none))))))]) ++ ((wH g u H0) ++ []))) hF (c_X1_init l g q3) ⟨va_cnB 0 hts gX2_init_X1_init_n24 rfl rfl rfl hE.2.1.2.1 iniX1 (by decide +kernel) ⟨(Nat.le_of_ble_eq_true rfl), (Nat.le_of_ble_eq_true rfl)⟩, rfl, imX1⟩ hE hP hD hS hA (k_pm3r _ _ _) (fun _ => k_pm3 _ _ _) rfl hl.1 rfl (Nat.le_of_ble_eq_true rfl) dX2_init_40 ⟨(Nat.le_of_ble_eq_true rfl), (Nat.le_of_ble_eq_true rfl)⟩ (fun u4 H locs hu hP2 hD2 hS2 => ?_)
  have hu : (u4 0) = q3 := hu
  subst hu
  have hP := hP2
  have hD := hD2
  have hS := hS2
  have hP : va_P g.1 vwCl ([(b, .inr (2, [.ref q1, .int (nI 0), .int (nI 0)]))] ++ ([(q1, .inl (g.2.2.2.1, 6, .inr (.inr (.inr (.inr (fun _ => none))))))] ++ (wH g u4 H0))) _ := hP
  have hD : va_D A ([(b, .inr (2, [.ref q1, .int (nI 0), .int (nI 0)]))] ++ ([(q1, .inl (g.2.2.2.1, 6, .inr (.inr (.inr (.inr (fun _ => none))))))] ++ (wH g u4 H0))) := hD
  refine k_astq (f := (fun _ => none)) hx hb hE hP hD hS 1 2 rfl rfl 0 (by decide) (by decide) dX2_init_43 (fun H locs hP hD hS => ?_)
  have hP : va_P g.1 vwCl ([(b, .inr (2, [.ref q1, .int (nI 0), .int (nI 0)]))] ++ ([(q1, .inl (g.2.2.2.1, 6, .inr (.inr (.inr (.inr (va_up (fun _ => none) 0 (some (u4 0))))))))] ++ (wH g u4 H0))) _ := hP
  have hD : va_D A ([(b, .inr (2, [.ref q1, .int (nI 0), .int (nI 0)]))] ++ ([(q1, .inl (g.2.2.2.1, 6, .inr (.inr (.inr (.inr (va_up (fun _ => none) 0 (some (u4 0))))))))] ++ (wH g u4 H0))) := hD
  refine lv_iinc (v := (nI 1)) (lv' := [(1, .int (nI 1)), (0, .ref b)]) hx hb dX2_init_44 hl (k := 0) rfl (k_inc1 _) (by decide) rfl (fun ls hl => ?_)
  refine lv_goto (tgt := 25) hx hb dX2_init_47 (by decide) ?_
  refine lv_iload_n hx hb dX2_init_25 rfl (lv_at hl 0 rfl) ?_
  refine lv_bipush (v := (nI 6)) hx hb dX2_init_26 (by decide) ?_
  refine k_geN (tgt := 50) hx hb (by decide) (by decide) dX2_init_28 (by decide) (fun c5 => absurd c5 (by decide)) (fun c5 => ?_)
  refine lv_aload_n hx hb dX2_init_31 rfl (lv_at hl 1 rfl) ?_
  refine va_get (D := g.1) (ci := 2) (v := .ref q1) (C := RX2) (T := TX2) (N := 3) hx hb hts hiX2 hown hE.1 hP 0 rfl rfl 0 (by decide) f11 (fun _ h9 => h9) rfl dX2_init_32 ?_
  refine lv_iload_n hx hb dX2_init_35 rfl (lv_at hl 0 rfl) ?_
  refine va_new (ci := 1) (C := RX1) (T := TX1) (N := 12) (fs := raw1) hx hb hts hiX1 tyX1 tyX1_ok hown cl9 inX1 iniX1 hE.1 hP hD hS hA rfl (fun j hj => by rcases (show j = 0 ∨ j = 1 ∨ j = 2 ∨ j = 3 ∨ j = 4 ∨ j = 5 ∨ j = 6 ∨ j = 7 ∨ j = 8 ∨ j = 9 ∨ j = 10 ∨ j = 11 by omega) with rfl | rfl | rfl | rfl | rfl | rfl | rfl | rfl | rfl | rfl | rfl | rfl <;> rfl) (Nat.le_of_ble_eq_true rfl) (Nat.le_of_ble_eq_true rfl) dX2_init_36 (fun q6 H hP hD hS => ?_)
  have hP : va_P g.1 vwCl ([(b, .inr (2, [.ref q1, .int (nI 0), .int (nI 0)]))] ++ ([(q1, .inl (g.2.2.2.1, 6, .inr (.inr (.inr (.inr (va_up (fun _ => none) 0 (some (u4 0))))))))] ++ ((wH g u4 H0) ++ [(q6, .inr (1, raw1))]))) _ := hP
  have hD : va_D A ([(b, .inr (2, [.ref q1, .int (nI 0), .int (nI 0)]))] ++ ([(q1, .inl (g.2.2.2.1, 6, .inr (.inr (.inr (.inr (va_up (fun _ => none) 0 (some (u4 0))))))))] ++ ((wH g u4 H0) ++ [(q6, .inr (1, raw1))]))) := hD
  refine lv_dup hx hb dX2_init_39 rfl ?_
  have hP : va_P g.1 vwCl (([(b, .inr (2, [.ref q1, .int (nI 0), .int (nI 0)]))] ++ [(q1, .inl (g.2.2.2.1, 6, .inr (.inr (.inr (.inr (va_up (fun _ => none) 0 (some (u4 0))))))))]) ++ ((wH g u4 H0) ++ [(q6, .inr (1, raw1))])) _ := hP
  have hD : va_D A (([(b, .inr (2, [.ref q1, .int (nI 0), .int (nI 0)]))] ++ [(q1, .inl (g.2.2.2.1, 6, .inr (.inr (.inr (.inr (va_up (fun _ => none) 0 (some (u4 0))))))))]) ++ ((wH g u4 H0) ++ [(q6, .inr (1, raw1))])) := hD
  refine k_INn (As := []) (ws1 := (fun u => ([(b, .inr (2, [.ref q1, .int (nI 0), .int (nI 0)]))] ++ [(q1, .inl (g.2.2.2.1, 6, .inr (.inr (.inr (.inr (va_up (fun _ => none) 0 (some (u4 0))))))))]) ++ ((wH g u H0) ++ (wH g u4 H0)))) hF (c_X1_init l g q6) ⟨va_cnB 0 hts gX2_init_X1_init_n24 rfl rfl rfl hE.2.1.2.1 iniX1 (by decide +kernel) ⟨(Nat.le_of_ble_eq_true rfl), (Nat.le_of_ble_eq_true rfl)⟩, rfl, imX1⟩ hE hP hD hS hA (k_pm3r _ _ _) (fun _ => k_pm3 _ _ _) rfl hl.1 rfl (Nat.le_of_ble_eq_true rfl) dX2_init_40 ⟨(Nat.le_of_ble_eq_true rfl), (Nat.le_of_ble_eq_true rfl)⟩ (fun u7 H locs hu hP2 hD2 hS2 => ?_)
  have hu : (u7 0) = q6 := hu
  subst hu
  have hP := hP2
  have hD := hD2
  have hS := hS2
  have hP : va_P g.1 vwCl ([(b, .inr (2, [.ref q1, .int (nI 0), .int (nI 0)]))] ++ ([(q1, .inl (g.2.2.2.1, 6, .inr (.inr (.inr (.inr (va_up (fun _ => none) 0 (some (u4 0))))))))] ++ ((wH g u7 H0) ++ (wH g u4 H0)))) _ := hP
  have hD : va_D A ([(b, .inr (2, [.ref q1, .int (nI 0), .int (nI 0)]))] ++ ([(q1, .inl (g.2.2.2.1, 6, .inr (.inr (.inr (.inr (va_up (fun _ => none) 0 (some (u4 0))))))))] ++ ((wH g u7 H0) ++ (wH g u4 H0)))) := hD
  refine k_astq (f := (va_up (fun _ => none) 0 (some (u4 0)))) hx hb hE hP hD hS 1 2 rfl rfl 1 (by decide) (by decide) dX2_init_43 (fun H locs hP hD hS => ?_)
  have hP : va_P g.1 vwCl ([(b, .inr (2, [.ref q1, .int (nI 0), .int (nI 0)]))] ++ ([(q1, .inl (g.2.2.2.1, 6, .inr (.inr (.inr (.inr (va_up (va_up (fun _ => none) 0 (some (u4 0))) 1 (some (u7 0))))))))] ++ ((wH g u7 H0) ++ (wH g u4 H0)))) _ := hP
  have hD : va_D A ([(b, .inr (2, [.ref q1, .int (nI 0), .int (nI 0)]))] ++ ([(q1, .inl (g.2.2.2.1, 6, .inr (.inr (.inr (.inr (va_up (va_up (fun _ => none) 0 (some (u4 0))) 1 (some (u7 0))))))))] ++ ((wH g u7 H0) ++ (wH g u4 H0)))) := hD
  refine lv_iinc (v := (nI 2)) (lv' := [(1, .int (nI 2)), (0, .ref b)]) hx hb dX2_init_44 hl (k := 0) rfl (k_inc1 _) (by decide) rfl (fun ls hl => ?_)
  refine lv_goto (tgt := 25) hx hb dX2_init_47 (by decide) ?_
  refine lv_iload_n hx hb dX2_init_25 rfl (lv_at hl 0 rfl) ?_
  refine lv_bipush (v := (nI 6)) hx hb dX2_init_26 (by decide) ?_
  refine k_geN (tgt := 50) hx hb (by decide) (by decide) dX2_init_28 (by decide) (fun c8 => absurd c8 (by decide)) (fun c8 => ?_)
  refine lv_aload_n hx hb dX2_init_31 rfl (lv_at hl 1 rfl) ?_
  refine va_get (D := g.1) (ci := 2) (v := .ref q1) (C := RX2) (T := TX2) (N := 3) hx hb hts hiX2 hown hE.1 hP 0 rfl rfl 0 (by decide) f11 (fun _ h9 => h9) rfl dX2_init_32 ?_
  refine lv_iload_n hx hb dX2_init_35 rfl (lv_at hl 0 rfl) ?_
  refine va_new (ci := 1) (C := RX1) (T := TX1) (N := 12) (fs := raw1) hx hb hts hiX1 tyX1 tyX1_ok hown cl9 inX1 iniX1 hE.1 hP hD hS hA rfl (fun j hj => by rcases (show j = 0 ∨ j = 1 ∨ j = 2 ∨ j = 3 ∨ j = 4 ∨ j = 5 ∨ j = 6 ∨ j = 7 ∨ j = 8 ∨ j = 9 ∨ j = 10 ∨ j = 11 by omega) with rfl | rfl | rfl | rfl | rfl | rfl | rfl | rfl | rfl | rfl | rfl | rfl <;> rfl) (Nat.le_of_ble_eq_true rfl) (Nat.le_of_ble_eq_true rfl) dX2_init_36 (fun q9 H hP hD hS => ?_)
  have hP : va_P g.1 vwCl ([(b, .inr (2, [.ref q1, .int (nI 0), .int (nI 0)]))] ++ ([(q1, .inl (g.2.2.2.1, 6, .inr (.inr (.inr (.inr (va_up (va_up (fun _ => none) 0 (some (u4 0))) 1 (some (u7 0))))))))] ++ ((wH g u7 H0) ++ ((wH g u4 H0) ++ [(q9, .inr (1, raw1))])))) _ := hP
  have hD : va_D A ([(b, .inr (2, [.ref q1, .int (nI 0), .int (nI 0)]))] ++ ([(q1, .inl (g.2.2.2.1, 6, .inr (.inr (.inr (.inr (va_up (va_up (fun _ => none) 0 (some (u4 0))) 1 (some (u7 0))))))))] ++ ((wH g u7 H0) ++ ((wH g u4 H0) ++ [(q9, .inr (1, raw1))])))) := hD
  refine lv_dup hx hb dX2_init_39 rfl ?_
  have hP : va_P g.1 vwCl (([(b, .inr (2, [.ref q1, .int (nI 0), .int (nI 0)]))] ++ [(q1, .inl (g.2.2.2.1, 6, .inr (.inr (.inr (.inr (va_up (va_up (fun _ => none) 0 (some (u4 0))) 1 (some (u7 0))))))))]) ++ (((wH g u7 H0) ++ (wH g u4 H0)) ++ [(q9, .inr (1, raw1))])) _ := hP
  have hD : va_D A (([(b, .inr (2, [.ref q1, .int (nI 0), .int (nI 0)]))] ++ [(q1, .inl (g.2.2.2.1, 6, .inr (.inr (.inr (.inr (va_up (va_up (fun _ => none) 0 (some (u4 0))) 1 (some (u7 0))))))))]) ++ (((wH g u7 H0) ++ (wH g u4 H0)) ++ [(q9, .inr (1, raw1))])) := hD
  refine k_INn (As := []) (ws1 := (fun u => ([(b, .inr (2, [.ref q1, .int (nI 0), .int (nI 0)]))] ++ [(q1, .inl (g.2.2.2.1, 6, .inr (.inr (.inr (.inr (va_up (va_up (fun _ => none) 0 (some (u4 0))) 1 (some (u7 0))))))))]) ++ ((wH g u H0) ++ ((wH g u7 H0) ++ (wH g u4 H0))))) hF (c_X1_init l g q9) ⟨va_cnB 0 hts gX2_init_X1_init_n24 rfl rfl rfl hE.2.1.2.1 iniX1 (by decide +kernel) ⟨(Nat.le_of_ble_eq_true rfl), (Nat.le_of_ble_eq_true rfl)⟩, rfl, imX1⟩ hE hP hD hS hA (k_pm3r _ _ _) (fun _ => k_pm3 _ _ _) rfl hl.1 rfl (Nat.le_of_ble_eq_true rfl) dX2_init_40 ⟨(Nat.le_of_ble_eq_true rfl), (Nat.le_of_ble_eq_true rfl)⟩ (fun u10 H locs hu hP2 hD2 hS2 => ?_)
  have hu : (u10 0) = q9 := hu
  subst hu
  have hP := hP2
  have hD := hD2
  have hS := hS2
  have hP : va_P g.1 vwCl ([(b, .inr (2, [.ref q1, .int (nI 0), .int (nI 0)]))] ++ ([(q1, .inl (g.2.2.2.1, 6, .inr (.inr (.inr (.inr (va_up (va_up (fun _ => none) 0 (some (u4 0))) 1 (some (u7 0))))))))] ++ ((wH g u10 H0) ++ ((wH g u7 H0) ++ (wH g u4 H0))))) _ := hP
  have hD : va_D A ([(b, .inr (2, [.ref q1, .int (nI 0), .int (nI 0)]))] ++ ([(q1, .inl (g.2.2.2.1, 6, .inr (.inr (.inr (.inr (va_up (va_up (fun _ => none) 0 (some (u4 0))) 1 (some (u7 0))))))))] ++ ((wH g u10 H0) ++ ((wH g u7 H0) ++ (wH g u4 H0))))) := hD
  refine k_astq (f := (va_up (va_up (fun _ => none) 0 (some (u4 0))) 1 (some (u7 0)))) hx hb hE hP hD hS 1 2 rfl rfl 2 (by decide) (by decide) dX2_init_43 (fun H locs hP hD hS => ?_)
  have hP : va_P g.1 vwCl ([(b, .inr (2, [.ref q1, .int (nI 0), .int (nI 0)]))] ++ ([(q1, .inl (g.2.2.2.1, 6, .inr (.inr (.inr (.inr (va_up (va_up (va_up (fun _ => none) 0 (some (u4 0))) 1 (some (u7 0))) 2 (some (u10 0))))))))] ++ ((wH g u10 H0) ++ ((wH g u7 H0) ++ (wH g u4 H0))))) _ := hP
  have hD : va_D A ([(b, .inr (2, [.ref q1, .int (nI 0), .int (nI 0)]))] ++ ([(q1, .inl (g.2.2.2.1, 6, .inr (.inr (.inr (.inr (va_up (va_up (va_up (fun _ => none) 0 (some (u4 0))) 1 (some (u7 0))) 2 (some (u10 0))))))))] ++ ((wH g u10 H0) ++ ((wH g u7 H0) ++ (wH g u4 H0))))) := hD
  refine lv_iinc (v := (nI 3)) (lv' := [(1, .int (nI 3)), (0, .ref b)]) hx hb dX2_init_44 hl (k := 0) rfl (k_inc1 _) (by decide) rfl (fun ls hl => ?_)
  refine lv_goto (tgt := 25) hx hb dX2_init_47 (by decide) ?_
  refine lv_iload_n hx hb dX2_init_25 rfl (lv_at hl 0 rfl) ?_
  refine lv_bipush (v := (nI 6)) hx hb dX2_init_26 (by decide) ?_
  refine k_geN (tgt := 50) hx hb (by decide) (by decide) dX2_init_28 (by decide) (fun c11 => absurd c11 (by decide)) (fun c11 => ?_)
  refine lv_aload_n hx hb dX2_init_31 rfl (lv_at hl 1 rfl) ?_
  refine va_get (D := g.1) (ci := 2) (v := .ref q1) (C := RX2) (T := TX2) (N := 3) hx hb hts hiX2 hown hE.1 hP 0 rfl rfl 0 (by decide) f11 (fun _ h9 => h9) rfl dX2_init_32 ?_
  refine lv_iload_n hx hb dX2_init_35 rfl (lv_at hl 0 rfl) ?_
  refine va_new (ci := 1) (C := RX1) (T := TX1) (N := 12) (fs := raw1) hx hb hts hiX1 tyX1 tyX1_ok hown cl9 inX1 iniX1 hE.1 hP hD hS hA rfl (fun j hj => by rcases (show j = 0 ∨ j = 1 ∨ j = 2 ∨ j = 3 ∨ j = 4 ∨ j = 5 ∨ j = 6 ∨ j = 7 ∨ j = 8 ∨ j = 9 ∨ j = 10 ∨ j = 11 by omega) with rfl | rfl | rfl | rfl | rfl | rfl | rfl | rfl | rfl | rfl | rfl | rfl <;> rfl) (Nat.le_of_ble_eq_true rfl) (Nat.le_of_ble_eq_true rfl) dX2_init_36 (fun q12 H hP hD hS => ?_)
  have hP : va_P g.1 vwCl ([(b, .inr (2, [.ref q1, .int (nI 0), .int (nI 0)]))] ++ ([(q1, .inl (g.2.2.2.1, 6, .inr (.inr (.inr (.inr (va_up (va_up (va_up (fun _ => none) 0 (some (u4 0))) 1 (some (u7 0))) 2 (some (u10 0))))))))] ++ ((wH g u10 H0) ++ ((wH g u7 H0) ++ ((wH g u4 H0) ++ [(q12, .inr (1, raw1))]))))) _ := hP
  have hD : va_D A ([(b, .inr (2, [.ref q1, .int (nI 0), .int (nI 0)]))] ++ ([(q1, .inl (g.2.2.2.1, 6, .inr (.inr (.inr (.inr (va_up (va_up (va_up (fun _ => none) 0 (some (u4 0))) 1 (some (u7 0))) 2 (some (u10 0))))))))] ++ ((wH g u10 H0) ++ ((wH g u7 H0) ++ ((wH g u4 H0) ++ [(q12, .inr (1, raw1))]))))) := hD
  refine lv_dup hx hb dX2_init_39 rfl ?_
  have hP : va_P g.1 vwCl (([(b, .inr (2, [.ref q1, .int (nI 0), .int (nI 0)]))] ++ [(q1, .inl (g.2.2.2.1, 6, .inr (.inr (.inr (.inr (va_up (va_up (va_up (fun _ => none) 0 (some (u4 0))) 1 (some (u7 0))) 2 (some (u10 0))))))))]) ++ (((wH g u10 H0) ++ ((wH g u7 H0) ++ (wH g u4 H0))) ++ [(q12, .inr (1, raw1))])) _ := hP
  have hD : va_D A (([(b, .inr (2, [.ref q1, .int (nI 0), .int (nI 0)]))] ++ [(q1, .inl (g.2.2.2.1, 6, .inr (.inr (.inr (.inr (va_up (va_up (va_up (fun _ => none) 0 (some (u4 0))) 1 (some (u7 0))) 2 (some (u10 0))))))))]) ++ (((wH g u10 H0) ++ ((wH g u7 H0) ++ (wH g u4 H0))) ++ [(q12, .inr (1, raw1))])) := hD
  refine k_INn (As := []) (ws1 := (fun u => ([(b, .inr (2, [.ref q1, .int (nI 0), .int (nI 0)]))] ++ [(q1, .inl (g.2.2.2.1, 6, .inr (.inr (.inr (.inr (va_up (va_up (va_up (fun _ => none) 0 (some (u4 0))) 1 (some (u7 0))) 2 (some (u10 0))))))))]) ++ ((wH g u H0) ++ ((wH g u10 H0) ++ ((wH g u7 H0) ++ (wH g u4 H0)))))) hF (c_X1_init l g q12) ⟨va_cnB 0 hts gX2_init_X1_init_n24 rfl rfl rfl hE.2.1.2.1 iniX1 (by decide +kernel) ⟨(Nat.le_of_ble_eq_true rfl), (Nat.le_of_ble_eq_true rfl)⟩, rfl, imX1⟩ hE hP hD hS hA (k_pm3r _ _ _) (fun _ => k_pm3 _ _ _) rfl hl.1 rfl (Nat.le_of_ble_eq_true rfl) dX2_init_40 ⟨(Nat.le_of_ble_eq_true rfl), (Nat.le_of_ble_eq_true rfl)⟩ (fun u13 H locs hu hP2 hD2 hS2 => ?_)
  have hu : (u13 0) = q12 := hu
  subst hu
  have hP := hP2
  have hD := hD2
  have hS := hS2
  have hP : va_P g.1 vwCl ([(b, .inr (2, [.ref q1, .int (nI 0), .int (nI 0)]))] ++ ([(q1, .inl (g.2.2.2.1, 6, .inr (.inr (.inr (.inr (va_up (va_up (va_up (fun _ => none) 0 (some (u4 0))) 1 (some (u7 0))) 2 (some (u10 0))))))))] ++ ((wH g u13 H0) ++ ((wH g u10 H0) ++ ((wH g u7 H0) ++ (wH g u4 H0)))))) _ := hP
  have hD : va_D A ([(b, .inr (2, [.ref q1, .int (nI 0), .int (nI 0)]))] ++ ([(q1, .inl (g.2.2.2.1, 6, .inr (.inr (.inr (.inr (va_up (va_up (va_up (fun _ => none) 0 (some (u4 0))) 1 (some (u7 0))) 2 (some (u10 0))))))))] ++ ((wH g u13 H0) ++ ((wH g u10 H0) ++ ((wH g u7 H0) ++ (wH g u4 H0)))))) := hD
  refine k_astq (f := (va_up (va_up (va_up (fun _ => none) 0 (some (u4 0))) 1 (some (u7 0))) 2 (some (u10 0)))) hx hb hE hP hD hS 1 2 rfl rfl 3 (by decide) (by decide) dX2_init_43 (fun H locs hP hD hS => ?_)
  have hP : va_P g.1 vwCl ([(b, .inr (2, [.ref q1, .int (nI 0), .int (nI 0)]))] ++ ([(q1, .inl (g.2.2.2.1, 6, .inr (.inr (.inr (.inr (va_up (va_up (va_up (va_up (fun _ => none) 0 (some (u4 0))) 1 (some (u7 0))) 2 (some (u10 0))) 3 (some (u13 0))))))))] ++ ((wH g u13 H0) ++ ((wH g u10 H0) ++ ((wH g u7 H0) ++ (wH g u4 H0)))))) _ := hP
  have hD : va_D A ([(b, .inr (2, [.ref q1, .int (nI 0), .int (nI 0)]))] ++ ([(q1, .inl (g.2.2.2.1, 6, .inr (.inr (.inr (.inr (va_up (va_up (va_up (va_up (fun _ => none) 0 (some (u4 0))) 1 (some (u7 0))) 2 (some (u10 0))) 3 (some (u13 0))))))))] ++ ((wH g u13 H0) ++ ((wH g u10 H0) ++ ((wH g u7 H0) ++ (wH g u4 H0)))))) := hD
  refine lv_iinc (v := (nI 4)) (lv' := [(1, .int (nI 4)), (0, .ref b)]) hx hb dX2_init_44 hl (k := 0) rfl (k_inc1 _) (by decide) rfl (fun ls hl => ?_)
  refine lv_goto (tgt := 25) hx hb dX2_init_47 (by decide) ?_
  refine lv_iload_n hx hb dX2_init_25 rfl (lv_at hl 0 rfl) ?_
  refine lv_bipush (v := (nI 6)) hx hb dX2_init_26 (by decide) ?_
  refine k_geN (tgt := 50) hx hb (by decide) (by decide) dX2_init_28 (by decide) (fun c14 => absurd c14 (by decide)) (fun c14 => ?_)
  refine lv_aload_n hx hb dX2_init_31 rfl (lv_at hl 1 rfl) ?_
  refine va_get (D := g.1) (ci := 2) (v := .ref q1) (C := RX2) (T := TX2) (N := 3) hx hb hts hiX2 hown hE.1 hP 0 rfl rfl 0 (by decide) f11 (fun _ h9 => h9) rfl dX2_init_32 ?_
  refine lv_iload_n hx hb dX2_init_35 rfl (lv_at hl 0 rfl) ?_
  refine va_new (ci := 1) (C := RX1) (T := TX1) (N := 12) (fs := raw1) hx hb hts hiX1 tyX1 tyX1_ok hown cl9 inX1 iniX1 hE.1 hP hD hS hA rfl (fun j hj => by rcases (show j = 0 ∨ j = 1 ∨ j = 2 ∨ j = 3 ∨ j = 4 ∨ j = 5 ∨ j = 6 ∨ j = 7 ∨ j = 8 ∨ j = 9 ∨ j = 10 ∨ j = 11 by omega) with rfl | rfl | rfl | rfl | rfl | rfl | rfl | rfl | rfl | rfl | rfl | rfl <;> rfl) (Nat.le_of_ble_eq_true rfl) (Nat.le_of_ble_eq_true rfl) dX2_init_36 (fun q15 H hP hD hS => ?_)
  have hP : va_P g.1 vwCl ([(b, .inr (2, [.ref q1, .int (nI 0), .int (nI 0)]))] ++ ([(q1, .inl (g.2.2.2.1, 6, .inr (.inr (.inr (.inr (va_up (va_up (va_up (va_up (fun _ => none) 0 (some (u4 0))) 1 (some (u7 0))) 2 (some (u10 0))) 3 (some (u13 0))))))))] ++ ((wH g u13 H0) ++ ((wH g u10 H0) ++ ((wH g u7 H0) ++ ((wH g u4 H0) ++ [(q15, .inr (1, raw1))])))))) _ := hP
  have hD : va_D A ([(b, .inr (2, [.ref q1, .int (nI 0), .int (nI 0)]))] ++ ([(q1, .inl (g.2.2.2.1, 6, .inr (.inr (.inr (.inr (va_up (va_up (va_up (va_up (fun _ => none) 0 (some (u4 0))) 1 (some (u7 0))) 2 (some (u10 0))) 3 (some (u13 0))))))))] ++ ((wH g u13 H0) ++ ((wH g u10 H0) ++ ((wH g u7 H0) ++ ((wH g u4 H0) ++ [(q15, .inr (1, raw1))])))))) := hD
  refine lv_dup hx hb dX2_init_39 rfl ?_
  have hP : va_P g.1 vwCl (([(b, .inr (2, [.ref q1, .int (nI 0), .int (nI 0)]))] ++ [(q1, .inl (g.2.2.2.1, 6, .inr (.inr (.inr (.inr (va_up (va_up (va_up (va_up (fun _ => none) 0 (some (u4 0))) 1 (some (u7 0))) 2 (some (u10 0))) 3 (some (u13 0))))))))]) ++ (((wH g u13 H0) ++ ((wH g u10 H0) ++ ((wH g u7 H0) ++ (wH g u4 H0)))) ++ [(q15, .inr (1, raw1))])) _ := hP
  have hD : va_D A (([(b, .inr (2, [.ref q1, .int (nI 0), .int (nI 0)]))] ++ [(q1, .inl (g.2.2.2.1, 6, .inr (.inr (.inr (.inr (va_up (va_up (va_up (va_up (fun _ => none) 0 (some (u4 0))) 1 (some (u7 0))) 2 (some (u10 0))) 3 (some (u13 0))))))))]) ++ (((wH g u13 H0) ++ ((wH g u10 H0) ++ ((wH g u7 H0) ++ (wH g u4 H0)))) ++ [(q15, .inr (1, raw1))])) := hD
  refine k_INn (As := []) (ws1 := (fun u => ([(b, .inr (2, [.ref q1, .int (nI 0), .int (nI 0)]))] ++ [(q1, .inl (g.2.2.2.1, 6, .inr (.inr (.inr (.inr (va_up (va_up (va_up (va_up (fun _ => none) 0 (some (u4 0))) 1 (some (u7 0))) 2 (some (u10 0))) 3 (some (u13 0))))))))]) ++ ((wH g u H0) ++ ((wH g u13 H0) ++ ((wH g u10 H0) ++ ((wH g u7 H0) ++ (wH g u4 H0))))))) hF (c_X1_init l g q15) ⟨va_cnB 0 hts gX2_init_X1_init_n24 rfl rfl rfl hE.2.1.2.1 iniX1 (by decide +kernel) ⟨(Nat.le_of_ble_eq_true rfl), (Nat.le_of_ble_eq_true rfl)⟩, rfl, imX1⟩ hE hP hD hS hA (k_pm3r _ _ _) (fun _ => k_pm3 _ _ _) rfl hl.1 rfl (Nat.le_of_ble_eq_true rfl) dX2_init_40 ⟨(Nat.le_of_ble_eq_true rfl), (Nat.le_of_ble_eq_true rfl)⟩ (fun u16 H locs hu hP2 hD2 hS2 => ?_)
  have hu : (u16 0) = q15 := hu
  subst hu
  have hP := hP2
  have hD := hD2
  have hS := hS2
  have hP : va_P g.1 vwCl ([(b, .inr (2, [.ref q1, .int (nI 0), .int (nI 0)]))] ++ ([(q1, .inl (g.2.2.2.1, 6, .inr (.inr (.inr (.inr (va_up (va_up (va_up (va_up (fun _ => none) 0 (some (u4 0))) 1 (some (u7 0))) 2 (some (u10 0))) 3 (some (u13 0))))))))] ++ ((wH g u16 H0) ++ ((wH g u13 H0) ++ ((wH g u10 H0) ++ ((wH g u7 H0) ++ (wH g u4 H0))))))) _ := hP
  have hD : va_D A ([(b, .inr (2, [.ref q1, .int (nI 0), .int (nI 0)]))] ++ ([(q1, .inl (g.2.2.2.1, 6, .inr (.inr (.inr (.inr (va_up (va_up (va_up (va_up (fun _ => none) 0 (some (u4 0))) 1 (some (u7 0))) 2 (some (u10 0))) 3 (some (u13 0))))))))] ++ ((wH g u16 H0) ++ ((wH g u13 H0) ++ ((wH g u10 H0) ++ ((wH g u7 H0) ++ (wH g u4 H0))))))) := hD
  refine k_astq (f := (va_up (va_up (va_up (va_up (fun _ => none) 0 (some (u4 0))) 1 (some (u7 0))) 2 (some (u10 0))) 3 (some (u13 0)))) hx hb hE hP hD hS 1 2 rfl rfl 4 (by decide) (by decide) dX2_init_43 (fun H locs hP hD hS => ?_)
  have hP : va_P g.1 vwCl ([(b, .inr (2, [.ref q1, .int (nI 0), .int (nI 0)]))] ++ ([(q1, .inl (g.2.2.2.1, 6, .inr (.inr (.inr (.inr (va_up (va_up (va_up (va_up (va_up (fun _ => none) 0 (some (u4 0))) 1 (some (u7 0))) 2 (some (u10 0))) 3 (some (u13 0))) 4 (some (u16 0))))))))] ++ ((wH g u16 H0) ++ ((wH g u13 H0) ++ ((wH g u10 H0) ++ ((wH g u7 H0) ++ (wH g u4 H0))))))) _ := hP
  have hD : va_D A ([(b, .inr (2, [.ref q1, .int (nI 0), .int (nI 0)]))] ++ ([(q1, .inl (g.2.2.2.1, 6, .inr (.inr (.inr (.inr (va_up (va_up (va_up (va_up (va_up (fun _ => none) 0 (some (u4 0))) 1 (some (u7 0))) 2 (some (u10 0))) 3 (some (u13 0))) 4 (some (u16 0))))))))] ++ ((wH g u16 H0) ++ ((wH g u13 H0) ++ ((wH g u10 H0) ++ ((wH g u7 H0) ++ (wH g u4 H0))))))) := hD
  refine lv_iinc (v := (nI 5)) (lv' := [(1, .int (nI 5)), (0, .ref b)]) hx hb dX2_init_44 hl (k := 0) rfl (k_inc1 _) (by decide) rfl (fun ls hl => ?_)
  refine lv_goto (tgt := 25) hx hb dX2_init_47 (by decide) ?_
  refine lv_iload_n hx hb dX2_init_25 rfl (lv_at hl 0 rfl) ?_
  refine lv_bipush (v := (nI 6)) hx hb dX2_init_26 (by decide) ?_
  refine k_geN (tgt := 50) hx hb (by decide) (by decide) dX2_init_28 (by decide) (fun c17 => absurd c17 (by decide)) (fun c17 => ?_)
  refine lv_aload_n hx hb dX2_init_31 rfl (lv_at hl 1 rfl) ?_
  refine va_get (D := g.1) (ci := 2) (v := .ref q1) (C := RX2) (T := TX2) (N := 3) hx hb hts hiX2 hown hE.1 hP 0 rfl rfl 0 (by decide) f11 (fun _ h9 => h9) rfl dX2_init_32 ?_
  refine lv_iload_n hx hb dX2_init_35 rfl (lv_at hl 0 rfl) ?_
  refine va_new (ci := 1) (C := RX1) (T := TX1) (N := 12) (fs := raw1) hx hb hts hiX1 tyX1 tyX1_ok hown cl9 inX1 iniX1 hE.1 hP hD hS hA rfl (fun j hj => by rcases (show j = 0 ∨ j = 1 ∨ j = 2 ∨ j = 3 ∨ j = 4 ∨ j = 5 ∨ j = 6 ∨ j = 7 ∨ j = 8 ∨ j = 9 ∨ j = 10 ∨ j = 11 by omega) with rfl | rfl | rfl | rfl | rfl | rfl | rfl | rfl | rfl | rfl | rfl | rfl <;> rfl) (Nat.le_of_ble_eq_true rfl) (Nat.le_of_ble_eq_true rfl) dX2_init_36 (fun q18 H hP hD hS => ?_)
  have hP : va_P g.1 vwCl ([(b, .inr (2, [.ref q1, .int (nI 0), .int (nI 0)]))] ++ ([(q1, .inl (g.2.2.2.1, 6, .inr (.inr (.inr (.inr (va_up (va_up (va_up (va_up (va_up (fun _ => none) 0 (some (u4 0))) 1 (some (u7 0))) 2 (some (u10 0))) 3 (some (u13 0))) 4 (some (u16 0))))))))] ++ ((wH g u16 H0) ++ ((wH g u13 H0) ++ ((wH g u10 H0) ++ ((wH g u7 H0) ++ ((wH g u4 H0) ++ [(q18, .inr (1, raw1))]))))))) _ := hP
  have hD : va_D A ([(b, .inr (2, [.ref q1, .int (nI 0), .int (nI 0)]))] ++ ([(q1, .inl (g.2.2.2.1, 6, .inr (.inr (.inr (.inr (va_up (va_up (va_up (va_up (va_up (fun _ => none) 0 (some (u4 0))) 1 (some (u7 0))) 2 (some (u10 0))) 3 (some (u13 0))) 4 (some (u16 0))))))))] ++ ((wH g u16 H0) ++ ((wH g u13 H0) ++ ((wH g u10 H0) ++ ((wH g u7 H0) ++ ((wH g u4 H0) ++ [(q18, .inr (1, raw1))]))))))) := hD
  refine lv_dup hx hb dX2_init_39 rfl ?_
  have hP : va_P g.1 vwCl (([(b, .inr (2, [.ref q1, .int (nI 0), .int (nI 0)]))] ++ [(q1, .inl (g.2.2.2.1, 6, .inr (.inr (.inr (.inr (va_up (va_up (va_up (va_up (va_up (fun _ => none) 0 (some (u4 0))) 1 (some (u7 0))) 2 (some (u10 0))) 3 (some (u13 0))) 4 (some (u16 0))))))))]) ++ (((wH g u16 H0) ++ ((wH g u13 H0) ++ ((wH g u10 H0) ++ ((wH g u7 H0) ++ (wH g u4 H0))))) ++ [(q18, .inr (1, raw1))])) _ := hP
  have hD : va_D A (([(b, .inr (2, [.ref q1, .int (nI 0), .int (nI 0)]))] ++ [(q1, .inl (g.2.2.2.1, 6, .inr (.inr (.inr (.inr (va_up (va_up (va_up (va_up (va_up (fun _ => none) 0 (some (u4 0))) 1 (some (u7 0))) 2 (some (u10 0))) 3 (some (u13 0))) 4 (some (u16 0))))))))]) ++ (((wH g u16 H0) ++ ((wH g u13 H0) ++ ((wH g u10 H0) ++ ((wH g u7 H0) ++ (wH g u4 H0))))) ++ [(q18, .inr (1, raw1))])) := hD
  refine k_INn (As := []) (ws1 := (fun u => ([(b, .inr (2, [.ref q1, .int (nI 0), .int (nI 0)]))] ++ [(q1, .inl (g.2.2.2.1, 6, .inr (.inr (.inr (.inr (va_up (va_up (va_up (va_up (va_up (fun _ => none) 0 (some (u4 0))) 1 (some (u7 0))) 2 (some (u10 0))) 3 (some (u13 0))) 4 (some (u16 0))))))))]) ++ ((wH g u H0) ++ ((wH g u16 H0) ++ ((wH g u13 H0) ++ ((wH g u10 H0) ++ ((wH g u7 H0) ++ (wH g u4 H0)))))))) hF (c_X1_init l g q18) ⟨va_cnB 0 hts gX2_init_X1_init_n24 rfl rfl rfl hE.2.1.2.1 iniX1 (by decide +kernel) ⟨(Nat.le_of_ble_eq_true rfl), (Nat.le_of_ble_eq_true rfl)⟩, rfl, imX1⟩ hE hP hD hS hA (k_pm3r _ _ _) (fun _ => k_pm3 _ _ _) rfl hl.1 rfl (Nat.le_of_ble_eq_true rfl) dX2_init_40 ⟨(Nat.le_of_ble_eq_true rfl), (Nat.le_of_ble_eq_true rfl)⟩ (fun u19 H locs hu hP2 hD2 hS2 => ?_)
  have hu : (u19 0) = q18 := hu
  subst hu
  have hP := hP2
  have hD := hD2
  have hS := hS2
  have hP : va_P g.1 vwCl ([(b, .inr (2, [.ref q1, .int (nI 0), .int (nI 0)]))] ++ ([(q1, .inl (g.2.2.2.1, 6, .inr (.inr (.inr (.inr (va_up (va_up (va_up (va_up (va_up (fun _ => none) 0 (some (u4 0))) 1 (some (u7 0))) 2 (some (u10 0))) 3 (some (u13 0))) 4 (some (u16 0))))))))] ++ ((wH g u19 H0) ++ ((wH g u16 H0) ++ ((wH g u13 H0) ++ ((wH g u10 H0) ++ ((wH g u7 H0) ++ (wH g u4 H0)))))))) _ := hP
  have hD : va_D A ([(b, .inr (2, [.ref q1, .int (nI 0), .int (nI 0)]))] ++ ([(q1, .inl (g.2.2.2.1, 6, .inr (.inr (.inr (.inr (va_up (va_up (va_up (va_up (va_up (fun _ => none) 0 (some (u4 0))) 1 (some (u7 0))) 2 (some (u10 0))) 3 (some (u13 0))) 4 (some (u16 0))))))))] ++ ((wH g u19 H0) ++ ((wH g u16 H0) ++ ((wH g u13 H0) ++ ((wH g u10 H0) ++ ((wH g u7 H0) ++ (wH g u4 H0)))))))) := hD
  refine k_astq (f := (va_up (va_up (va_up (va_up (va_up (fun _ => none) 0 (some (u4 0))) 1 (some (u7 0))) 2 (some (u10 0))) 3 (some (u13 0))) 4 (some (u16 0)))) hx hb hE hP hD hS 1 2 rfl rfl 5 (by decide) (by decide) dX2_init_43 (fun H locs hP hD hS => ?_)
  have hP : va_P g.1 vwCl ([(b, .inr (2, [.ref q1, .int (nI 0), .int (nI 0)]))] ++ ([(q1, .inl (g.2.2.2.1, 6, .inr (.inr (.inr (.inr (va_up (va_up (va_up (va_up (va_up (va_up (fun _ => none) 0 (some (u4 0))) 1 (some (u7 0))) 2 (some (u10 0))) 3 (some (u13 0))) 4 (some (u16 0))) 5 (some (u19 0))))))))] ++ ((wH g u19 H0) ++ ((wH g u16 H0) ++ ((wH g u13 H0) ++ ((wH g u10 H0) ++ ((wH g u7 H0) ++ (wH g u4 H0)))))))) _ := hP
  have hD : va_D A ([(b, .inr (2, [.ref q1, .int (nI 0), .int (nI 0)]))] ++ ([(q1, .inl (g.2.2.2.1, 6, .inr (.inr (.inr (.inr (va_up (va_up (va_up (va_up (va_up (va_up (fun _ => none) 0 (some (u4 0))) 1 (some (u7 0))) 2 (some (u10 0))) 3 (some (u13 0))) 4 (some (u16 0))) 5 (some (u19 0))))))))] ++ ((wH g u19 H0) ++ ((wH g u16 H0) ++ ((wH g u13 H0) ++ ((wH g u10 H0) ++ ((wH g u7 H0) ++ (wH g u4 H0)))))))) := hD
  refine lv_iinc (v := (nI 6)) (lv' := [(1, .int (nI 6)), (0, .ref b)]) hx hb dX2_init_44 hl (k := 0) rfl (k_inc1 _) (by decide) rfl (fun ls hl => ?_)
  refine lv_goto (tgt := 25) hx hb dX2_init_47 (by decide) ?_
  refine lv_iload_n hx hb dX2_init_25 rfl (lv_at hl 0 rfl) ?_
  refine lv_bipush (v := (nI 6)) hx hb dX2_init_26 (by decide) ?_
  refine k_geN (tgt := 50) hx hb (by decide) (by decide) dX2_init_28 (by decide) (fun c20 => ?_) (fun c20 => absurd c20 (by decide))
  have hP : va_P g.1 vwCl ((wK0 g (ad2 b q1) (ak6 u4 u7 u10 u13 u16 u19) K0) ++ (wHs g (ak6 u4 u7 u10 u13 u16 u19) (fun _ => H0) 6)) _ := k_PQ_ext (ws := ([(b, .inr (2, [.ref q1, .int (nI 0), .int (nI 0)]))] ++ ([(q1, .inl (g.2.2.2.1, 6, .inr (.inr (.inr (.inr (va_up (va_up (va_up (va_up (va_up (va_up (fun _ => none) 0 (some (u4 0))) 1 (some (u7 0))) 2 (some (u10 0))) 3 (some (u13 0))) 4 (some (u16 0))) 5 (some (u19 0))))))))] ++ ((wH g u19 H0) ++ ((wH g u16 H0) ++ ((wH g u13 H0) ++ ((wH g u10 H0) ++ ((wH g u7 H0) ++ (wH g u4 H0))))))))) (p := 1) (a := q1) (f := (va_up (va_up (va_up (va_up (va_up (va_up (fun _ => none) 0 (some (u4 0))) 1 (some (u7 0))) 2 (some (u10 0))) 3 (some (u13 0))) 4 (some (u16 0))) 5 (some (u19 0)))) (f2 := fun i => some ((ak6 u4 u7 u10 u13 u16 u19) i 0)) rfl rfl (fun k hk => by rcases (show k = 0 ∨ k = 1 ∨ k = 2 ∨ k = 3 ∨ k = 4 ∨ k = 5 by omega) with rfl | rfl | rfl | rfl | rfl | rfl <;> rfl) hP
  have hD : va_D A ((wK0 g (ad2 b q1) (ak6 u4 u7 u10 u13 u16 u19) K0) ++ (wHs g (ak6 u4 u7 u10 u13 u16 u19) (fun _ => H0) 6)) := k_D_ext (ws := ([(b, .inr (2, [.ref q1, .int (nI 0), .int (nI 0)]))] ++ ([(q1, .inl (g.2.2.2.1, 6, .inr (.inr (.inr (.inr (va_up (va_up (va_up (va_up (va_up (va_up (fun _ => none) 0 (some (u4 0))) 1 (some (u7 0))) 2 (some (u10 0))) 3 (some (u13 0))) 4 (some (u16 0))) 5 (some (u19 0))))))))] ++ ((wH g u19 H0) ++ ((wH g u16 H0) ++ ((wH g u13 H0) ++ ((wH g u10 H0) ++ ((wH g u7 H0) ++ (wH g u4 H0))))))))) 1 rfl rfl hD
  exact k_nret ((ad2 b q1, (ak6 u4 u7 u10 u13 u16 u19)) : (Nat → Nat) × (Nat → Nat → Nat)) hx hb hr hlocks rfl hP hD hS (Nat.le_of_ble_eq_true rfl) (Nat.le_of_ble_eq_true rfl) dX2_init_50
