set_option maxHeartbeats 4000000 in
set_option maxRecDepth 100000 in
theorem c_X1_perform (l : Launch) (g : kG) (a : Nat → Nat) (h : HSt) (c0 : Nat) (hc0 : c0 < 6) : KI l yX1_perform wsX1_perform ({ frames := 2, cells := 0, slots := 0, locals := 44 }) g [.ref (a 0), .int (nI c0)] (wH g a h) (bc (Hget h c0 8)) (wH g a (Hperf c0 h)) 0 0 := by
  refine k_begin (cc := cX1_perform) (maxL := 4) (ret := (some .int)) (Qc := fun A => kQi g (bc (Hget h c0 8)) (wH g a (Hperf c0 h)) A) (by decide) rfl (Nat.le_of_ble_eq_true rfl) ?_
  intro p e s m below meth c A ls hF hr hlocks hin hE hP hD hS hA hl
  obtain ⟨hx, hb, hml, hown, hts⟩ := id hF
  have hown : s.vm.findClass RX1 = some m.cls := hown
  have hl : lv_has ls 4 [(0, .ref (a 0)), (1, .int (nI c0))] := hl
  have hiX1 : ∀ w ∈ wsX10, w ∈ wsX1_perform := fun _ h => List.mem_cons_of_mem _ (List.mem_append_right _ (h))
  have f18 : (Cond.fieldLink RX1 18 "ConcertUsher$Hall" "counts" "[I").before _ s = true := hts _ (List.mem_of_getElem? (i := 1) rfl)
  refine lv_aload_n hx hb dX1_perform_0 rfl (lv_at hl 0 rfl) ?_
  refine lv_iload_n hx hb dX1_perform_1 rfl (lv_at hl 1 rfl) ?_
  refine k_Vi (As := [.int (nI c0)]) (r := (Hget h c0 8)) hF (c_X1_rowsThatGet l g a h c0 (by omega)) (cwV 1 hts gX1_perform_X1_rowsThatGet rfl rfl rfl (by decide +kernel) ⟨Nat.le_of_ble_eq_true rfl, Nat.le_of_ble_eq_true rfl⟩) hE hP hD hS hA (k_pall _) ((k_pall _).symm) 0 rfl rfl rfl rfl hl.1 rfl (Nat.le_of_ble_eq_true rfl) dX1_perform_2 ⟨Nat.le_of_ble_eq_true rfl, Nat.le_of_ble_eq_true rfl⟩ (fun H locs hP hD hS => ?_)
  have hP : va_P g.1 vwCl (wH g a h) _ := hP
  have hD : va_D A (wH g a h) := hD
  refine lv_istore_n (lv' := [(2, .int (Hget h c0 8)), (0, .ref (a 0)), (1, .int (nI c0))]) hx hb dX1_perform_5 rfl hl (by decide) rfl (fun ls hl => ?_)
  refine lv_aload_n hx hb dX1_perform_6 rfl (lv_at hl 1 rfl) ?_
  refine lv_iload_n hx hb dX1_perform_7 rfl (lv_at hl 2 rfl) ?_
  refine k_Vi (As := [.int (nI c0)]) (r := (Hwant h c0 8)) hF (c_X1_rowsThatWant l g a h c0 (by omega)) (cwV 1 hts gX1_perform_X1_rowsThatWant rfl rfl rfl (by decide +kernel) ⟨Nat.le_of_ble_eq_true rfl, Nat.le_of_ble_eq_true rfl⟩) hE hP hD hS hA (k_pall _) ((k_pall _).symm) 0 rfl rfl rfl rfl hl.1 rfl (Nat.le_of_ble_eq_true rfl) dX1_perform_8 ⟨Nat.le_of_ble_eq_true rfl, Nat.le_of_ble_eq_true rfl⟩ (fun H locs hP hD hS => ?_)
  have hP : va_P g.1 vwCl (wH g a h) _ := hP
  have hD : va_D A (wH g a h) := hD
  refine lv_istore_n (lv' := [(3, .int (Hwant h c0 8)), (2, .int (Hget h c0 8)), (0, .ref (a 0)), (1, .int (nI c0))]) hx hb dX1_perform_11 rfl hl (by decide) rfl (fun ls hl => ?_)
  refine lv_aload_n hx hb dX1_perform_12 rfl (lv_at hl 2 rfl) ?_
  refine va_get (D := g.1) (ci := 1) (v := .ref (a 3)) (C := RX1) (T := TX1) (N := 12) hx hb hts hiX1 hown hE.1 hP 0 rfl rfl 2 (by decide) f18 (fun _ h9 => h9) rfl dX1_perform_13 ?_
  refine lv_iconst (v := (nI 0)) hx hb dX1_perform_16 (by decide) ?_
  refine lv_dup2_11 hx hb dX1_perform_17 rfl rfl ?_
  refine k_iald (f := (hC h)) hx hb hE hP 3 rfl 0 rfl (by decide) (by decide) dX1_perform_18 ?_
  refine lv_iload_n hx hb dX1_perform_19 rfl (lv_at hl 1 rfl) ?_
  refine lv_iload_n hx hb dX1_perform_20 rfl (lv_at hl 0 rfl) ?_
  refine lv_iand hx hb dX1_perform_21 ?_
  refine k_Si (w0 := []) (w1 := []) (As := [.int ((Hget h c0 8) &&& (Hwant h c0 8))]) (r := (bc ((Hget h c0 8) &&& (Hwant h c0 8)))) hF (c_J6_bitCount_0f7a4 l g ((Hget h c0 8) &&& (Hwant h c0 8))) (va_cwS 1 hts gX1_perform_J6_bitCount_0f7a4 rfl rfl rfl (by decide +kernel) ⟨Nat.le_of_ble_eq_true rfl, Nat.le_of_ble_eq_true rfl⟩) hE hP hD hS hA (List.Perm.refl _) (List.Perm.refl _) rfl hl.1 rfl (Nat.le_of_ble_eq_true rfl) dX1_perform_22 ⟨Nat.le_of_ble_eq_true rfl, Nat.le_of_ble_eq_true rfl⟩ (fun H locs hP hD hS => ?_)
  have hP : va_P g.1 vwCl (wH g a h) _ := hP
  have hD : va_D A (wH g a h) := hD
  refine lv_iadd hx hb dX1_perform_25 ?_
  refine k_iast (f := (hC h)) (ws1 := (wH g a (sHC h (upd (hC h) 0 (((hC h) 0) + (bc ((Hget h c0 8) &&& (Hwant h c0 8)))))))) hx hb hE hP hD hS 3 rfl 0 rfl (by decide) (by decide) rfl dX1_perform_26 (fun H locs hP hD hS => ?_)
  refine lv_aload_n hx hb dX1_perform_27 rfl (lv_at hl 2 rfl) ?_
  refine va_get (D := g.1) (ci := 1) (v := .ref (a 3)) (C := RX1) (T := TX1) (N := 12) hx hb hts hiX1 hown hE.1 hP 0 rfl rfl 2 (by decide) f18 (fun _ h9 => h9) rfl dX1_perform_28 ?_
  refine lv_iconst (v := (nI 1)) hx hb dX1_perform_31 (by decide) ?_
  refine lv_dup2_11 hx hb dX1_perform_32 rfl rfl ?_
  refine k_iald (f := (upd (hC h) 0 (((hC h) 0) + (bc ((Hget h c0 8) &&& (Hwant h c0 8)))))) hx hb hE hP 3 rfl 1 rfl (by decide) (by decide) dX1_perform_33 ?_
  refine lv_iload_n hx hb dX1_perform_34 rfl (lv_at hl 1 rfl) ?_
  refine lv_iload_n hx hb dX1_perform_35 rfl (lv_at hl 0 rfl) ?_
  refine lv_iconst (v := (-1)) hx hb dX1_perform_36 (by decide) ?_
  refine lv_ixor hx hb dX1_perform_37 ?_
  refine lv_iand hx hb dX1_perform_38 ?_
  refine k_Si (w0 := []) (w1 := []) (As := [.int ((Hget h c0 8) &&& ((Hwant h c0 8) ^^^ (-1)))]) (r := (bc ((Hget h c0 8) &&& ((Hwant h c0 8) ^^^ (-1))))) hF (c_J6_bitCount_0f7a4 l g ((Hget h c0 8) &&& ((Hwant h c0 8) ^^^ (-1)))) (va_cwS 1 hts gX1_perform_J6_bitCount_0f7a4 rfl rfl rfl (by decide +kernel) ⟨Nat.le_of_ble_eq_true rfl, Nat.le_of_ble_eq_true rfl⟩) hE hP hD hS hA (List.Perm.refl _) (List.Perm.refl _) rfl hl.1 rfl (Nat.le_of_ble_eq_true rfl) dX1_perform_39 ⟨Nat.le_of_ble_eq_true rfl, Nat.le_of_ble_eq_true rfl⟩ (fun H locs hP hD hS => ?_)
  have hP : va_P g.1 vwCl (wH g a (sHC h (upd (hC h) 0 (((hC h) 0) + (bc ((Hget h c0 8) &&& (Hwant h c0 8))))))) _ := hP
  have hD : va_D A (wH g a (sHC h (upd (hC h) 0 (((hC h) 0) + (bc ((Hget h c0 8) &&& (Hwant h c0 8))))))) := hD
  refine lv_iadd hx hb dX1_perform_42 ?_
  refine k_iast (f := (upd (hC h) 0 (((hC h) 0) + (bc ((Hget h c0 8) &&& (Hwant h c0 8)))))) (ws1 := (wH g a (sHC h (upd (upd (hC h) 0 (((hC h) 0) + (bc ((Hget h c0 8) &&& (Hwant h c0 8))))) 1 (((upd (hC h) 0 (((hC h) 0) + (bc ((Hget h c0 8) &&& (Hwant h c0 8))))) 1) + (bc ((Hget h c0 8) &&& ((Hwant h c0 8) ^^^ (-1))))))))) hx hb hE hP hD hS 3 rfl 1 rfl (by decide) (by decide) rfl dX1_perform_43 (fun H locs hP hD hS => ?_)
  refine lv_aload_n hx hb dX1_perform_44 rfl (lv_at hl 2 rfl) ?_
  refine va_get (D := g.1) (ci := 1) (v := .ref (a 3)) (C := RX1) (T := TX1) (N := 12) hx hb hts hiX1 hown hE.1 hP 0 rfl rfl 2 (by decide) f18 (fun _ h9 => h9) rfl dX1_perform_45 ?_
  refine lv_iconst (v := (nI 2)) hx hb dX1_perform_48 (by decide) ?_
  refine lv_dup2_11 hx hb dX1_perform_49 rfl rfl ?_
  refine k_iald (f := (upd (upd (hC h) 0 (((hC h) 0) + (bc ((Hget h c0 8) &&& (Hwant h c0 8))))) 1 (((upd (hC h) 0 (((hC h) 0) + (bc ((Hget h c0 8) &&& (Hwant h c0 8))))) 1) + (bc ((Hget h c0 8) &&& ((Hwant h c0 8) ^^^ (-1))))))) hx hb hE hP 3 rfl 2 rfl (by decide) (by decide) dX1_perform_50 ?_
  refine lv_iload_n hx hb dX1_perform_51 rfl (lv_at hl 0 rfl) ?_
  refine lv_iload_n hx hb dX1_perform_52 rfl (lv_at hl 1 rfl) ?_
  refine lv_iconst (v := (-1)) hx hb dX1_perform_53 (by decide) ?_
  refine lv_ixor hx hb dX1_perform_54 ?_
  refine lv_iand hx hb dX1_perform_55 ?_
  refine k_Si (w0 := []) (w1 := []) (As := [.int ((Hwant h c0 8) &&& ((Hget h c0 8) ^^^ (-1)))]) (r := (bc ((Hwant h c0 8) &&& ((Hget h c0 8) ^^^ (-1))))) hF (c_J6_bitCount_0f7a4 l g ((Hwant h c0 8) &&& ((Hget h c0 8) ^^^ (-1)))) (va_cwS 1 hts gX1_perform_J6_bitCount_0f7a4 rfl rfl rfl (by decide +kernel) ⟨Nat.le_of_ble_eq_true rfl, Nat.le_of_ble_eq_true rfl⟩) hE hP hD hS hA (List.Perm.refl _) (List.Perm.refl _) rfl hl.1 rfl (Nat.le_of_ble_eq_true rfl) dX1_perform_56 ⟨Nat.le_of_ble_eq_true rfl, Nat.le_of_ble_eq_true rfl⟩ (fun H locs hP hD hS => ?_)
  have hP : va_P g.1 vwCl (wH g a (sHC h (upd (upd (hC h) 0 (((hC h) 0) + (bc ((Hget h c0 8) &&& (Hwant h c0 8))))) 1 (((upd (hC h) 0 (((hC h) 0) + (bc ((Hget h c0 8) &&& (Hwant h c0 8))))) 1) + (bc ((Hget h c0 8) &&& ((Hwant h c0 8) ^^^ (-1)))))))) _ := hP
  have hD : va_D A (wH g a (sHC h (upd (upd (hC h) 0 (((hC h) 0) + (bc ((Hget h c0 8) &&& (Hwant h c0 8))))) 1 (((upd (hC h) 0 (((hC h) 0) + (bc ((Hget h c0 8) &&& (Hwant h c0 8))))) 1) + (bc ((Hget h c0 8) &&& ((Hwant h c0 8) ^^^ (-1)))))))) := hD
  refine lv_iadd hx hb dX1_perform_59 ?_
  refine k_iast (f := (upd (upd (hC h) 0 (((hC h) 0) + (bc ((Hget h c0 8) &&& (Hwant h c0 8))))) 1 (((upd (hC h) 0 (((hC h) 0) + (bc ((Hget h c0 8) &&& (Hwant h c0 8))))) 1) + (bc ((Hget h c0 8) &&& ((Hwant h c0 8) ^^^ (-1))))))) (ws1 := (wH g a (sHC h (upd (upd (upd (hC h) 0 (((hC h) 0) + (bc ((Hget h c0 8) &&& (Hwant h c0 8))))) 1 (((upd (hC h) 0 (((hC h) 0) + (bc ((Hget h c0 8) &&& (Hwant h c0 8))))) 1) + (bc ((Hget h c0 8) &&& ((Hwant h c0 8) ^^^ (-1)))))) 2 (((upd (upd (hC h) 0 (((hC h) 0) + (bc ((Hget h c0 8) &&& (Hwant h c0 8))))) 1 (((upd (hC h) 0 (((hC h) 0) + (bc ((Hget h c0 8) &&& (Hwant h c0 8))))) 1) + (bc ((Hget h c0 8) &&& ((Hwant h c0 8) ^^^ (-1)))))) 2) + (bc ((Hwant h c0 8) &&& ((Hget h c0 8) ^^^ (-1))))))))) hx hb hE hP hD hS 3 rfl 2 rfl (by decide) (by decide) rfl dX1_perform_60 (fun H locs hP hD hS => ?_)
  refine lv_iload_n hx hb dX1_perform_61 rfl (lv_at hl 1 rfl) ?_
  refine k_Si (w0 := []) (w1 := []) (As := [.int (Hget h c0 8)]) (r := (bc (Hget h c0 8))) hF (c_J6_bitCount_0f7a4 l g (Hget h c0 8)) (va_cwS 1 hts gX1_perform_J6_bitCount_0f7a4 rfl rfl rfl (by decide +kernel) ⟨Nat.le_of_ble_eq_true rfl, Nat.le_of_ble_eq_true rfl⟩) hE hP hD hS hA (List.Perm.refl _) (List.Perm.refl _) rfl hl.1 rfl (Nat.le_of_ble_eq_true rfl) dX1_perform_62 ⟨Nat.le_of_ble_eq_true rfl, Nat.le_of_ble_eq_true rfl⟩ (fun H locs hP hD hS => ?_)
  have hP : va_P g.1 vwCl (wH g a (sHC h (upd (upd (upd (hC h) 0 (((hC h) 0) + (bc ((Hget h c0 8) &&& (Hwant h c0 8))))) 1 (((upd (hC h) 0 (((hC h) 0) + (bc ((Hget h c0 8) &&& (Hwant h c0 8))))) 1) + (bc ((Hget h c0 8) &&& ((Hwant h c0 8) ^^^ (-1)))))) 2 (((upd (upd (hC h) 0 (((hC h) 0) + (bc ((Hget h c0 8) &&& (Hwant h c0 8))))) 1 (((upd (hC h) 0 (((hC h) 0) + (bc ((Hget h c0 8) &&& (Hwant h c0 8))))) 1) + (bc ((Hget h c0 8) &&& ((Hwant h c0 8) ^^^ (-1)))))) 2) + (bc ((Hwant h c0 8) &&& ((Hget h c0 8) ^^^ (-1)))))))) _ := hP
  have hD : va_D A (wH g a (sHC h (upd (upd (upd (hC h) 0 (((hC h) 0) + (bc ((Hget h c0 8) &&& (Hwant h c0 8))))) 1 (((upd (hC h) 0 (((hC h) 0) + (bc ((Hget h c0 8) &&& (Hwant h c0 8))))) 1) + (bc ((Hget h c0 8) &&& ((Hwant h c0 8) ^^^ (-1)))))) 2 (((upd (upd (hC h) 0 (((hC h) 0) + (bc ((Hget h c0 8) &&& (Hwant h c0 8))))) 1 (((upd (hC h) 0 (((hC h) 0) + (bc ((Hget h c0 8) &&& (Hwant h c0 8))))) 1) + (bc ((Hget h c0 8) &&& ((Hwant h c0 8) ^^^ (-1)))))) 2) + (bc ((Hwant h c0 8) &&& ((Hget h c0 8) ^^^ (-1)))))))) := hD
  have hP : va_P g.1 vwCl (wH g a (Hperf c0 h)) _ := hP
  have hD : va_D A (wH g a (Hperf c0 h)) := hD
  exact k_iret hx hb hr hlocks rfl rfl hP hD hS (Nat.le_of_ble_eq_true rfl) (Nat.le_of_ble_eq_true rfl) dX1_perform_65
set_option maxHeartbeats 4000000 in
set_option maxRecDepth 100000 in
theorem c_X1_asksIn (l : Launch) (g : kG) (a : Nat → Nat) (h : HSt) : KI l yX1_asksIn wsX1_asksIn ({ frames := 2, cells := 0, slots := 0, locals := 40 }) g [.ref (a 0)] (wH g a h) (HasksIn h) (wH g a h) 0 0 := by
  refine k_begin (cc := cX1_asksIn) (maxL := 1) (ret := (some .int)) (Qc := fun A => kQi g (HasksIn h) (wH g a h) A) (by decide) rfl (Nat.le_of_ble_eq_true rfl) ?_
  intro p e s m below meth c A ls hF hr hlocks hin hE hP hD hS hA hl
  obtain ⟨hx, hb, hml, hown, hts⟩ := id hF
  have hown : s.vm.findClass RX1 = some m.cls := hown
  have hl : lv_has ls 1 [(0, .ref (a 0))] := hl
  have hiX1 : ∀ w ∈ wsX10, w ∈ wsX1_asksIn := fun _ h => List.mem_cons_of_mem _ (List.mem_append_right _ (h))
  have f47 : (Cond.fieldLink RX1 47 "ConcertUsher$Hall" "sinceQuestion" "I").before _ s = true := hts _ (List.mem_of_getElem? (i := 1) rfl)
  have mml : (Cond.methodLink RX1 96 Lib.Math.max.name).before _ s = true := hts _ (List.mem_of_getElem? (i := 2) rfl)
  have mms : (Cond.static Lib.Math.max.name).before _ s = true := hts _ (List.mem_of_getElem? (i := 3) rfl)
  have mmi : (Cond.initialized "java/lang/Math").before _ s = true := hts _ (List.mem_of_getElem? (i := 4) rfl)
  have mmc : (Cond.code Lib.Math.max.name Lib.Math.max.code 2 (some .int)).before _ s = true := hts _ (List.mem_of_getElem? (i := 5) rfl)
  refine lv_iconst (v := (nI 1)) hx hb dX1_asksIn_0 (by decide) ?_
  refine lv_aload_n hx hb dX1_asksIn_1 rfl (lv_at hl 0 rfl) ?_
  refine k_Vi (As := []) (r := (Htbq h)) hF (c_X1_timeBetweenQuestions l g a h) (cwV 0 hts gX1_asksIn_X1_timeBetweenQuestions rfl rfl rfl (by decide +kernel) ⟨Nat.le_of_ble_eq_true rfl, Nat.le_of_ble_eq_true rfl⟩) hE hP hD hS hA (k_pall _) ((k_pall _).symm) 0 rfl rfl rfl rfl hl.1 rfl (Nat.le_of_ble_eq_true rfl) dX1_asksIn_2 ⟨Nat.le_of_ble_eq_true rfl, Nat.le_of_ble_eq_true rfl⟩ (fun H locs hP hD hS => ?_)
  have hP : va_P g.1 vwCl (wH g a h) _ := hP
  have hD : va_D A (wH g a h) := hD
  refine lv_aload_n hx hb dX1_asksIn_5 rfl (lv_at hl 0 rfl) ?_
  refine va_get (D := g.1) (ci := 1) (v := .int (hsn h)) (C := RX1) (T := TX1) (N := 12) hx hb hts hiX1 hown hE.1 hP 0 rfl rfl 11 (by decide) f47 (fun _ h9 => h9) rfl dX1_asksIn_6 ?_
  refine lv_isub hx hb dX1_asksIn_9 ?_
  refine va_mmax hx hb (hml.trans hl.1.symm) hown mml mms mmi mmc (Nat.le_of_ble_eq_true rfl) (Nat.le_of_ble_eq_true rfl) (Nat.le_of_ble_eq_true rfl) (Nat.le_of_ble_eq_true rfl) dX1_asksIn_10 ?_
  have hP : va_P g.1 vwCl (wH g a h) _ := hP
  have hD : va_D A (wH g a h) := hD
  exact k_iret hx hb hr hlocks rfl (by first | rfl | (simp only [HasksIn, bI]; done) | (simp only [HasksIn, bI]; rfl) | (simp [HasksIn, bI]; done)) hP hD hS (Nat.le_of_ble_eq_true rfl) (Nat.le_of_ble_eq_true rfl) dX1_asksIn_13
set_option maxHeartbeats 4000000 in
set_option maxRecDepth 100000 in
theorem c_X1_fadesIn (l : Launch) (g : kG) (a : Nat → Nat) (h : HSt) (k : Nat) (hk : k < 48) : KI l yX1_fadesIn wsX1_fadesIn ({ frames := 3, cells := 0, slots := 0, locals := 60 }) g [.ref (a 0), .int (nI k)] (wH g a h) (HfadesIn k h) (wH g a h) 0 0 := by
  refine k_begin (cc := cX1_fadesIn) (maxL := 3) (ret := (some .int)) (Qc := fun A => kQi g (HfadesIn k h) (wH g a h) A) (by decide) rfl (Nat.le_of_ble_eq_true rfl) ?_
  intro p e s m below meth c A ls hF hr hlocks hin hE hP hD hS hA hl
  obtain ⟨hx, hb, hml, hown, hts⟩ := id hF
  have hown : s.vm.findClass RX1 = some m.cls := hown
  have hl : lv_has ls 3 [(0, .ref (a 0)), (1, .int (nI k))] := hl
  have hiX1 : ∀ w ∈ wsX10, w ∈ wsX1_fadesIn := fun _ h => List.mem_cons_of_mem _ (List.mem_append_right _ (h))
  have f15 : (Cond.fieldLink RX1 15 "ConcertUsher$Hall" "rests" "[I").before _ s = true := hts _ (List.mem_of_getElem? (i := 1) rfl)
  have f35 : (Cond.fieldLink RX1 35 "ConcertUsher$Hall" "fading" "I").before _ s = true := hts _ (List.mem_of_getElem? (i := 2) rfl)
  refine lv_aload_n hx hb dX1_fadesIn_0 rfl (lv_at hl 0 rfl) ?_
  refine k_Vi (As := []) (r := (HasksIn h)) hF (c_X1_asksIn l g a h) (cwV 0 hts gX1_fadesIn_X1_asksIn rfl rfl rfl (by decide +kernel) ⟨Nat.le_of_ble_eq_true rfl, Nat.le_of_ble_eq_true rfl⟩) hE hP hD hS hA (k_pall _) ((k_pall _).symm) 0 rfl rfl rfl rfl hl.1 rfl (Nat.le_of_ble_eq_true rfl) dX1_fadesIn_1 ⟨Nat.le_of_ble_eq_true rfl, Nat.le_of_ble_eq_true rfl⟩ (fun H locs hP hD hS => ?_)
  have hP : va_P g.1 vwCl (wH g a h) _ := hP
  have hD : va_D A (wH g a h) := hD
  refine lv_istore_n (lv' := [(2, .int (HasksIn h)), (0, .ref (a 0)), (1, .int (nI k))]) hx hb dX1_fadesIn_4 rfl hl (by decide) rfl (fun ls hl => ?_)
  refine lv_aload_n hx hb dX1_fadesIn_5 rfl (lv_at hl 1 rfl) ?_
  refine lv_iload_n hx hb dX1_fadesIn_6 rfl (lv_at hl 2 rfl) ?_
  refine k_Vi (As := [.int (nI k)]) (r := (bI (¬ ((hL h) k) ≤ 0))) hF (c_X1_isWantedAt l g a h k (by omega)) (cwV 1 hts gX1_fadesIn_X1_isWantedAt rfl rfl rfl (by decide +kernel) ⟨Nat.le_of_ble_eq_true rfl, Nat.le_of_ble_eq_true rfl⟩) hE hP hD hS hA (k_pall _) ((k_pall _).symm) 0 rfl rfl rfl rfl hl.1 rfl (Nat.le_of_ble_eq_true rfl) dX1_fadesIn_7 ⟨Nat.le_of_ble_eq_true rfl, Nat.le_of_ble_eq_true rfl⟩ (fun H locs hP hD hS => ?_)
  have hP : va_P g.1 vwCl (wH g a h) _ := hP
  have hD : va_D A (wH g a h) := hD
  refine k_ifeqB (tgt := 23) hx hb dX1_fadesIn_10 (by decide) (fun c1 => ?_) (fun c1 => ?_)
  ·
    refine lv_aload_n hx hb dX1_fadesIn_23 rfl (lv_at hl 1 rfl) ?_
    refine va_get (D := g.1) (ci := 1) (v := .ref (a 2)) (C := RX1) (T := TX1) (N := 12) hx hb hts hiX1 hown hE.1 hP 0 rfl rfl 1 (by decide) f15 (fun _ h9 => h9) rfl dX1_fadesIn_24 ?_
    refine lv_iload_n hx hb dX1_fadesIn_27 rfl (lv_at hl 2 rfl) ?_
    refine k_iald (f := (hR h)) hx hb hE hP 2 rfl k rfl (by omega) (by decide) dX1_fadesIn_28 ?_
    have hP : va_P g.1 vwCl (wH g a h) _ := hP
    have hD : va_D A (wH g a h) := hD
    exact k_iret hx hb hr hlocks rfl (by first | (simp only [HfadesIn, bI, if_neg c1, if_pos c1]; done) | (simp only [HfadesIn, bI, if_neg c1, if_pos c1]; rfl) | rfl | (simp [HfadesIn, bI, if_neg c1, if_pos c1]; done)) hP hD hS (Nat.le_of_ble_eq_true rfl) (Nat.le_of_ble_eq_true rfl) dX1_fadesIn_29
  ·
    refine lv_aload_n hx hb dX1_fadesIn_13 rfl (lv_at hl 1 rfl) ?_
    refine va_get (D := g.1) (ci := 1) (v := .ref (a 2)) (C := RX1) (T := TX1) (N := 12) hx hb hts hiX1 hown hE.1 hP 0 rfl rfl 1 (by decide) f15 (fun _ h9 => h9) rfl dX1_fadesIn_14 ?_
    refine lv_iload_n hx hb dX1_fadesIn_17 rfl (lv_at hl 2 rfl) ?_
    refine k_iald (f := (hR h)) hx hb hE hP 2 rfl k rfl (by omega) (by decide) dX1_fadesIn_18 ?_
    refine lv_iload_n hx hb dX1_fadesIn_19 rfl (lv_at hl 0 rfl) ?_
    refine lv_icmp_ge (tgt := 30) hx hb dX1_fadesIn_20 (by decide) (fun c2 => ?_) (fun c2 => ?_)
    ·
      refine lv_aload_n hx hb dX1_fadesIn_30 rfl (lv_at hl 1 rfl) ?_
      refine va_get (D := g.1) (ci := 1) (v := .int (hfd h)) (C := RX1) (T := TX1) (N := 12) hx hb hts hiX1 hown hE.1 hP 0 rfl rfl 7 (by decide) f35 (fun _ h9 => h9) rfl dX1_fadesIn_31 ?_
      refine lv_aload_n hx hb dX1_fadesIn_34 rfl (lv_at hl 1 rfl) ?_
      refine k_Vi (As := []) (r := (Htbq h)) hF (c_X1_timeBetweenQuestions l g a h) (cwV 0 hts gX1_fadesIn_X1_timeBetweenQuestions rfl rfl rfl (by decide +kernel) ⟨Nat.le_of_ble_eq_true rfl, Nat.le_of_ble_eq_true rfl⟩) hE hP hD hS hA (k_pall _) ((k_pall _).symm) 0 rfl rfl rfl rfl hl.1 rfl (Nat.le_of_ble_eq_true rfl) dX1_fadesIn_35 ⟨Nat.le_of_ble_eq_true rfl, Nat.le_of_ble_eq_true rfl⟩ (fun H locs hP hD hS => ?_)
      have hP : va_P g.1 vwCl (wH g a h) _ := hP
      have hD : va_D A (wH g a h) := hD
      refine lv_icmp_ge (tgt := 50) hx hb dX1_fadesIn_38 (by decide) (fun c3 => ?_) (fun c3 => ?_)
      ·
        refine lv_iconst (v := (-1)) hx hb dX1_fadesIn_50 (by decide) ?_
        have hP : va_P g.1 vwCl (wH g a h) _ := hP
        have hD : va_D A (wH g a h) := hD
        exact k_iret hx hb hr hlocks rfl (by first | (simp only [HfadesIn, bI, if_pos c1, if_neg (not_not_intro c1), if_pos c2, if_neg (not_not_intro c2), if_pos c3, if_neg (not_not_intro c3)]; done) | (simp only [HfadesIn, bI, if_pos c1, if_neg (not_not_intro c1), if_pos c2, if_neg (not_not_intro c2), if_pos c3, if_neg (not_not_intro c3)]; rfl) | rfl | (simp [HfadesIn, bI, if_pos c1, if_neg (not_not_intro c1), if_pos c2, if_neg (not_not_intro c2), if_pos c3, if_neg (not_not_intro c3)]; done)) hP hD hS (Nat.le_of_ble_eq_true rfl) (Nat.le_of_ble_eq_true rfl) dX1_fadesIn_51
      ·
        refine lv_iload_n hx hb dX1_fadesIn_41 rfl (lv_at hl 0 rfl) ?_
        refine lv_aload_n hx hb dX1_fadesIn_42 rfl (lv_at hl 1 rfl) ?_
        refine va_get (D := g.1) (ci := 1) (v := .int (hfd h)) (C := RX1) (T := TX1) (N := 12) hx hb hts hiX1 hown hE.1 hP 0 rfl rfl 7 (by decide) f35 (fun _ h9 => h9) rfl dX1_fadesIn_43 ?_
        refine lv_iadd hx hb dX1_fadesIn_46 ?_
        refine lv_goto (tgt := 51) hx hb dX1_fadesIn_47 (by decide) ?_
        have hP : va_P g.1 vwCl (wH g a h) _ := hP
        have hD : va_D A (wH g a h) := hD
        exact k_iret hx hb hr hlocks rfl (by first | (simp only [HfadesIn, bI, if_pos c1, if_neg (not_not_intro c1), if_pos c2, if_neg (not_not_intro c2), if_neg c3, if_pos c3]; done) | (simp only [HfadesIn, bI, if_pos c1, if_neg (not_not_intro c1), if_pos c2, if_neg (not_not_intro c2), if_neg c3, if_pos c3]; rfl) | rfl | (simp [HfadesIn, bI, if_pos c1, if_neg (not_not_intro c1), if_pos c2, if_neg (not_not_intro c2), if_neg c3, if_pos c3]; done)) hP hD hS (Nat.le_of_ble_eq_true rfl) (Nat.le_of_ble_eq_true rfl) dX1_fadesIn_51
    ·
      refine lv_aload_n hx hb dX1_fadesIn_23 rfl (lv_at hl 1 rfl) ?_
      refine va_get (D := g.1) (ci := 1) (v := .ref (a 2)) (C := RX1) (T := TX1) (N := 12) hx hb hts hiX1 hown hE.1 hP 0 rfl rfl 1 (by decide) f15 (fun _ h9 => h9) rfl dX1_fadesIn_24 ?_
      refine lv_iload_n hx hb dX1_fadesIn_27 rfl (lv_at hl 2 rfl) ?_
      refine k_iald (f := (hR h)) hx hb hE hP 2 rfl k rfl (by omega) (by decide) dX1_fadesIn_28 ?_
      have hP : va_P g.1 vwCl (wH g a h) _ := hP
      have hD : va_D A (wH g a h) := hD
      exact k_iret hx hb hr hlocks rfl (by first | (simp only [HfadesIn, bI, if_pos c1, if_neg (not_not_intro c1), if_neg c2, if_pos c2]; done) | (simp only [HfadesIn, bI, if_pos c1, if_neg (not_not_intro c1), if_neg c2, if_pos c2]; rfl) | rfl | (simp [HfadesIn, bI, if_pos c1, if_neg (not_not_intro c1), if_neg c2, if_pos c2]; done)) hP hD hS (Nat.le_of_ble_eq_true rfl) (Nat.le_of_ble_eq_true rfl) dX1_fadesIn_29
