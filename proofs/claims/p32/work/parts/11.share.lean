/-! the useful share -/
set_option maxHeartbeats 4000000 in
set_option maxRecDepth 100000 in
theorem c_X3_usefulShare (l : Launch) (g : kG) (u : Nat) (ah at9 a0 : Nat → Nat) (ak : Nat → Nat → Nat) (h : HSt) (sg : Nat → Int32) (n : Nat) (hn : n ≤ 60) (hch : Tok sg n) (od sz : Nat) (hod : od < 6) (hsz : sz ≤ 6) (hs : Nat → HSt) (hbo : Hbo h) (hbs : ∀ j, Hbo (hs j)) : KD l yX3_usefulShare wsX3_usefulShare ({ frames := 0, cells := 0, slots := 0, locals := 0 }) g [.ref u] ((wU u (ah 0) (a0 0) (at9 0)) ++ ((wH g ah h) ++ ((wT g at9 (sg, (nI n))) ++ ((wK0 g a0 ak ((nI od), (nI sz))) ++ (wHs g ak hs 6))))) (dSh ((hC h) 0) ((hC h) 1)) ((wU u (ah 0) (a0 0) (at9 0)) ++ ((wH g ah h) ++ ((wT g at9 (sg, (nI n))) ++ ((wK0 g a0 ak ((nI od), (nI sz))) ++ (wHs g ak hs 6))))) 0 0 := by
  refine k_begin (cc := cX3_usefulShare) (maxL := 3) (ret := (some .double)) (Qc := fun A => kQd g (dSh ((hC h) 0) ((hC h) 1)) ((wU u (ah 0) (a0 0) (at9 0)) ++ ((wH g ah h) ++ ((wT g at9 (sg, (nI n))) ++ ((wK0 g a0 ak ((nI od), (nI sz))) ++ (wHs g ak hs 6))))) A) (by decide) rfl (Nat.le_of_ble_eq_true rfl) ?_
  intro p e s m below meth c A ls hF hr hlocks hin hE hP hD hS hA hl
  obtain ⟨hx, hb, hml, hown, hts⟩ := id hF
  have hown : s.vm.findClass RX3 = some m.cls := hown
  have hl : lv_has ls 3 [(0, .ref u)] := hl
  have hiX3 : ∀ w ∈ wsX30, w ∈ wsX3_usefulShare := fun _ h => List.mem_cons_of_mem _ (List.mem_append_left _ (List.mem_append_right _ (h)))
  have hiX1 : ∀ w ∈ wsX10, w ∈ wsX3_usefulShare := fun _ h => List.mem_cons_of_mem _ (List.mem_append_right _ (h))
  have f12 : (Cond.fieldLink RX3 12 "ConcertUsher" "hall" "LConcertUsher$Hall;").before _ s = true := hts _ (List.mem_of_getElem? (i := 1) rfl)
  have f146 : (Cond.fieldLink RX3 146 "ConcertUsher$Hall" "counts" "[I").before _ s = true := hts _ (List.mem_of_getElem? (i := 2) rfl)
  refine lv_aload_n hx hb dX3_usefulShare_0 rfl (lv_at hl 0 rfl) ?_
  refine va_get (D := g.1) (ci := 3) (v := .ref (ah 0)) (C := RX3) (T := TX3) (N := 3) hx hb hts hiX3 hown hE.1 hP 0 rfl rfl 0 (by decide) f12 (fun _ h9 => h9) rfl dX3_usefulShare_1 ?_
  refine va_get (D := g.1) (ci := 1) (v := .ref (ah 3)) (C := RX1) (T := TX1) (N := 12) hx hb hts hiX1 hown hE.1 hP 1 rfl rfl 2 (by decide) f146 (fun _ h9 => h9) rfl dX3_usefulShare_4 ?_
  refine lv_iconst (v := (nI 0)) hx hb dX3_usefulShare_7 (by decide) ?_
  refine k_iald (f := (hC h)) hx hb hE hP 4 rfl 0 rfl (by decide) (by decide) dX3_usefulShare_8 ?_
  refine lv_istore_n (lv' := [(1, .int ((hC h) 0)), (0, .ref u)]) hx hb dX3_usefulShare_9 rfl hl (by decide) rfl (fun ls hl => ?_)
  refine lv_iload_n hx hb dX3_usefulShare_10 rfl (lv_at hl 0 rfl) ?_
  refine lv_aload_n hx hb dX3_usefulShare_11 rfl (lv_at hl 1 rfl) ?_
  refine va_get (D := g.1) (ci := 3) (v := .ref (ah 0)) (C := RX3) (T := TX3) (N := 3) hx hb hts hiX3 hown hE.1 hP 0 rfl rfl 0 (by decide) f12 (fun _ h9 => h9) rfl dX3_usefulShare_12 ?_
  refine va_get (D := g.1) (ci := 1) (v := .ref (ah 3)) (C := RX1) (T := TX1) (N := 12) hx hb hts hiX1 hown hE.1 hP 1 rfl rfl 2 (by decide) f146 (fun _ h9 => h9) rfl dX3_usefulShare_15 ?_
  refine lv_iconst (v := (nI 1)) hx hb dX3_usefulShare_18 (by decide) ?_
  refine k_iald (f := (hC h)) hx hb hE hP 4 rfl 1 rfl (by decide) (by decide) dX3_usefulShare_19 ?_
  refine lv_iadd hx hb dX3_usefulShare_20 ?_
  refine lv_istore_n (lv' := [(2, .int (((hC h) 0) + ((hC h) 1))), (1, .int ((hC h) 0)), (0, .ref u)]) hx hb dX3_usefulShare_21 rfl hl (by decide) rfl (fun ls hl => ?_)
  refine lv_iload_n hx hb dX3_usefulShare_22 rfl (lv_at hl 0 rfl) ?_
  refine lv_if_ne (tgt := 28) hx hb dX3_usefulShare_23 (by decide) (fun c1 => ?_) (fun c1 => ?_)
  ·
    refine lv_iload_n hx hb dX3_usefulShare_28 rfl (lv_at hl 1 rfl) ?_
    refine lv_i2d hx hb dX3_usefulShare_29 ?_
    refine lv_iload_n hx hb dX3_usefulShare_30 rfl (lv_at hl 0 rfl) ?_
    refine lv_i2d hx hb dX3_usefulShare_31 ?_
    refine lv_ddiv hx hb dX3_usefulShare_32 (dSh_n64 ‹_›) ?_
    have hP : va_P g.1 vwCl ((wU u (ah 0) (a0 0) (at9 0)) ++ ((wH g ah h) ++ ((wT g at9 (sg, (nI n))) ++ ((wK0 g a0 ak ((nI od), (nI sz))) ++ (wHs g ak hs 6))))) _ := hP
    have hD : va_D A ((wU u (ah 0) (a0 0) (at9 0)) ++ ((wH g ah h) ++ ((wT g at9 (sg, (nI n))) ++ ((wK0 g a0 ak ((nI od), (nI sz))) ++ (wHs g ak hs 6))))) := hD
    exact k_dret hx hb hr hlocks (if_neg c1).symm hP hD hS (Nat.le_of_ble_eq_true rfl) (Nat.le_of_ble_eq_true rfl) dX3_usefulShare_33
  ·
    refine lv_dconst1 hx hb dX3_usefulShare_26 ?_
    have hP : va_P g.1 vwCl ((wU u (ah 0) (a0 0) (at9 0)) ++ ((wH g ah h) ++ ((wT g at9 (sg, (nI n))) ++ ((wK0 g a0 ak ((nI od), (nI sz))) ++ (wHs g ak hs 6))))) _ := hP
    have hD : va_D A ((wU u (ah 0) (a0 0) (at9 0)) ++ ((wH g ah h) ++ ((wT g at9 (sg, (nI n))) ++ ((wK0 g a0 ak ((nI od), (nI sz))) ++ (wHs g ak hs 6))))) := hD
    exact k_dret hx hb hr hlocks (if_pos c1).symm hP hD hS (Nat.le_of_ble_eq_true rfl) (Nat.le_of_ble_eq_true rfl) dX3_usefulShare_27
