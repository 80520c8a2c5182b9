set_option maxHeartbeats 4000000 in
set_option maxRecDepth 100000 in
theorem c_L_leave (l : Launch) (hfl : l.stackTraces = false) (g : kG) (sa : Nat → Nat) (u : Nat) (ah at9 a0 : Nat → Nat) (ak : Nat → Nat → Nat) (h : HSt) (sg : Nat → Int32) (n : Nat) (hn : n ≤ 60) (hch : Tok sg n) (od sz : Nat) (hod : od < 6) (hsz : sz ≤ 6) (hs : Nat → HSt) (hbo : Hbo h) (hbs : ∀ j, Hbo (hs j)) (o : Nat) (f : Nat → Int64) (row con : Int32) (b : Nat) (hb2 : b < 2) : KIX l yL_leave wsL_leave ({ frames := 8, cells := 3, slots := 18, locals := 134 }) g sa [.ref u, .int row, .int con, .int (nI b), .ref o] ((wO g o f) ++ ((wU u (ah 0) (a0 0) (at9 0)) ++ ((wH g ah h) ++ ((wT g at9 (sg, (nI n))) ++ ((wK0 g a0 ak ((nI od), (nI sz))) ++ (wHs g ak hs 6)))))) (nI (cdLeave h row con)) (if (cdLeave h row con) = 0 then ((wO g o (vp_updL f 0 (Int32.toInt64 (hL (Hunseat (pl row con) b h) (pl row con))))) ++ ((wU u (ah 0) (a0 0) (at9 0)) ++ ((wH g ah (Hunseat (pl row con) b h)) ++ ((wT g at9 (sg, (nI n))) ++ ((wK0 g a0 ak (nI (kOd od sz), nI (kSz sz))) ++ (wHs g ak (va_up hs (kJ od sz) h) 6)))))) else ((wO g o f) ++ ((wU u (ah 0) (a0 0) (at9 0)) ++ ((wH g ah h) ++ ((wT g at9 (sg, (nI n))) ++ ((wK0 g a0 ak ((nI od), (nI sz))) ++ (wHs g ak hs 6))))))) 3 18 := by
  refine k_beginH (cc := cL_leave) (maxL := 6) (ret := (some .int)) (hh := [(0, 12, 15, 13), (0, 12, 19, 15)]) (Qc := fun A => kQi g (nI (cdLeave h row con)) (if (cdLeave h row con) = 0 then ((wO g o (vp_updL f 0 (Int32.toInt64 (hL (Hunseat (pl row con) b h) (pl row con))))) ++ ((wU u (ah 0) (a0 0) (at9 0)) ++ ((wH g ah (Hunseat (pl row con) b h)) ++ ((wT g at9 (sg, (nI n))) ++ ((wK0 g a0 ak (nI (kOd od sz), nI (kSz sz))) ++ (wHs g ak (va_up hs (kJ od sz) h) 6)))))) else ((wO g o f) ++ ((wU u (ah 0) (a0 0) (at9 0)) ++ ((wH g ah h) ++ ((wT g at9 (sg, (nI n))) ++ ((wK0 g a0 ak ((nI od), (nI sz))) ++ (wHs g ak hs 6))))))) A) (by decide) rfl (Nat.le_of_ble_eq_true rfl) ?_
  intro p e s m below meth c A ls hF hr hlocks hT hE hSt hZ hP hD hS hA hl
  obtain ⟨hx, hb, hml, hown, hts⟩ := id hF
  have hown : s.vm.findClass RL = some m.cls := hown
  have hl : lv_has ls 6 [(0, .ref u), (1, .int row), (2, .int con), (3, .int (nI b)), (4, .ref o)] := hl
  have lk13 : (Cond.classLink RL 13 "java/lang/IndexOutOfBoundsException").before _ s = true := hts _ (List.mem_of_getElem? (i := 1) rfl)
  have lk15 : (Cond.classLink RL 15 "java/lang/IllegalStateException").before _ s = true := hts _ (List.mem_of_getElem? (i := 2) rfl)
  refine lv_aload hx hb dL_leave_0 (lv_at hl 4 rfl) ?_
  refine lv_iconst (v := (nI 0)) hx hb dL_leave_2 (by decide) ?_
  refine lv_aload_n hx hb dL_leave_3 rfl (lv_at hl 0 rfl) ?_
  refine lv_iload_n hx hb dL_leave_4 rfl (lv_at hl 1 rfl) ?_
  refine lv_iload_n hx hb dL_leave_5 rfl (lv_at hl 2 rfl) ?_
  refine lv_iload_n hx hb dL_leave_6 rfl (lv_at hl 3 rfl) ?_
  refine k_LVi (As := [.int row, .int con, .int (nI b)]) (r := (hL (Hunseat (pl row con) b h) (pl row con))) (ws1 := ((wO g o f) ++ ((wU u (ah 0) (a0 0) (at9 0)) ++ ((wH g ah (Hunseat (pl row con) b h)) ++ ((wT g at9 (sg, (nI n))) ++ ((wK0 g a0 ak (nI (kOd od sz), nI (kSz sz))) ++ (wHs g ak (va_up hs (kJ od sz) h) 6))))))) hF (c_X3_leave l hfl g sa u ah at9 a0 ak h sg n hn hch od sz hod hsz hs hbo hbs row con b hb2) (cwV 3 hts gL_leave_X3_leave rfl rfl rfl (by decide +kernel) ⟨Nat.le_of_ble_eq_true rfl, Nat.le_of_ble_eq_true rfl⟩) hE hSt hZ hP hD hS hA List.perm_append_comm List.perm_append_comm 1 rfl rfl rfl rfl hl.1 rfl (Nat.le_of_ble_eq_true rfl) dL_leave_7 ⟨Nat.le_of_ble_eq_true rfl, Nat.le_of_ble_eq_true rfl⟩ (fun ce q9 H locs h0 hP hD hS hce hcv hcl => ?_) (fun H locs h0 hP hD hS => ?_)
  ·
    by_cases h1 : (cdLeave h row con) = 1
    ·
      have hcl : s.vm.findClass "java/lang/IndexOutOfBoundsException" = some ce.cls := by first | exact hcl | (rw [h1] at hcl; exact hcl)
      refine vx_catch (own := RL) (name := "java/lang/IndexOutOfBoundsException") (E := "java/lang/IndexOutOfBoundsException") hown [] ⟨0, 12, 15, 13⟩ [⟨0, 12, 19, 15⟩] hT (fun z hz => nomatch hz) rfl (by decide) lk13 (va_Nw.use rfl hSt.2.1.1) hce hcv hcl ?_
      refine W.eq (g2 := F0 m 15 ls [.ref q9]) rfl ?_
      refine lv_astore (lv' := [(5, .ref q9), (0, .ref u), (1, .int row), (2, .int con), (3, .int (nI b)), (4, .ref o)]) hx hb dL_leave_15 hl (by decide) rfl (fun ls hl => ?_)
      refine lv_iconst (v := (nI 1)) hx hb dL_leave_17 (by decide) ?_
      have hP : va_P g.1 vwCl (if (cdLeave h row con) = 0 then ((wO g o (vp_updL f 0 (Int32.toInt64 (hL (Hunseat (pl row con) b h) (pl row con))))) ++ ((wU u (ah 0) (a0 0) (at9 0)) ++ ((wH g ah (Hunseat (pl row con) b h)) ++ ((wT g at9 (sg, (nI n))) ++ ((wK0 g a0 ak (nI (kOd od sz), nI (kSz sz))) ++ (wHs g ak (va_up hs (kJ od sz) h) 6)))))) else ((wO g o f) ++ ((wU u (ah 0) (a0 0) (at9 0)) ++ ((wH g ah h) ++ ((wT g at9 (sg, (nI n))) ++ ((wK0 g a0 ak ((nI od), (nI sz))) ++ (wHs g ak hs 6))))))) H := by rw [if_neg h0]; exact hP
      have hD : va_D A (if (cdLeave h row con) = 0 then ((wO g o (vp_updL f 0 (Int32.toInt64 (hL (Hunseat (pl row con) b h) (pl row con))))) ++ ((wU u (ah 0) (a0 0) (at9 0)) ++ ((wH g ah (Hunseat (pl row con) b h)) ++ ((wT g at9 (sg, (nI n))) ++ ((wK0 g a0 ak (nI (kOd od sz), nI (kSz sz))) ++ (wHs g ak (va_up hs (kJ od sz) h) 6)))))) else ((wO g o f) ++ ((wU u (ah 0) (a0 0) (at9 0)) ++ ((wH g ah h) ++ ((wT g at9 (sg, (nI n))) ++ ((wK0 g a0 ak ((nI od), (nI sz))) ++ (wHs g ak hs 6))))))) := by rw [if_neg h0]; exact hD
      exact k_iret hx hb hr hlocks rfl (by rw [h1]) hP hD hS (Nat.le_of_ble_eq_true rfl) (Nat.le_of_ble_eq_true rfl) dL_leave_18
    ·
      have h2 : (cdLeave h row con) = 2 := by have h9 := le_L_leave h row con; omega
      have hcl : s.vm.findClass "java/lang/IllegalStateException" = some ce.cls := by first | exact hcl | (rw [h2] at hcl; exact hcl)
      refine vx_catch (own := RL) (name := "java/lang/IllegalStateException") (E := "java/lang/IllegalStateException") hown [⟨0, 12, 15, 13⟩] ⟨0, 12, 19, 15⟩ [] hT (fun z hz => by cases List.mem_singleton.mp hz; exact Or.inr ⟨by decide, "java/lang/IndexOutOfBoundsException", lk13, hSt.2.2.1⟩) rfl (by decide) lk15 (va_Nw.use rfl hSt.2.1.2.1) hce hcv hcl ?_
      refine W.eq (g2 := F0 m 19 ls [.ref q9]) rfl ?_
      refine lv_astore (lv' := [(5, .ref q9), (0, .ref u), (1, .int row), (2, .int con), (3, .int (nI b)), (4, .ref o)]) hx hb dL_leave_19 hl (by decide) rfl (fun ls hl => ?_)
      refine lv_iconst (v := (nI 2)) hx hb dL_leave_21 (by decide) ?_
      have hP : va_P g.1 vwCl (if (cdLeave h row con) = 0 then ((wO g o (vp_updL f 0 (Int32.toInt64 (hL (Hunseat (pl row con) b h) (pl row con))))) ++ ((wU u (ah 0) (a0 0) (at9 0)) ++ ((wH g ah (Hunseat (pl row con) b h)) ++ ((wT g at9 (sg, (nI n))) ++ ((wK0 g a0 ak (nI (kOd od sz), nI (kSz sz))) ++ (wHs g ak (va_up hs (kJ od sz) h) 6)))))) else ((wO g o f) ++ ((wU u (ah 0) (a0 0) (at9 0)) ++ ((wH g ah h) ++ ((wT g at9 (sg, (nI n))) ++ ((wK0 g a0 ak ((nI od), (nI sz))) ++ (wHs g ak hs 6))))))) H := by rw [if_neg h0]; exact hP
      have hD : va_D A (if (cdLeave h row con) = 0 then ((wO g o (vp_updL f 0 (Int32.toInt64 (hL (Hunseat (pl row con) b h) (pl row con))))) ++ ((wU u (ah 0) (a0 0) (at9 0)) ++ ((wH g ah (Hunseat (pl row con) b h)) ++ ((wT g at9 (sg, (nI n))) ++ ((wK0 g a0 ak (nI (kOd od sz), nI (kSz sz))) ++ (wHs g ak (va_up hs (kJ od sz) h) 6)))))) else ((wO g o f) ++ ((wU u (ah 0) (a0 0) (at9 0)) ++ ((wH g ah h) ++ ((wT g at9 (sg, (nI n))) ++ ((wK0 g a0 ak ((nI od), (nI sz))) ++ (wHs g ak hs 6))))))) := by rw [if_neg h0]; exact hD
      exact k_iret hx hb hr hlocks rfl (by rw [h2]) hP hD hS (Nat.le_of_ble_eq_true rfl) (Nat.le_of_ble_eq_true rfl) dL_leave_22
  ·
    refine lv_i2l (v := (Int32.toInt64 (hL (Hunseat (pl row con) b h) (pl row con)))) hx hb dL_leave_10 rfl ?_
    refine k_last (f := f) (ws1 := ((wO g o (vp_updL f 0 (Int32.toInt64 (hL (Hunseat (pl row con) b h) (pl row con))))) ++ ((wU u (ah 0) (a0 0) (at9 0)) ++ ((wH g ah (Hunseat (pl row con) b h)) ++ ((wT g at9 (sg, (nI n))) ++ ((wK0 g a0 ak (nI (kOd od sz), nI (kSz sz))) ++ (wHs g ak (va_up hs (kJ od sz) h) 6))))))) hx hb hE hP hD hS 0 rfl 0 rfl (by decide) (by decide) rfl dL_leave_11 (fun H locs hP hD hS => ?_)
    refine lv_goto (tgt := 23) hx hb dL_leave_12 (by decide) ?_
    refine lv_iconst (v := (nI 0)) hx hb dL_leave_23 (by decide) ?_
    have hP : va_P g.1 vwCl (if (cdLeave h row con) = 0 then ((wO g o (vp_updL f 0 (Int32.toInt64 (hL (Hunseat (pl row con) b h) (pl row con))))) ++ ((wU u (ah 0) (a0 0) (at9 0)) ++ ((wH g ah (Hunseat (pl row con) b h)) ++ ((wT g at9 (sg, (nI n))) ++ ((wK0 g a0 ak (nI (kOd od sz), nI (kSz sz))) ++ (wHs g ak (va_up hs (kJ od sz) h) 6)))))) else ((wO g o f) ++ ((wU u (ah 0) (a0 0) (at9 0)) ++ ((wH g ah h) ++ ((wT g at9 (sg, (nI n))) ++ ((wK0 g a0 ak ((nI od), (nI sz))) ++ (wHs g ak hs 6))))))) H := by rw [if_pos h0]; exact hP
    have hD : va_D A (if (cdLeave h row con) = 0 then ((wO g o (vp_updL f 0 (Int32.toInt64 (hL (Hunseat (pl row con) b h) (pl row con))))) ++ ((wU u (ah 0) (a0 0) (at9 0)) ++ ((wH g ah (Hunseat (pl row con) b h)) ++ ((wT g at9 (sg, (nI n))) ++ ((wK0 g a0 ak (nI (kOd od sz), nI (kSz sz))) ++ (wHs g ak (va_up hs (kJ od sz) h) 6)))))) else ((wO g o f) ++ ((wU u (ah 0) (a0 0) (at9 0)) ++ ((wH g ah h) ++ ((wT g at9 (sg, (nI n))) ++ ((wK0 g a0 ak ((nI od), (nI sz))) ++ (wHs g ak hs 6))))))) := by rw [if_pos h0]; exact hD
    exact k_iret hx hb hr hlocks rfl (by rw [h0]) hP hD hS (Nat.le_of_ble_eq_true rfl) (Nat.le_of_ble_eq_true rfl) dL_leave_24
set_option maxHeartbeats 4000000 in
set_option maxRecDepth 100000 in
theorem c_L_listeners (l : Launch) (hfl : l.stackTraces = false) (g : kG) (sa : Nat → Nat) (u : Nat) (ah at9 a0 : Nat → Nat) (ak : Nat → Nat → Nat) (h : HSt) (sg : Nat → Int32) (n : Nat) (hn : n ≤ 60) (hch : Tok sg n) (od sz : Nat) (hod : od < 6) (hsz : sz ≤ 6) (hs : Nat → HSt) (hbo : Hbo h) (hbs : ∀ j, Hbo (hs j)) (o : Nat) (f : Nat → Int64) (row con : Int32) : KIX l yL_listeners wsL_listeners ({ frames := 8, cells := 2, slots := 12, locals := 132 }) g sa [.ref u, .int row, .int con, .ref o] ((wO g o f) ++ ((wU u (ah 0) (a0 0) (at9 0)) ++ ((wH g ah h) ++ ((wT g at9 (sg, (nI n))) ++ ((wK0 g a0 ak ((nI od), (nI sz))) ++ (wHs g ak hs 6)))))) (nI (cdPair row con)) (if (cdPair row con) = 0 then ((wO g o (vp_updL f 0 (Int32.toInt64 (hL h (pl row con))))) ++ ((wU u (ah 0) (a0 0) (at9 0)) ++ ((wH g ah h) ++ ((wT g at9 (sg, (nI n))) ++ ((wK0 g a0 ak ((nI od), (nI sz))) ++ (wHs g ak hs 6)))))) else ((wO g o f) ++ ((wU u (ah 0) (a0 0) (at9 0)) ++ ((wH g ah h) ++ ((wT g at9 (sg, (nI n))) ++ ((wK0 g a0 ak ((nI od), (nI sz))) ++ (wHs g ak hs 6))))))) 2 12 := by
  refine k_beginH (cc := cL_listeners) (maxL := 5) (ret := (some .int)) (hh := [(0, 10, 13, 13)]) (Qc := fun A => kQi g (nI (cdPair row con)) (if (cdPair row con) = 0 then ((wO g o (vp_updL f 0 (Int32.toInt64 (hL h (pl row con))))) ++ ((wU u (ah 0) (a0 0) (at9 0)) ++ ((wH g ah h) ++ ((wT g at9 (sg, (nI n))) ++ ((wK0 g a0 ak ((nI od), (nI sz))) ++ (wHs g ak hs 6)))))) else ((wO g o f) ++ ((wU u (ah 0) (a0 0) (at9 0)) ++ ((wH g ah h) ++ ((wT g at9 (sg, (nI n))) ++ ((wK0 g a0 ak ((nI od), (nI sz))) ++ (wHs g ak hs 6))))))) A) (by decide) rfl (Nat.le_of_ble_eq_true rfl) ?_
  intro p e s m below meth c A ls hF hr hlocks hT hE hSt hZ hP hD hS hA hl
  obtain ⟨hx, hb, hml, hown, hts⟩ := id hF
  have hown : s.vm.findClass RL = some m.cls := hown
  have hl : lv_has ls 5 [(0, .ref u), (1, .int row), (2, .int con), (3, .ref o)] := hl
  have lk13 : (Cond.classLink RL 13 "java/lang/IndexOutOfBoundsException").before _ s = true := hts _ (List.mem_of_getElem? (i := 1) rfl)
  refine lv_aload_n hx hb dL_listeners_0 rfl (lv_at hl 3 rfl) ?_
  refine lv_iconst (v := (nI 0)) hx hb dL_listeners_1 (by decide) ?_
  refine lv_aload_n hx hb dL_listeners_2 rfl (lv_at hl 0 rfl) ?_
  refine lv_iload_n hx hb dL_listeners_3 rfl (lv_at hl 1 rfl) ?_
  refine lv_iload_n hx hb dL_listeners_4 rfl (lv_at hl 2 rfl) ?_
  refine k_LVi (As := [.int row, .int con]) (r := (hL h (pl row con))) (ws1 := ((wO g o f) ++ ((wU u (ah 0) (a0 0) (at9 0)) ++ ((wH g ah h) ++ ((wT g at9 (sg, (nI n))) ++ ((wK0 g a0 ak ((nI od), (nI sz))) ++ (wHs g ak hs 6))))))) hF (c_X3_listeners l hfl g sa u ah at9 a0 ak h sg n hn hch od sz hod hsz hs hbo hbs row con) (cwV 2 hts gL_listeners_X3_listeners rfl rfl rfl (by decide +kernel) ⟨Nat.le_of_ble_eq_true rfl, Nat.le_of_ble_eq_true rfl⟩) hE hSt hZ hP hD hS hA List.perm_append_comm List.perm_append_comm 1 rfl rfl rfl rfl hl.1 rfl (Nat.le_of_ble_eq_true rfl) dL_listeners_5 ⟨Nat.le_of_ble_eq_true rfl, Nat.le_of_ble_eq_true rfl⟩ (fun ce q9 H locs h0 hP hD hS hce hcv hcl => ?_) (fun H locs h0 hP hD hS => ?_)
  ·
    have h1 : (cdPair row con) = 1 := by have h9 := le_L_listeners row con; omega
    have hcl : s.vm.findClass "java/lang/IndexOutOfBoundsException" = some ce.cls := by first | exact hcl | (rw [h1] at hcl; exact hcl)
    refine vx_catch (own := RL) (name := "java/lang/IndexOutOfBoundsException") (E := "java/lang/IndexOutOfBoundsException") hown [] ⟨0, 10, 13, 13⟩ [] hT (fun z hz => nomatch hz) rfl (by decide) lk13 (va_Nw.use rfl hSt.2.1.1) hce hcv hcl ?_
    refine W.eq (g2 := F0 m 13 ls [.ref q9]) rfl ?_
    refine lv_astore (lv' := [(4, .ref q9), (0, .ref u), (1, .int row), (2, .int con), (3, .ref o)]) hx hb dL_listeners_13 hl (by decide) rfl (fun ls hl => ?_)
    refine lv_iconst (v := (nI 1)) hx hb dL_listeners_15 (by decide) ?_
    have hP : va_P g.1 vwCl (if (cdPair row con) = 0 then ((wO g o (vp_updL f 0 (Int32.toInt64 (hL h (pl row con))))) ++ ((wU u (ah 0) (a0 0) (at9 0)) ++ ((wH g ah h) ++ ((wT g at9 (sg, (nI n))) ++ ((wK0 g a0 ak ((nI od), (nI sz))) ++ (wHs g ak hs 6)))))) else ((wO g o f) ++ ((wU u (ah 0) (a0 0) (at9 0)) ++ ((wH g ah h) ++ ((wT g at9 (sg, (nI n))) ++ ((wK0 g a0 ak ((nI od), (nI sz))) ++ (wHs g ak hs 6))))))) H := by rw [if_neg h0]; exact hP
    have hD : va_D A (if (cdPair row con) = 0 then ((wO g o (vp_updL f 0 (Int32.toInt64 (hL h (pl row con))))) ++ ((wU u (ah 0) (a0 0) (at9 0)) ++ ((wH g ah h) ++ ((wT g at9 (sg, (nI n))) ++ ((wK0 g a0 ak ((nI od), (nI sz))) ++ (wHs g ak hs 6)))))) else ((wO g o f) ++ ((wU u (ah 0) (a0 0) (at9 0)) ++ ((wH g ah h) ++ ((wT g at9 (sg, (nI n))) ++ ((wK0 g a0 ak ((nI od), (nI sz))) ++ (wHs g ak hs 6))))))) := by rw [if_neg h0]; exact hD
    exact k_iret hx hb hr hlocks rfl (by rw [h1]) hP hD hS (Nat.le_of_ble_eq_true rfl) (Nat.le_of_ble_eq_true rfl) dL_listeners_16
  ·
    refine lv_i2l (v := (Int32.toInt64 (hL h (pl row con)))) hx hb dL_listeners_8 rfl ?_
    refine k_last (f := f) (ws1 := ((wO g o (vp_updL f 0 (Int32.toInt64 (hL h (pl row con))))) ++ ((wU u (ah 0) (a0 0) (at9 0)) ++ ((wH g ah h) ++ ((wT g at9 (sg, (nI n))) ++ ((wK0 g a0 ak ((nI od), (nI sz))) ++ (wHs g ak hs 6))))))) hx hb hE hP hD hS 0 rfl 0 rfl (by decide) (by decide) rfl dL_listeners_9 (fun H locs hP hD hS => ?_)
    refine lv_goto (tgt := 17) hx hb dL_listeners_10 (by decide) ?_
    refine lv_iconst (v := (nI 0)) hx hb dL_listeners_17 (by decide) ?_
    have hP : va_P g.1 vwCl (if (cdPair row con) = 0 then ((wO g o (vp_updL f 0 (Int32.toInt64 (hL h (pl row con))))) ++ ((wU u (ah 0) (a0 0) (at9 0)) ++ ((wH g ah h) ++ ((wT g at9 (sg, (nI n))) ++ ((wK0 g a0 ak ((nI od), (nI sz))) ++ (wHs g ak hs 6)))))) else ((wO g o f) ++ ((wU u (ah 0) (a0 0) (at9 0)) ++ ((wH g ah h) ++ ((wT g at9 (sg, (nI n))) ++ ((wK0 g a0 ak ((nI od), (nI sz))) ++ (wHs g ak hs 6))))))) H := by rw [if_pos h0]; exact hP
    have hD : va_D A (if (cdPair row con) = 0 then ((wO g o (vp_updL f 0 (Int32.toInt64 (hL h (pl row con))))) ++ ((wU u (ah 0) (a0 0) (at9 0)) ++ ((wH g ah h) ++ ((wT g at9 (sg, (nI n))) ++ ((wK0 g a0 ak ((nI od), (nI sz))) ++ (wHs g ak hs 6)))))) else ((wO g o f) ++ ((wU u (ah 0) (a0 0) (at9 0)) ++ ((wH g ah h) ++ ((wT g at9 (sg, (nI n))) ++ ((wK0 g a0 ak ((nI od), (nI sz))) ++ (wHs g ak hs 6))))))) := by rw [if_pos h0]; exact hD
    exact k_iret hx hb hr hlocks rfl (by rw [h0]) hP hD hS (Nat.le_of_ble_eq_true rfl) (Nat.le_of_ble_eq_true rfl) dL_listeners_18
set_option maxHeartbeats 4000000 in
set_option maxRecDepth 100000 in
theorem c_L_rest (l : Launch) (hfl : l.stackTraces = false) (g : kG) (sa : Nat → Nat) (u : Nat) (ah at9 a0 : Nat → Nat) (ak : Nat → Nat → Nat) (h : HSt) (sg : Nat → Int32) (n : Nat) (hn : n ≤ 60) (hch : Tok sg n) (od sz : Nat) (hod : od < 6) (hsz : sz ≤ 6) (hs : Nat → HSt) (hbo : Hbo h) (hbs : ∀ j, Hbo (hs j)) (o : Nat) (f : Nat → Int64) (row con : Int32) : KIX l yL_rest wsL_rest ({ frames := 8, cells := 2, slots := 12, locals := 132 }) g sa [.ref u, .int row, .int con, .ref o] ((wO g o f) ++ ((wU u (ah 0) (a0 0) (at9 0)) ++ ((wH g ah h) ++ ((wT g at9 (sg, (nI n))) ++ ((wK0 g a0 ak ((nI od), (nI sz))) ++ (wHs g ak hs 6)))))) (nI (cdPair row con)) (if (cdPair row con) = 0 then ((wO g o (vp_updL f 0 (Int32.toInt64 (hR h (pl row con))))) ++ ((wU u (ah 0) (a0 0) (at9 0)) ++ ((wH g ah h) ++ ((wT g at9 (sg, (nI n))) ++ ((wK0 g a0 ak ((nI od), (nI sz))) ++ (wHs g ak hs 6)))))) else ((wO g o f) ++ ((wU u (ah 0) (a0 0) (at9 0)) ++ ((wH g ah h) ++ ((wT g at9 (sg, (nI n))) ++ ((wK0 g a0 ak ((nI od), (nI sz))) ++ (wHs g ak hs 6))))))) 2 12 := by
  refine k_beginH (cc := cL_rest) (maxL := 5) (ret := (some .int)) (hh := [(0, 10, 13, 13)]) (Qc := fun A => kQi g (nI (cdPair row con)) (if (cdPair row con) = 0 then ((wO g o (vp_updL f 0 (Int32.toInt64 (hR h (pl row con))))) ++ ((wU u (ah 0) (a0 0) (at9 0)) ++ ((wH g ah h) ++ ((wT g at9 (sg, (nI n))) ++ ((wK0 g a0 ak ((nI od), (nI sz))) ++ (wHs g ak hs 6)))))) else ((wO g o f) ++ ((wU u (ah 0) (a0 0) (at9 0)) ++ ((wH g ah h) ++ ((wT g at9 (sg, (nI n))) ++ ((wK0 g a0 ak ((nI od), (nI sz))) ++ (wHs g ak hs 6))))))) A) (by decide) rfl (Nat.le_of_ble_eq_true rfl) ?_
  intro p e s m below meth c A ls hF hr hlocks hT hE hSt hZ hP hD hS hA hl
  obtain ⟨hx, hb, hml, hown, hts⟩ := id hF
  have hown : s.vm.findClass RL = some m.cls := hown
  have hl : lv_has ls 5 [(0, .ref u), (1, .int row), (2, .int con), (3, .ref o)] := hl
  have lk13 : (Cond.classLink RL 13 "java/lang/IndexOutOfBoundsException").before _ s = true := hts _ (List.mem_of_getElem? (i := 1) rfl)
  refine lv_aload_n hx hb dL_rest_0 rfl (lv_at hl 3 rfl) ?_
  refine lv_iconst (v := (nI 0)) hx hb dL_rest_1 (by decide) ?_
  refine lv_aload_n hx hb dL_rest_2 rfl (lv_at hl 0 rfl) ?_
  refine lv_iload_n hx hb dL_rest_3 rfl (lv_at hl 1 rfl) ?_
  refine lv_iload_n hx hb dL_rest_4 rfl (lv_at hl 2 rfl) ?_
  refine k_LVi (As := [.int row, .int con]) (r := (hR h (pl row con))) (ws1 := ((wO g o f) ++ ((wU u (ah 0) (a0 0) (at9 0)) ++ ((wH g ah h) ++ ((wT g at9 (sg, (nI n))) ++ ((wK0 g a0 ak ((nI od), (nI sz))) ++ (wHs g ak hs 6))))))) hF (c_X3_rest l hfl g sa u ah at9 a0 ak h sg n hn hch od sz hod hsz hs hbo hbs row con) (cwV 2 hts gL_rest_X3_rest rfl rfl rfl (by decide +kernel) ⟨Nat.le_of_ble_eq_true rfl, Nat.le_of_ble_eq_true rfl⟩) hE hSt hZ hP hD hS hA List.perm_append_comm List.perm_append_comm 1 rfl rfl rfl rfl hl.1 rfl (Nat.le_of_ble_eq_true rfl) dL_rest_5 ⟨Nat.le_of_ble_eq_true rfl, Nat.le_of_ble_eq_true rfl⟩ (fun ce q9 H locs h0 hP hD hS hce hcv hcl => ?_) (fun H locs h0 hP hD hS => ?_)
  ·
    have h1 : (cdPair row con) = 1 := by have h9 := le_L_rest row con; omega
    have hcl : s.vm.findClass "java/lang/IndexOutOfBoundsException" = some ce.cls := by first | exact hcl | (rw [h1] at hcl; exact hcl)
    refine vx_catch (own := RL) (name := "java/lang/IndexOutOfBoundsException") (E := "java/lang/IndexOutOfBoundsException") hown [] ⟨0, 10, 13, 13⟩ [] hT (fun z hz => nomatch hz) rfl (by decide) lk13 (va_Nw.use rfl hSt.2.1.1) hce hcv hcl ?_
    refine W.eq (g2 := F0 m 13 ls [.ref q9]) rfl ?_
    refine lv_astore (lv' := [(4, .ref q9), (0, .ref u), (1, .int row), (2, .int con), (3, .ref o)]) hx hb dL_rest_13 hl (by decide) rfl (fun ls hl => ?_)
    refine lv_iconst (v := (nI 1)) hx hb dL_rest_15 (by decide) ?_
    have hP : va_P g.1 vwCl (if (cdPair row con) = 0 then ((wO g o (vp_updL f 0 (Int32.toInt64 (hR h (pl row con))))) ++ ((wU u (ah 0) (a0 0) (at9 0)) ++ ((wH g ah h) ++ ((wT g at9 (sg, (nI n))) ++ ((wK0 g a0 ak ((nI od), (nI sz))) ++ (wHs g ak hs 6)))))) else ((wO g o f) ++ ((wU u (ah 0) (a0 0) (at9 0)) ++ ((wH g ah h) ++ ((wT g at9 (sg, (nI n))) ++ ((wK0 g a0 ak ((nI od), (nI sz))) ++ (wHs g ak hs 6))))))) H := by rw [if_neg h0]; exact hP
    have hD : va_D A (if (cdPair row con) = 0 then ((wO g o (vp_updL f 0 (Int32.toInt64 (hR h (pl row con))))) ++ ((wU u (ah 0) (a0 0) (at9 0)) ++ ((wH g ah h) ++ ((wT g at9 (sg, (nI n))) ++ ((wK0 g a0 ak ((nI od), (nI sz))) ++ (wHs g ak hs 6)))))) else ((wO g o f) ++ ((wU u (ah 0) (a0 0) (at9 0)) ++ ((wH g ah h) ++ ((wT g at9 (sg, (nI n))) ++ ((wK0 g a0 ak ((nI od), (nI sz))) ++ (wHs g ak hs 6))))))) := by rw [if_neg h0]; exact hD
    exact k_iret hx hb hr hlocks rfl (by rw [h1]) hP hD hS (Nat.le_of_ble_eq_true rfl) (Nat.le_of_ble_eq_true rfl) dL_rest_16
  ·
    refine lv_i2l (v := (Int32.toInt64 (hR h (pl row con)))) hx hb dL_rest_8 rfl ?_
    refine k_last (f := f) (ws1 := ((wO g o (vp_updL f 0 (Int32.toInt64 (hR h (pl row con))))) ++ ((wU u (ah 0) (a0 0) (at9 0)) ++ ((wH g ah h) ++ ((wT g at9 (sg, (nI n))) ++ ((wK0 g a0 ak ((nI od), (nI sz))) ++ (wHs g ak hs 6))))))) hx hb hE hP hD hS 0 rfl 0 rfl (by decide) (by decide) rfl dL_rest_9 (fun H locs hP hD hS => ?_)
    refine lv_goto (tgt := 17) hx hb dL_rest_10 (by decide) ?_
    refine lv_iconst (v := (nI 0)) hx hb dL_rest_17 (by decide) ?_
    have hP : va_P g.1 vwCl (if (cdPair row con) = 0 then ((wO g o (vp_updL f 0 (Int32.toInt64 (hR h (pl row con))))) ++ ((wU u (ah 0) (a0 0) (at9 0)) ++ ((wH g ah h) ++ ((wT g at9 (sg, (nI n))) ++ ((wK0 g a0 ak ((nI od), (nI sz))) ++ (wHs g ak hs 6)))))) else ((wO g o f) ++ ((wU u (ah 0) (a0 0) (at9 0)) ++ ((wH g ah h) ++ ((wT g at9 (sg, (nI n))) ++ ((wK0 g a0 ak ((nI od), (nI sz))) ++ (wHs g ak hs 6))))))) H := by rw [if_pos h0]; exact hP
    have hD : va_D A (if (cdPair row con) = 0 then ((wO g o (vp_updL f 0 (Int32.toInt64 (hR h (pl row con))))) ++ ((wU u (ah 0) (a0 0) (at9 0)) ++ ((wH g ah h) ++ ((wT g at9 (sg, (nI n))) ++ ((wK0 g a0 ak ((nI od), (nI sz))) ++ (wHs g ak hs 6)))))) else ((wO g o f) ++ ((wU u (ah 0) (a0 0) (at9 0)) ++ ((wH g ah h) ++ ((wT g at9 (sg, (nI n))) ++ ((wK0 g a0 ak ((nI od), (nI sz))) ++ (wHs g ak hs 6))))))) := by rw [if_pos h0]; exact hD
    exact k_iret hx hb hr hlocks rfl (by rw [h0]) hP hD hS (Nat.le_of_ble_eq_true rfl) (Nat.le_of_ble_eq_true rfl) dL_rest_18
set_option maxHeartbeats 4000000 in
set_option maxRecDepth 100000 in
theorem c_L_minutesToFade (l : Launch) (hfl : l.stackTraces = false) (g : kG) (sa : Nat → Nat) (u : Nat) (ah at9 a0 : Nat → Nat) (ak : Nat → Nat → Nat) (h : HSt) (sg : Nat → Int32) (n : Nat) (hn : n ≤ 60) (hch : Tok sg n) (od sz : Nat) (hod : od < 6) (hsz : sz ≤ 6) (hs : Nat → HSt) (hbo : Hbo h) (hbs : ∀ j, Hbo (hs j)) (o : Nat) (f : Nat → Int64) (row con : Int32) : KIX l yL_minutesToFade wsL_minutesToFade ({ frames := 8, cells := 2, slots := 12, locals := 132 }) g sa [.ref u, .int row, .int con, .ref o] ((wO g o f) ++ ((wU u (ah 0) (a0 0) (at9 0)) ++ ((wH g ah h) ++ ((wT g at9 (sg, (nI n))) ++ ((wK0 g a0 ak ((nI od), (nI sz))) ++ (wHs g ak hs 6)))))) (nI (cdPair row con)) (if (cdPair row con) = 0 then ((wO g o (vp_updL f 0 (Int32.toInt64 (HfadesIn (pl row con) h)))) ++ ((wU u (ah 0) (a0 0) (at9 0)) ++ ((wH g ah h) ++ ((wT g at9 (sg, (nI n))) ++ ((wK0 g a0 ak ((nI od), (nI sz))) ++ (wHs g ak hs 6)))))) else ((wO g o f) ++ ((wU u (ah 0) (a0 0) (at9 0)) ++ ((wH g ah h) ++ ((wT g at9 (sg, (nI n))) ++ ((wK0 g a0 ak ((nI od), (nI sz))) ++ (wHs g ak hs 6))))))) 2 12 := by
  refine k_beginH (cc := cL_minutesToFade) (maxL := 5) (ret := (some .int)) (hh := [(0, 10, 13, 13)]) (Qc := fun A => kQi g (nI (cdPair row con)) (if (cdPair row con) = 0 then ((wO g o (vp_updL f 0 (Int32.toInt64 (HfadesIn (pl row con) h)))) ++ ((wU u (ah 0) (a0 0) (at9 0)) ++ ((wH g ah h) ++ ((wT g at9 (sg, (nI n))) ++ ((wK0 g a0 ak ((nI od), (nI sz))) ++ (wHs g ak hs 6)))))) else ((wO g o f) ++ ((wU u (ah 0) (a0 0) (at9 0)) ++ ((wH g ah h) ++ ((wT g at9 (sg, (nI n))) ++ ((wK0 g a0 ak ((nI od), (nI sz))) ++ (wHs g ak hs 6))))))) A) (by decide) rfl (Nat.le_of_ble_eq_true rfl) ?_
  intro p e s m below meth c A ls hF hr hlocks hT hE hSt hZ hP hD hS hA hl
  obtain ⟨hx, hb, hml, hown, hts⟩ := id hF
  have hown : s.vm.findClass RL = some m.cls := hown
  have hl : lv_has ls 5 [(0, .ref u), (1, .int row), (2, .int con), (3, .ref o)] := hl
  have lk13 : (Cond.classLink RL 13 "java/lang/IndexOutOfBoundsException").before _ s = true := hts _ (List.mem_of_getElem? (i := 1) rfl)
  refine lv_aload_n hx hb dL_minutesToFade_0 rfl (lv_at hl 3 rfl) ?_
  refine lv_iconst (v := (nI 0)) hx hb dL_minutesToFade_1 (by decide) ?_
  refine lv_aload_n hx hb dL_minutesToFade_2 rfl (lv_at hl 0 rfl) ?_
  refine lv_iload_n hx hb dL_minutesToFade_3 rfl (lv_at hl 1 rfl) ?_
  refine lv_iload_n hx hb dL_minutesToFade_4 rfl (lv_at hl 2 rfl) ?_
  refine k_LVi (As := [.int row, .int con]) (r := (HfadesIn (pl row con) h)) (ws1 := ((wO g o f) ++ ((wU u (ah 0) (a0 0) (at9 0)) ++ ((wH g ah h) ++ ((wT g at9 (sg, (nI n))) ++ ((wK0 g a0 ak ((nI od), (nI sz))) ++ (wHs g ak hs 6))))))) hF (c_X3_minutesToFade l hfl g sa u ah at9 a0 ak h sg n hn hch od sz hod hsz hs hbo hbs row con) (cwV 2 hts gL_minutesToFade_X3_minutesToFade rfl rfl rfl (by decide +kernel) ⟨Nat.le_of_ble_eq_true rfl, Nat.le_of_ble_eq_true rfl⟩) hE hSt hZ hP hD hS hA List.perm_append_comm List.perm_append_comm 1 rfl rfl rfl rfl hl.1 rfl (Nat.le_of_ble_eq_true rfl) dL_minutesToFade_5 ⟨Nat.le_of_ble_eq_true rfl, Nat.le_of_ble_eq_true rfl⟩ (fun ce q9 H locs h0 hP hD hS hce hcv hcl => ?_) (fun H locs h0 hP hD hS => ?_)
  ·
    have h1 : (cdPair row con) = 1 := by have h9 := le_L_minutesToFade row con; omega
    have hcl : s.vm.findClass "java/lang/IndexOutOfBoundsException" = some ce.cls := by first | exact hcl | (rw [h1] at hcl; exact hcl)
    refine vx_catch (own := RL) (name := "java/lang/IndexOutOfBoundsException") (E := "java/lang/IndexOutOfBoundsException") hown [] ⟨0, 10, 13, 13⟩ [] hT (fun z hz => nomatch hz) rfl (by decide) lk13 (va_Nw.use rfl hSt.2.1.1) hce hcv hcl ?_
    refine W.eq (g2 := F0 m 13 ls [.ref q9]) rfl ?_
    refine lv_astore (lv' := [(4, .ref q9), (0, .ref u), (1, .int row), (2, .int con), (3, .ref o)]) hx hb dL_minutesToFade_13 hl (by decide) rfl (fun ls hl => ?_)
    refine lv_iconst (v := (nI 1)) hx hb dL_minutesToFade_15 (by decide) ?_
    have hP : va_P g.1 vwCl (if (cdPair row con) = 0 then ((wO g o (vp_updL f 0 (Int32.toInt64 (HfadesIn (pl row con) h)))) ++ ((wU u (ah 0) (a0 0) (at9 0)) ++ ((wH g ah h) ++ ((wT g at9 (sg, (nI n))) ++ ((wK0 g a0 ak ((nI od), (nI sz))) ++ (wHs g ak hs 6)))))) else ((wO g o f) ++ ((wU u (ah 0) (a0 0) (at9 0)) ++ ((wH g ah h) ++ ((wT g at9 (sg, (nI n))) ++ ((wK0 g a0 ak ((nI od), (nI sz))) ++ (wHs g ak hs 6))))))) H := by rw [if_neg h0]; exact hP
    have hD : va_D A (if (cdPair row con) = 0 then ((wO g o (vp_updL f 0 (Int32.toInt64 (HfadesIn (pl row con) h)))) ++ ((wU u (ah 0) (a0 0) (at9 0)) ++ ((wH g ah h) ++ ((wT g at9 (sg, (nI n))) ++ ((wK0 g a0 ak ((nI od), (nI sz))) ++ (wHs g ak hs 6)))))) else ((wO g o f) ++ ((wU u (ah 0) (a0 0) (at9 0)) ++ ((wH g ah h) ++ ((wT g at9 (sg, (nI n))) ++ ((wK0 g a0 ak ((nI od), (nI sz))) ++ (wHs g ak hs 6))))))) := by rw [if_neg h0]; exact hD
    exact k_iret hx hb hr hlocks rfl (by rw [h1]) hP hD hS (Nat.le_of_ble_eq_true rfl) (Nat.le_of_ble_eq_true rfl) dL_minutesToFade_16
  ·
    refine lv_i2l (v := (Int32.toInt64 (HfadesIn (pl row con) h))) hx hb dL_minutesToFade_8 rfl ?_
    refine k_last (f := f) (ws1 := ((wO g o (vp_updL f 0 (Int32.toInt64 (HfadesIn (pl row con) h)))) ++ ((wU u (ah 0) (a0 0) (at9 0)) ++ ((wH g ah h) ++ ((wT g at9 (sg, (nI n))) ++ ((wK0 g a0 ak ((nI od), (nI sz))) ++ (wHs g ak hs 6))))))) hx hb hE hP hD hS 0 rfl 0 rfl (by decide) (by decide) rfl dL_minutesToFade_9 (fun H locs hP hD hS => ?_)
    refine lv_goto (tgt := 17) hx hb dL_minutesToFade_10 (by decide) ?_
    refine lv_iconst (v := (nI 0)) hx hb dL_minutesToFade_17 (by decide) ?_
    have hP : va_P g.1 vwCl (if (cdPair row con) = 0 then ((wO g o (vp_updL f 0 (Int32.toInt64 (HfadesIn (pl row con) h)))) ++ ((wU u (ah 0) (a0 0) (at9 0)) ++ ((wH g ah h) ++ ((wT g at9 (sg, (nI n))) ++ ((wK0 g a0 ak ((nI od), (nI sz))) ++ (wHs g ak hs 6)))))) else ((wO g o f) ++ ((wU u (ah 0) (a0 0) (at9 0)) ++ ((wH g ah h) ++ ((wT g at9 (sg, (nI n))) ++ ((wK0 g a0 ak ((nI od), (nI sz))) ++ (wHs g ak hs 6))))))) H := by rw [if_pos h0]; exact hP
    have hD : va_D A (if (cdPair row con) = 0 then ((wO g o (vp_updL f 0 (Int32.toInt64 (HfadesIn (pl row con) h)))) ++ ((wU u (ah 0) (a0 0) (at9 0)) ++ ((wH g ah h) ++ ((wT g at9 (sg, (nI n))) ++ ((wK0 g a0 ak ((nI od), (nI sz))) ++ (wHs g ak hs 6)))))) else ((wO g o f) ++ ((wU u (ah 0) (a0 0) (at9 0)) ++ ((wH g ah h) ++ ((wT g at9 (sg, (nI n))) ++ ((wK0 g a0 ak ((nI od), (nI sz))) ++ (wHs g ak hs 6))))))) := by rw [if_pos h0]; exact hD
    exact k_iret hx hb hr hlocks rfl (by rw [h0]) hP hD hS (Nat.le_of_ble_eq_true rfl) (Nat.le_of_ble_eq_true rfl) dL_minutesToFade_18
