set_option maxHeartbeats 4000000 in
set_option maxRecDepth 100000 in
theorem c_L_setOpen (l : Launch) (hfl : l.stackTraces = false) (g : kG) (sa : Nat → Nat) (u : Nat) (ah at9 a0 : Nat → Nat) (ak : Nat → Nat → Nat) (h : HSt) (sg : Nat → Int32) (n : Nat) (hn : n ≤ 60) (hch : Tok sg n) (od sz : Nat) (hod : od < 6) (hsz : sz ≤ 6) (hs : Nat → HSt) (hbo : Hbo h) (hbs : ∀ j, Hbo (hs j)) (o : Nat) (f : Nat → Int64) (row : Int32) (b : Nat) (hb2 : b < 2) : KIX l yL_setOpen wsL_setOpen ({ frames := 8, cells := 1, slots := 6, locals := 133 }) g sa [.ref u, .int row, .int (nI b), .ref o] ((wO g o f) ++ ((wU u (ah 0) (a0 0) (at9 0)) ++ ((wH g ah h) ++ ((wT g at9 (sg, (nI n))) ++ ((wK0 g a0 ak ((nI od), (nI sz))) ++ (wHs g ak hs 6)))))) (nI (ckR row)) (if (ckR row) = 0 then ((wO g o (vp_updL f 0 (bL (Hopen h row.toNatClampNeg)))) ++ ((wU u (ah 0) (a0 0) (at9 0)) ++ ((wH g ah (UOpen row b h)) ++ ((wT g at9 (sg, (nI n))) ++ ((wK0 g a0 ak (nI (kOd od sz), nI (kSz sz))) ++ (wHs g ak (va_up hs (kJ od sz) h) 6)))))) else ((wO g o f) ++ ((wU u (ah 0) (a0 0) (at9 0)) ++ ((wH g ah h) ++ ((wT g at9 (sg, (nI n))) ++ ((wK0 g a0 ak ((nI od), (nI sz))) ++ (wHs g ak hs 6))))))) 1 6 := by
  refine k_beginH (cc := cL_setOpen) (maxL := 5) (ret := (some .int)) (hh := [(0, 17, 20, 13)]) (Qc := fun A => kQi g (nI (ckR row)) (if (ckR row) = 0 then ((wO g o (vp_updL f 0 (bL (Hopen h row.toNatClampNeg)))) ++ ((wU u (ah 0) (a0 0) (at9 0)) ++ ((wH g ah (UOpen row b h)) ++ ((wT g at9 (sg, (nI n))) ++ ((wK0 g a0 ak (nI (kOd od sz), nI (kSz sz))) ++ (wHs g ak (va_up hs (kJ od sz) h) 6)))))) else ((wO g o f) ++ ((wU u (ah 0) (a0 0) (at9 0)) ++ ((wH g ah h) ++ ((wT g at9 (sg, (nI n))) ++ ((wK0 g a0 ak ((nI od), (nI sz))) ++ (wHs g ak hs 6))))))) A) (by decide) rfl (Nat.le_of_ble_eq_true rfl) ?_
  intro p e s m below meth c A ls hF hr hlocks hT hE hSt hZ hP hD hS hA hl
  obtain ⟨hx, hb, hml, hown, hts⟩ := id hF
  have hown : s.vm.findClass RL = some m.cls := hown
  have hl : lv_has ls 5 [(0, .ref u), (1, .int row), (2, .int (nI b)), (3, .ref o)] := hl
  have lk13 : (Cond.classLink RL 13 "java/lang/IndexOutOfBoundsException").before _ s = true := hts _ (List.mem_of_getElem? (i := 1) rfl)
  refine lv_aload_n hx hb dL_setOpen_0 rfl (lv_at hl 3 rfl) ?_
  refine lv_iconst (v := (nI 0)) hx hb dL_setOpen_1 (by decide) ?_
  refine lv_aload_n hx hb dL_setOpen_2 rfl (lv_at hl 0 rfl) ?_
  refine lv_iload_n hx hb dL_setOpen_3 rfl (lv_at hl 1 rfl) ?_
  refine lv_iload_n hx hb dL_setOpen_4 rfl (lv_at hl 2 rfl) ?_
  refine k_LVi (As := [.int row, .int (nI b)]) (r := (bI (Hopen h row.toNatClampNeg))) (ws1 := ((wO g o f) ++ ((wU u (ah 0) (a0 0) (at9 0)) ++ ((wH g ah (UOpen row b h)) ++ ((wT g at9 (sg, (nI n))) ++ ((wK0 g a0 ak (nI (kOd od sz), nI (kSz sz))) ++ (wHs g ak (va_up hs (kJ od sz) h) 6))))))) hF (c_X3_setOpen l hfl g sa u ah at9 a0 ak h sg n hn hch od sz hod hsz hs hbo hbs row b hb2) (cwV 2 hts gL_setOpen_X3_setOpen rfl rfl rfl (by decide +kernel) ⟨Nat.le_of_ble_eq_true rfl, Nat.le_of_ble_eq_true rfl⟩) hE hSt hZ hP hD hS hA List.perm_append_comm List.perm_append_comm 1 rfl rfl rfl rfl hl.1 rfl (Nat.le_of_ble_eq_true rfl) dL_setOpen_5 ⟨Nat.le_of_ble_eq_true rfl, Nat.le_of_ble_eq_true rfl⟩ (fun ce q9 H locs h0 hP hD hS hce hcv hcl => ?_) (fun H locs h0 hP hD hS => ?_)
  ·
    have h1 : (ckR row) = 1 := by have h9 := le_L_setOpen row; omega
    have hcl : s.vm.findClass "java/lang/IndexOutOfBoundsException" = some ce.cls := by first | exact hcl | (rw [h1] at hcl; exact hcl)
    refine vx_catch (own := RL) (name := "java/lang/IndexOutOfBoundsException") (E := "java/lang/IndexOutOfBoundsException") hown [] ⟨0, 17, 20, 13⟩ [] hT (fun z hz => nomatch hz) rfl (by decide) lk13 (va_Nw.use rfl hSt.2.1.1) hce hcv hcl ?_
    refine W.eq (g2 := F0 m 20 ls [.ref q9]) rfl ?_
    refine lv_astore (lv' := [(4, .ref q9), (0, .ref u), (1, .int row), (2, .int (nI b)), (3, .ref o)]) hx hb dL_setOpen_20 hl (by decide) rfl (fun ls hl => ?_)
    refine lv_iconst (v := (nI 1)) hx hb dL_setOpen_22 (by decide) ?_
    have hP : va_P g.1 vwCl (if (ckR row) = 0 then ((wO g o (vp_updL f 0 (bL (Hopen h row.toNatClampNeg)))) ++ ((wU u (ah 0) (a0 0) (at9 0)) ++ ((wH g ah (UOpen row b h)) ++ ((wT g at9 (sg, (nI n))) ++ ((wK0 g a0 ak (nI (kOd od sz), nI (kSz sz))) ++ (wHs g ak (va_up hs (kJ od sz) h) 6)))))) else ((wO g o f) ++ ((wU u (ah 0) (a0 0) (at9 0)) ++ ((wH g ah h) ++ ((wT g at9 (sg, (nI n))) ++ ((wK0 g a0 ak ((nI od), (nI sz))) ++ (wHs g ak hs 6))))))) H := by rw [if_neg h0]; exact hP
    have hD : va_D A (if (ckR row) = 0 then ((wO g o (vp_updL f 0 (bL (Hopen h row.toNatClampNeg)))) ++ ((wU u (ah 0) (a0 0) (at9 0)) ++ ((wH g ah (UOpen row b h)) ++ ((wT g at9 (sg, (nI n))) ++ ((wK0 g a0 ak (nI (kOd od sz), nI (kSz sz))) ++ (wHs g ak (va_up hs (kJ od sz) h) 6)))))) else ((wO g o f) ++ ((wU u (ah 0) (a0 0) (at9 0)) ++ ((wH g ah h) ++ ((wT g at9 (sg, (nI n))) ++ ((wK0 g a0 ak ((nI od), (nI sz))) ++ (wHs g ak hs 6))))))) := by rw [if_neg h0]; exact hD
    exact k_iret hx hb hr hlocks rfl (by rw [h1]) hP hD hS (Nat.le_of_ble_eq_true rfl) (Nat.le_of_ble_eq_true rfl) dL_setOpen_23
  ·
    refine k_ifeqB (tgt := 15) hx hb dL_setOpen_8 (by decide) (fun c1 => ?_) (fun c1 => ?_)
    ·
      refine lv_lconst (v := 0) hx hb dL_setOpen_15 (by decide) ?_
      refine k_last (f := f) (ws1 := ((wO g o (vp_updL f 0 0)) ++ ((wU u (ah 0) (a0 0) (at9 0)) ++ ((wH g ah (UOpen row b h)) ++ ((wT g at9 (sg, (nI n))) ++ ((wK0 g a0 ak (nI (kOd od sz), nI (kSz sz))) ++ (wHs g ak (va_up hs (kJ od sz) h) 6))))))) hx hb hE hP hD hS 0 rfl 0 rfl (by decide) (by decide) rfl dL_setOpen_16 (fun H locs hP hD hS => ?_)
      refine lv_goto (tgt := 24) hx hb dL_setOpen_17 (by decide) ?_
      refine lv_iconst (v := (nI 0)) hx hb dL_setOpen_24 (by decide) ?_
      have hP : va_P g.1 vwCl (if (ckR row) = 0 then ((wO g o (vp_updL f 0 (bL (Hopen h row.toNatClampNeg)))) ++ ((wU u (ah 0) (a0 0) (at9 0)) ++ ((wH g ah (UOpen row b h)) ++ ((wT g at9 (sg, (nI n))) ++ ((wK0 g a0 ak (nI (kOd od sz), nI (kSz sz))) ++ (wHs g ak (va_up hs (kJ od sz) h) 6)))))) else ((wO g o f) ++ ((wU u (ah 0) (a0 0) (at9 0)) ++ ((wH g ah h) ++ ((wT g at9 (sg, (nI n))) ++ ((wK0 g a0 ak ((nI od), (nI sz))) ++ (wHs g ak hs 6))))))) H := by rw [if_pos h0, bL_f c1]; exact hP
      have hD : va_D A (if (ckR row) = 0 then ((wO g o (vp_updL f 0 (bL (Hopen h row.toNatClampNeg)))) ++ ((wU u (ah 0) (a0 0) (at9 0)) ++ ((wH g ah (UOpen row b h)) ++ ((wT g at9 (sg, (nI n))) ++ ((wK0 g a0 ak (nI (kOd od sz), nI (kSz sz))) ++ (wHs g ak (va_up hs (kJ od sz) h) 6)))))) else ((wO g o f) ++ ((wU u (ah 0) (a0 0) (at9 0)) ++ ((wH g ah h) ++ ((wT g at9 (sg, (nI n))) ++ ((wK0 g a0 ak ((nI od), (nI sz))) ++ (wHs g ak hs 6))))))) := by rw [if_pos h0, bL_f c1]; exact hD
      exact k_iret hx hb hr hlocks rfl (by rw [h0]) hP hD hS (Nat.le_of_ble_eq_true rfl) (Nat.le_of_ble_eq_true rfl) dL_setOpen_25
    ·
      refine lv_lconst (v := 1) hx hb dL_setOpen_11 (by decide) ?_
      refine lv_goto (tgt := 16) hx hb dL_setOpen_12 (by decide) ?_
      refine k_last (f := f) (ws1 := ((wO g o (vp_updL f 0 1)) ++ ((wU u (ah 0) (a0 0) (at9 0)) ++ ((wH g ah (UOpen row b h)) ++ ((wT g at9 (sg, (nI n))) ++ ((wK0 g a0 ak (nI (kOd od sz), nI (kSz sz))) ++ (wHs g ak (va_up hs (kJ od sz) h) 6))))))) hx hb hE hP hD hS 0 rfl 0 rfl (by decide) (by decide) rfl dL_setOpen_16 (fun H locs hP hD hS => ?_)
      refine lv_goto (tgt := 24) hx hb dL_setOpen_17 (by decide) ?_
      refine lv_iconst (v := (nI 0)) hx hb dL_setOpen_24 (by decide) ?_
      have hP : va_P g.1 vwCl (if (ckR row) = 0 then ((wO g o (vp_updL f 0 (bL (Hopen h row.toNatClampNeg)))) ++ ((wU u (ah 0) (a0 0) (at9 0)) ++ ((wH g ah (UOpen row b h)) ++ ((wT g at9 (sg, (nI n))) ++ ((wK0 g a0 ak (nI (kOd od sz), nI (kSz sz))) ++ (wHs g ak (va_up hs (kJ od sz) h) 6)))))) else ((wO g o f) ++ ((wU u (ah 0) (a0 0) (at9 0)) ++ ((wH g ah h) ++ ((wT g at9 (sg, (nI n))) ++ ((wK0 g a0 ak ((nI od), (nI sz))) ++ (wHs g ak hs 6))))))) H := by rw [if_pos h0, bL_t c1]; exact hP
      have hD : va_D A (if (ckR row) = 0 then ((wO g o (vp_updL f 0 (bL (Hopen h row.toNatClampNeg)))) ++ ((wU u (ah 0) (a0 0) (at9 0)) ++ ((wH g ah (UOpen row b h)) ++ ((wT g at9 (sg, (nI n))) ++ ((wK0 g a0 ak (nI (kOd od sz), nI (kSz sz))) ++ (wHs g ak (va_up hs (kJ od sz) h) 6)))))) else ((wO g o f) ++ ((wU u (ah 0) (a0 0) (at9 0)) ++ ((wH g ah h) ++ ((wT g at9 (sg, (nI n))) ++ ((wK0 g a0 ak ((nI od), (nI sz))) ++ (wHs g ak hs 6))))))) := by rw [if_pos h0, bL_t c1]; exact hD
      exact k_iret hx hb hr hlocks rfl (by rw [h0]) hP hD hS (Nat.le_of_ble_eq_true rfl) (Nat.le_of_ble_eq_true rfl) dL_setOpen_25
set_option maxHeartbeats 4000000 in
set_option maxRecDepth 100000 in
theorem c_L_isOpen (l : Launch) (hfl : l.stackTraces = false) (g : kG) (sa : Nat → Nat) (u : Nat) (ah at9 a0 : Nat → Nat) (ak : Nat → Nat → Nat) (h : HSt) (sg : Nat → Int32) (n : Nat) (hn : n ≤ 60) (hch : Tok sg n) (od sz : Nat) (hod : od < 6) (hsz : sz ≤ 6) (hs : Nat → HSt) (hbo : Hbo h) (hbs : ∀ j, Hbo (hs j)) (o : Nat) (f : Nat → Int64) (row : Int32) : KIX l yL_isOpen wsL_isOpen ({ frames := 8, cells := 1, slots := 6, locals := 131 }) g sa [.ref u, .int row, .ref o] ((wO g o f) ++ ((wU u (ah 0) (a0 0) (at9 0)) ++ ((wH g ah h) ++ ((wT g at9 (sg, (nI n))) ++ ((wK0 g a0 ak ((nI od), (nI sz))) ++ (wHs g ak hs 6)))))) (nI (ckR row)) (if (ckR row) = 0 then ((wO g o (vp_updL f 0 (bL (Hopen h row.toNatClampNeg)))) ++ ((wU u (ah 0) (a0 0) (at9 0)) ++ ((wH g ah h) ++ ((wT g at9 (sg, (nI n))) ++ ((wK0 g a0 ak ((nI od), (nI sz))) ++ (wHs g ak hs 6)))))) else ((wO g o f) ++ ((wU u (ah 0) (a0 0) (at9 0)) ++ ((wH g ah h) ++ ((wT g at9 (sg, (nI n))) ++ ((wK0 g a0 ak ((nI od), (nI sz))) ++ (wHs g ak hs 6))))))) 1 6 := by
  refine k_beginH (cc := cL_isOpen) (maxL := 4) (ret := (some .int)) (hh := [(0, 16, 19, 13)]) (Qc := fun A => kQi g (nI (ckR row)) (if (ckR row) = 0 then ((wO g o (vp_updL f 0 (bL (Hopen h row.toNatClampNeg)))) ++ ((wU u (ah 0) (a0 0) (at9 0)) ++ ((wH g ah h) ++ ((wT g at9 (sg, (nI n))) ++ ((wK0 g a0 ak ((nI od), (nI sz))) ++ (wHs g ak hs 6)))))) else ((wO g o f) ++ ((wU u (ah 0) (a0 0) (at9 0)) ++ ((wH g ah h) ++ ((wT g at9 (sg, (nI n))) ++ ((wK0 g a0 ak ((nI od), (nI sz))) ++ (wHs g ak hs 6))))))) A) (by decide) rfl (Nat.le_of_ble_eq_true rfl) ?_
  intro p e s m below meth c A ls hF hr hlocks hT hE hSt hZ hP hD hS hA hl
  obtain ⟨hx, hb, hml, hown, hts⟩ := id hF
  have hown : s.vm.findClass RL = some m.cls := hown
  have hl : lv_has ls 4 [(0, .ref u), (1, .int row), (2, .ref o)] := hl
  have lk13 : (Cond.classLink RL 13 "java/lang/IndexOutOfBoundsException").before _ s = true := hts _ (List.mem_of_getElem? (i := 1) rfl)
  refine lv_aload_n hx hb dL_isOpen_0 rfl (lv_at hl 2 rfl) ?_
  refine lv_iconst (v := (nI 0)) hx hb dL_isOpen_1 (by decide) ?_
  refine lv_aload_n hx hb dL_isOpen_2 rfl (lv_at hl 0 rfl) ?_
  refine lv_iload_n hx hb dL_isOpen_3 rfl (lv_at hl 1 rfl) ?_
  refine k_LVi (As := [.int row]) (r := (bI (Hopen h row.toNatClampNeg))) (ws1 := ((wO g o f) ++ ((wU u (ah 0) (a0 0) (at9 0)) ++ ((wH g ah h) ++ ((wT g at9 (sg, (nI n))) ++ ((wK0 g a0 ak ((nI od), (nI sz))) ++ (wHs g ak hs 6))))))) hF (c_X3_isOpen l hfl g sa u ah at9 a0 ak h sg n hn hch od sz hod hsz hs hbo hbs row) (cwV 1 hts gL_isOpen_X3_isOpen rfl rfl rfl (by decide +kernel) ⟨Nat.le_of_ble_eq_true rfl, Nat.le_of_ble_eq_true rfl⟩) hE hSt hZ hP hD hS hA List.perm_append_comm List.perm_append_comm 1 rfl rfl rfl rfl hl.1 rfl (Nat.le_of_ble_eq_true rfl) dL_isOpen_4 ⟨Nat.le_of_ble_eq_true rfl, Nat.le_of_ble_eq_true rfl⟩ (fun ce q9 H locs h0 hP hD hS hce hcv hcl => ?_) (fun H locs h0 hP hD hS => ?_)
  ·
    have h1 : (ckR row) = 1 := by have h9 := le_L_isOpen row; omega
    have hcl : s.vm.findClass "java/lang/IndexOutOfBoundsException" = some ce.cls := by first | exact hcl | (rw [h1] at hcl; exact hcl)
    refine vx_catch (own := RL) (name := "java/lang/IndexOutOfBoundsException") (E := "java/lang/IndexOutOfBoundsException") hown [] ⟨0, 16, 19, 13⟩ [] hT (fun z hz => nomatch hz) rfl (by decide) lk13 (va_Nw.use rfl hSt.2.1.1) hce hcv hcl ?_
    refine W.eq (g2 := F0 m 19 ls [.ref q9]) rfl ?_
    refine lv_astore_n (lv' := [(3, .ref q9), (0, .ref u), (1, .int row), (2, .ref o)]) hx hb dL_isOpen_19 rfl hl (by decide) rfl (fun ls hl => ?_)
    refine lv_iconst (v := (nI 1)) hx hb dL_isOpen_20 (by decide) ?_
    have hP : va_P g.1 vwCl (if (ckR row) = 0 then ((wO g o (vp_updL f 0 (bL (Hopen h row.toNatClampNeg)))) ++ ((wU u (ah 0) (a0 0) (at9 0)) ++ ((wH g ah h) ++ ((wT g at9 (sg, (nI n))) ++ ((wK0 g a0 ak ((nI od), (nI sz))) ++ (wHs g ak hs 6)))))) else ((wO g o f) ++ ((wU u (ah 0) (a0 0) (at9 0)) ++ ((wH g ah h) ++ ((wT g at9 (sg, (nI n))) ++ ((wK0 g a0 ak ((nI od), (nI sz))) ++ (wHs g ak hs 6))))))) H := by rw [if_neg h0]; exact hP
    have hD : va_D A (if (ckR row) = 0 then ((wO g o (vp_updL f 0 (bL (Hopen h row.toNatClampNeg)))) ++ ((wU u (ah 0) (a0 0) (at9 0)) ++ ((wH g ah h) ++ ((wT g at9 (sg, (nI n))) ++ ((wK0 g a0 ak ((nI od), (nI sz))) ++ (wHs g ak hs 6)))))) else ((wO g o f) ++ ((wU u (ah 0) (a0 0) (at9 0)) ++ ((wH g ah h) ++ ((wT g at9 (sg, (nI n))) ++ ((wK0 g a0 ak ((nI od), (nI sz))) ++ (wHs g ak hs 6))))))) := by rw [if_neg h0]; exact hD
    exact k_iret hx hb hr hlocks rfl (by rw [h1]) hP hD hS (Nat.le_of_ble_eq_true rfl) (Nat.le_of_ble_eq_true rfl) dL_isOpen_21
  ·
    refine k_ifeqB (tgt := 14) hx hb dL_isOpen_7 (by decide) (fun c1 => ?_) (fun c1 => ?_)
    ·
      refine lv_lconst (v := 0) hx hb dL_isOpen_14 (by decide) ?_
      refine k_last (f := f) (ws1 := ((wO g o (vp_updL f 0 0)) ++ ((wU u (ah 0) (a0 0) (at9 0)) ++ ((wH g ah h) ++ ((wT g at9 (sg, (nI n))) ++ ((wK0 g a0 ak ((nI od), (nI sz))) ++ (wHs g ak hs 6))))))) hx hb hE hP hD hS 0 rfl 0 rfl (by decide) (by decide) rfl dL_isOpen_15 (fun H locs hP hD hS => ?_)
      refine lv_goto (tgt := 22) hx hb dL_isOpen_16 (by decide) ?_
      refine lv_iconst (v := (nI 0)) hx hb dL_isOpen_22 (by decide) ?_
      have hP : va_P g.1 vwCl (if (ckR row) = 0 then ((wO g o (vp_updL f 0 (bL (Hopen h row.toNatClampNeg)))) ++ ((wU u (ah 0) (a0 0) (at9 0)) ++ ((wH g ah h) ++ ((wT g at9 (sg, (nI n))) ++ ((wK0 g a0 ak ((nI od), (nI sz))) ++ (wHs g ak hs 6)))))) else ((wO g o f) ++ ((wU u (ah 0) (a0 0) (at9 0)) ++ ((wH g ah h) ++ ((wT g at9 (sg, (nI n))) ++ ((wK0 g a0 ak ((nI od), (nI sz))) ++ (wHs g ak hs 6))))))) H := by rw [if_pos h0, bL_f c1]; exact hP
      have hD : va_D A (if (ckR row) = 0 then ((wO g o (vp_updL f 0 (bL (Hopen h row.toNatClampNeg)))) ++ ((wU u (ah 0) (a0 0) (at9 0)) ++ ((wH g ah h) ++ ((wT g at9 (sg, (nI n))) ++ ((wK0 g a0 ak ((nI od), (nI sz))) ++ (wHs g ak hs 6)))))) else ((wO g o f) ++ ((wU u (ah 0) (a0 0) (at9 0)) ++ ((wH g ah h) ++ ((wT g at9 (sg, (nI n))) ++ ((wK0 g a0 ak ((nI od), (nI sz))) ++ (wHs g ak hs 6))))))) := by rw [if_pos h0, bL_f c1]; exact hD
      exact k_iret hx hb hr hlocks rfl (by rw [h0]) hP hD hS (Nat.le_of_ble_eq_true rfl) (Nat.le_of_ble_eq_true rfl) dL_isOpen_23
    ·
      refine lv_lconst (v := 1) hx hb dL_isOpen_10 (by decide) ?_
      refine lv_goto (tgt := 15) hx hb dL_isOpen_11 (by decide) ?_
      refine k_last (f := f) (ws1 := ((wO g o (vp_updL f 0 1)) ++ ((wU u (ah 0) (a0 0) (at9 0)) ++ ((wH g ah h) ++ ((wT g at9 (sg, (nI n))) ++ ((wK0 g a0 ak ((nI od), (nI sz))) ++ (wHs g ak hs 6))))))) hx hb hE hP hD hS 0 rfl 0 rfl (by decide) (by decide) rfl dL_isOpen_15 (fun H locs hP hD hS => ?_)
      refine lv_goto (tgt := 22) hx hb dL_isOpen_16 (by decide) ?_
      refine lv_iconst (v := (nI 0)) hx hb dL_isOpen_22 (by decide) ?_
      have hP : va_P g.1 vwCl (if (ckR row) = 0 then ((wO g o (vp_updL f 0 (bL (Hopen h row.toNatClampNeg)))) ++ ((wU u (ah 0) (a0 0) (at9 0)) ++ ((wH g ah h) ++ ((wT g at9 (sg, (nI n))) ++ ((wK0 g a0 ak ((nI od), (nI sz))) ++ (wHs g ak hs 6)))))) else ((wO g o f) ++ ((wU u (ah 0) (a0 0) (at9 0)) ++ ((wH g ah h) ++ ((wT g at9 (sg, (nI n))) ++ ((wK0 g a0 ak ((nI od), (nI sz))) ++ (wHs g ak hs 6))))))) H := by rw [if_pos h0, bL_t c1]; exact hP
      have hD : va_D A (if (ckR row) = 0 then ((wO g o (vp_updL f 0 (bL (Hopen h row.toNatClampNeg)))) ++ ((wU u (ah 0) (a0 0) (at9 0)) ++ ((wH g ah h) ++ ((wT g at9 (sg, (nI n))) ++ ((wK0 g a0 ak ((nI od), (nI sz))) ++ (wHs g ak hs 6)))))) else ((wO g o f) ++ ((wU u (ah 0) (a0 0) (at9 0)) ++ ((wH g ah h) ++ ((wT g at9 (sg, (nI n))) ++ ((wK0 g a0 ak ((nI od), (nI sz))) ++ (wHs g ak hs 6))))))) := by rw [if_pos h0, bL_t c1]; exact hD
      exact k_iret hx hb hr hlocks rfl (by rw [h0]) hP hD hS (Nat.le_of_ble_eq_true rfl) (Nat.le_of_ble_eq_true rfl) dL_isOpen_23
set_option maxHeartbeats 4000000 in
set_option maxRecDepth 100000 in
theorem c_L_setTimes (l : Launch) (hfl : l.stackTraces = false) (g : kG) (sa : Nat → Nat) (u : Nat) (ah at9 a0 : Nat → Nat) (ak : Nat → Nat → Nat) (h : HSt) (sg : Nat → Int32) (n : Nat) (hn : n ≤ 60) (hch : Tok sg n) (od sz : Nat) (hod : od < 6) (hsz : sz ≤ 6) (hs : Nat → HSt) (hbo : Hbo h) (hbs : ∀ j, Hbo (hs j)) (o : Nat) (f : Nat → Int64) (t1 t2 t3 : Int32) : KIX l yL_setTimes wsL_setTimes ({ frames := 7, cells := 1, slots := 6, locals := 126 }) g sa [.ref u, .int t1, .int t2, .int t3, .ref o] ((wO g o f) ++ ((wU u (ah 0) (a0 0) (at9 0)) ++ ((wH g ah h) ++ ((wT g at9 (sg, (nI n))) ++ ((wK0 g a0 ak ((nI od), (nI sz))) ++ (wHs g ak hs 6)))))) (nI (cdTimes t1 t2 t3)) (if (cdTimes t1 t2 t3) = 0 then ((wO g o (vp_updL f 0 (Int32.toInt64 (hfd h)))) ++ ((wU u (ah 0) (a0 0) (at9 0)) ++ ((wH g ah (UTimes t1 t2 t3 h)) ++ ((wT g at9 (sg, (nI n))) ++ ((wK0 g a0 ak (nI (kOd od sz), nI (kSz sz))) ++ (wHs g ak (va_up hs (kJ od sz) h) 6)))))) else ((wO g o f) ++ ((wU u (ah 0) (a0 0) (at9 0)) ++ ((wH g ah h) ++ ((wT g at9 (sg, (nI n))) ++ ((wK0 g a0 ak ((nI od), (nI sz))) ++ (wHs g ak hs 6))))))) 1 6 := by
  refine k_beginH (cc := cL_setTimes) (maxL := 6) (ret := (some .int)) (hh := [(0, 12, 15, 32)]) (Qc := fun A => kQi g (nI (cdTimes t1 t2 t3)) (if (cdTimes t1 t2 t3) = 0 then ((wO g o (vp_updL f 0 (Int32.toInt64 (hfd h)))) ++ ((wU u (ah 0) (a0 0) (at9 0)) ++ ((wH g ah (UTimes t1 t2 t3 h)) ++ ((wT g at9 (sg, (nI n))) ++ ((wK0 g a0 ak (nI (kOd od sz), nI (kSz sz))) ++ (wHs g ak (va_up hs (kJ od sz) h) 6)))))) else ((wO g o f) ++ ((wU u (ah 0) (a0 0) (at9 0)) ++ ((wH g ah h) ++ ((wT g at9 (sg, (nI n))) ++ ((wK0 g a0 ak ((nI od), (nI sz))) ++ (wHs g ak hs 6))))))) A) (by decide) rfl (Nat.le_of_ble_eq_true rfl) ?_
  intro p e s m below meth c A ls hF hr hlocks hT hE hSt hZ hP hD hS hA hl
  obtain ⟨hx, hb, hml, hown, hts⟩ := id hF
  have hown : s.vm.findClass RL = some m.cls := hown
  have hl : lv_has ls 6 [(0, .ref u), (1, .int t1), (2, .int t2), (3, .int t3), (4, .ref o)] := hl
  have lk32 : (Cond.classLink RL 32 "java/lang/IllegalArgumentException").before _ s = true := hts _ (List.mem_of_getElem? (i := 1) rfl)
  refine lv_aload hx hb dL_setTimes_0 (lv_at hl 4 rfl) ?_
  refine lv_iconst (v := (nI 0)) hx hb dL_setTimes_2 (by decide) ?_
  refine lv_aload_n hx hb dL_setTimes_3 rfl (lv_at hl 0 rfl) ?_
  refine lv_iload_n hx hb dL_setTimes_4 rfl (lv_at hl 1 rfl) ?_
  refine lv_iload_n hx hb dL_setTimes_5 rfl (lv_at hl 2 rfl) ?_
  refine lv_iload_n hx hb dL_setTimes_6 rfl (lv_at hl 3 rfl) ?_
  refine k_LVi (As := [.int t1, .int t2, .int t3]) (r := (hfd h)) (ws1 := ((wO g o f) ++ ((wU u (ah 0) (a0 0) (at9 0)) ++ ((wH g ah (UTimes t1 t2 t3 h)) ++ ((wT g at9 (sg, (nI n))) ++ ((wK0 g a0 ak (nI (kOd od sz), nI (kSz sz))) ++ (wHs g ak (va_up hs (kJ od sz) h) 6))))))) hF (c_X3_setTimes l hfl g sa u ah at9 a0 ak h sg n hn hch od sz hod hsz hs hbo hbs t1 t2 t3) (cwV 3 hts gL_setTimes_X3_setTimes rfl rfl rfl (by decide +kernel) ⟨Nat.le_of_ble_eq_true rfl, Nat.le_of_ble_eq_true rfl⟩) hE hSt hZ hP hD hS hA List.perm_append_comm List.perm_append_comm 1 rfl rfl rfl rfl hl.1 rfl (Nat.le_of_ble_eq_true rfl) dL_setTimes_7 ⟨Nat.le_of_ble_eq_true rfl, Nat.le_of_ble_eq_true rfl⟩ (fun ce q9 H locs h0 hP hD hS hce hcv hcl => ?_) (fun H locs h0 hP hD hS => ?_)
  ·
    have h1 : (cdTimes t1 t2 t3) = 1 := by have h9 := le_L_setTimes t1 t2 t3; omega
    have hcl : s.vm.findClass "java/lang/IllegalArgumentException" = some ce.cls := by first | exact hcl | (rw [h1] at hcl; exact hcl)
    refine vx_catch (own := RL) (name := "java/lang/IllegalArgumentException") (E := "java/lang/IllegalArgumentException") hown [] ⟨0, 12, 15, 32⟩ [] hT (fun z hz => nomatch hz) rfl (by decide) lk32 (va_Nw.use rfl hSt.2.1.2.2.1) hce hcv hcl ?_
    refine W.eq (g2 := F0 m 15 ls [.ref q9]) rfl ?_
    refine lv_astore (lv' := [(5, .ref q9), (0, .ref u), (1, .int t1), (2, .int t2), (3, .int t3), (4, .ref o)]) hx hb dL_setTimes_15 hl (by decide) rfl (fun ls hl => ?_)
    refine lv_iconst (v := (nI 1)) hx hb dL_setTimes_17 (by decide) ?_
    have hP : va_P g.1 vwCl (if (cdTimes t1 t2 t3) = 0 then ((wO g o (vp_updL f 0 (Int32.toInt64 (hfd h)))) ++ ((wU u (ah 0) (a0 0) (at9 0)) ++ ((wH g ah (UTimes t1 t2 t3 h)) ++ ((wT g at9 (sg, (nI n))) ++ ((wK0 g a0 ak (nI (kOd od sz), nI (kSz sz))) ++ (wHs g ak (va_up hs (kJ od sz) h) 6)))))) else ((wO g o f) ++ ((wU u (ah 0) (a0 0) (at9 0)) ++ ((wH g ah h) ++ ((wT g at9 (sg, (nI n))) ++ ((wK0 g a0 ak ((nI od), (nI sz))) ++ (wHs g ak hs 6))))))) H := by rw [if_neg h0]; exact hP
    have hD : va_D A (if (cdTimes t1 t2 t3) = 0 then ((wO g o (vp_updL f 0 (Int32.toInt64 (hfd h)))) ++ ((wU u (ah 0) (a0 0) (at9 0)) ++ ((wH g ah (UTimes t1 t2 t3 h)) ++ ((wT g at9 (sg, (nI n))) ++ ((wK0 g a0 ak (nI (kOd od sz), nI (kSz sz))) ++ (wHs g ak (va_up hs (kJ od sz) h) 6)))))) else ((wO g o f) ++ ((wU u (ah 0) (a0 0) (at9 0)) ++ ((wH g ah h) ++ ((wT g at9 (sg, (nI n))) ++ ((wK0 g a0 ak ((nI od), (nI sz))) ++ (wHs g ak hs 6))))))) := by rw [if_neg h0]; exact hD
    exact k_iret hx hb hr hlocks rfl (by rw [h1]) hP hD hS (Nat.le_of_ble_eq_true rfl) (Nat.le_of_ble_eq_true rfl) dL_setTimes_18
  ·
    refine lv_i2l (v := (Int32.toInt64 (hfd h))) hx hb dL_setTimes_10 rfl ?_
    refine k_last (f := f) (ws1 := ((wO g o (vp_updL f 0 (Int32.toInt64 (hfd h)))) ++ ((wU u (ah 0) (a0 0) (at9 0)) ++ ((wH g ah (UTimes t1 t2 t3 h)) ++ ((wT g at9 (sg, (nI n))) ++ ((wK0 g a0 ak (nI (kOd od sz), nI (kSz sz))) ++ (wHs g ak (va_up hs (kJ od sz) h) 6))))))) hx hb hE hP hD hS 0 rfl 0 rfl (by decide) (by decide) rfl dL_setTimes_11 (fun H locs hP hD hS => ?_)
    refine lv_goto (tgt := 19) hx hb dL_setTimes_12 (by decide) ?_
    refine lv_iconst (v := (nI 0)) hx hb dL_setTimes_19 (by decide) ?_
    have hP : va_P g.1 vwCl (if (cdTimes t1 t2 t3) = 0 then ((wO g o (vp_updL f 0 (Int32.toInt64 (hfd h)))) ++ ((wU u (ah 0) (a0 0) (at9 0)) ++ ((wH g ah (UTimes t1 t2 t3 h)) ++ ((wT g at9 (sg, (nI n))) ++ ((wK0 g a0 ak (nI (kOd od sz), nI (kSz sz))) ++ (wHs g ak (va_up hs (kJ od sz) h) 6)))))) else ((wO g o f) ++ ((wU u (ah 0) (a0 0) (at9 0)) ++ ((wH g ah h) ++ ((wT g at9 (sg, (nI n))) ++ ((wK0 g a0 ak ((nI od), (nI sz))) ++ (wHs g ak hs 6))))))) H := by rw [if_pos h0]; exact hP
    have hD : va_D A (if (cdTimes t1 t2 t3) = 0 then ((wO g o (vp_updL f 0 (Int32.toInt64 (hfd h)))) ++ ((wU u (ah 0) (a0 0) (at9 0)) ++ ((wH g ah (UTimes t1 t2 t3 h)) ++ ((wT g at9 (sg, (nI n))) ++ ((wK0 g a0 ak (nI (kOd od sz), nI (kSz sz))) ++ (wHs g ak (va_up hs (kJ od sz) h) 6)))))) else ((wO g o f) ++ ((wU u (ah 0) (a0 0) (at9 0)) ++ ((wH g ah h) ++ ((wT g at9 (sg, (nI n))) ++ ((wK0 g a0 ak ((nI od), (nI sz))) ++ (wHs g ak hs 6))))))) := by rw [if_pos h0]; exact hD
    exact k_iret hx hb hr hlocks rfl (by rw [h0]) hP hD hS (Nat.le_of_ble_eq_true rfl) (Nat.le_of_ble_eq_true rfl) dL_setTimes_20
set_option maxHeartbeats 4000000 in
set_option maxRecDepth 100000 in
theorem c_L_setPresent (l : Launch) (hfl : l.stackTraces = false) (g : kG) (sa : Nat → Nat) (u : Nat) (ah at9 a0 : Nat → Nat) (ak : Nat → Nat → Nat) (h : HSt) (sg : Nat → Int32) (n : Nat) (hn : n ≤ 60) (hch : Tok sg n) (od sz : Nat) (hod : od < 6) (hsz : sz ≤ 6) (hs : Nat → HSt) (hbo : Hbo h) (hbs : ∀ j, Hbo (hs j)) (o : Nat) (f : Nat → Int64) (w9 : Int32) (b : Nat) (hb2 : b < 2) : KIX l yL_setPresent wsL_setPresent ({ frames := 7, cells := 1, slots := 6, locals := 124 }) g sa [.ref u, .int w9, .int (nI b), .ref o] ((wO g o f) ++ ((wU u (ah 0) (a0 0) (at9 0)) ++ ((wH g ah h) ++ ((wT g at9 (sg, (nI n))) ++ ((wK0 g a0 ak ((nI od), (nI sz))) ++ (wHs g ak hs 6)))))) (nI (cdPres w9)) (if (cdPres w9) = 0 then ((wO g o (vp_updL f 0 (Int32.toInt64 (Hchief (UPres w9 b h))))) ++ ((wU u (ah 0) (a0 0) (at9 0)) ++ ((wH g ah (UPres w9 b h)) ++ ((wT g at9 (sg, (nI n))) ++ ((wK0 g a0 ak (nI (kOd od sz), nI (kSz sz))) ++ (wHs g ak (va_up hs (kJ od sz) h) 6)))))) else ((wO g o f) ++ ((wU u (ah 0) (a0 0) (at9 0)) ++ ((wH g ah h) ++ ((wT g at9 (sg, (nI n))) ++ ((wK0 g a0 ak ((nI od), (nI sz))) ++ (wHs g ak hs 6))))))) 1 6 := by
  refine k_beginH (cc := cL_setPresent) (maxL := 5) (ret := (some .int)) (hh := [(0, 10, 13, 13)]) (Qc := fun A => kQi g (nI (cdPres w9)) (if (cdPres w9) = 0 then ((wO g o (vp_updL f 0 (Int32.toInt64 (Hchief (UPres w9 b h))))) ++ ((wU u (ah 0) (a0 0) (at9 0)) ++ ((wH g ah (UPres w9 b h)) ++ ((wT g at9 (sg, (nI n))) ++ ((wK0 g a0 ak (nI (kOd od sz), nI (kSz sz))) ++ (wHs g ak (va_up hs (kJ od sz) h) 6)))))) else ((wO g o f) ++ ((wU u (ah 0) (a0 0) (at9 0)) ++ ((wH g ah h) ++ ((wT g at9 (sg, (nI n))) ++ ((wK0 g a0 ak ((nI od), (nI sz))) ++ (wHs g ak hs 6))))))) A) (by decide) rfl (Nat.le_of_ble_eq_true rfl) ?_
  intro p e s m below meth c A ls hF hr hlocks hT hE hSt hZ hP hD hS hA hl
  obtain ⟨hx, hb, hml, hown, hts⟩ := id hF
  have hown : s.vm.findClass RL = some m.cls := hown
  have hl : lv_has ls 5 [(0, .ref u), (1, .int w9), (2, .int (nI b)), (3, .ref o)] := hl
  have lk13 : (Cond.classLink RL 13 "java/lang/IndexOutOfBoundsException").before _ s = true := hts _ (List.mem_of_getElem? (i := 1) rfl)
  refine lv_aload_n hx hb dL_setPresent_0 rfl (lv_at hl 3 rfl) ?_
  refine lv_iconst (v := (nI 0)) hx hb dL_setPresent_1 (by decide) ?_
  refine lv_aload_n hx hb dL_setPresent_2 rfl (lv_at hl 0 rfl) ?_
  refine lv_iload_n hx hb dL_setPresent_3 rfl (lv_at hl 1 rfl) ?_
  refine lv_iload_n hx hb dL_setPresent_4 rfl (lv_at hl 2 rfl) ?_
  refine k_LVi (As := [.int w9, .int (nI b)]) (r := (Hchief (UPres w9 b h))) (ws1 := ((wO g o f) ++ ((wU u (ah 0) (a0 0) (at9 0)) ++ ((wH g ah (UPres w9 b h)) ++ ((wT g at9 (sg, (nI n))) ++ ((wK0 g a0 ak (nI (kOd od sz), nI (kSz sz))) ++ (wHs g ak (va_up hs (kJ od sz) h) 6))))))) hF (c_X3_setPresent l hfl g sa u ah at9 a0 ak h sg n hn hch od sz hod hsz hs hbo hbs w9 b hb2) (cwV 2 hts gL_setPresent_X3_setPresent rfl rfl rfl (by decide +kernel) ⟨Nat.le_of_ble_eq_true rfl, Nat.le_of_ble_eq_true rfl⟩) hE hSt hZ hP hD hS hA List.perm_append_comm List.perm_append_comm 1 rfl rfl rfl rfl hl.1 rfl (Nat.le_of_ble_eq_true rfl) dL_setPresent_5 ⟨Nat.le_of_ble_eq_true rfl, Nat.le_of_ble_eq_true rfl⟩ (fun ce q9 H locs h0 hP hD hS hce hcv hcl => ?_) (fun H locs h0 hP hD hS => ?_)
  ·
    have h1 : (cdPres w9) = 1 := by have h9 := le_L_setPresent w9; omega
    have hcl : s.vm.findClass "java/lang/IndexOutOfBoundsException" = some ce.cls := by first | exact hcl | (rw [h1] at hcl; exact hcl)
    refine vx_catch (own := RL) (name := "java/lang/IndexOutOfBoundsException") (E := "java/lang/IndexOutOfBoundsException") hown [] ⟨0, 10, 13, 13⟩ [] hT (fun z hz => nomatch hz) rfl (by decide) lk13 (va_Nw.use rfl hSt.2.1.1) hce hcv hcl ?_
    refine W.eq (g2 := F0 m 13 ls [.ref q9]) rfl ?_
    refine lv_astore (lv' := [(4, .ref q9), (0, .ref u), (1, .int w9), (2, .int (nI b)), (3, .ref o)]) hx hb dL_setPresent_13 hl (by decide) rfl (fun ls hl => ?_)
    refine lv_iconst (v := (nI 1)) hx hb dL_setPresent_15 (by decide) ?_
    have hP : va_P g.1 vwCl (if (cdPres w9) = 0 then ((wO g o (vp_updL f 0 (Int32.toInt64 (Hchief (UPres w9 b h))))) ++ ((wU u (ah 0) (a0 0) (at9 0)) ++ ((wH g ah (UPres w9 b h)) ++ ((wT g at9 (sg, (nI n))) ++ ((wK0 g a0 ak (nI (kOd od sz), nI (kSz sz))) ++ (wHs g ak (va_up hs (kJ od sz) h) 6)))))) else ((wO g o f) ++ ((wU u (ah 0) (a0 0) (at9 0)) ++ ((wH g ah h) ++ ((wT g at9 (sg, (nI n))) ++ ((wK0 g a0 ak ((nI od), (nI sz))) ++ (wHs g ak hs 6))))))) H := by rw [if_neg h0]; exact hP
    have hD : va_D A (if (cdPres w9) = 0 then ((wO g o (vp_updL f 0 (Int32.toInt64 (Hchief (UPres w9 b h))))) ++ ((wU u (ah 0) (a0 0) (at9 0)) ++ ((wH g ah (UPres w9 b h)) ++ ((wT g at9 (sg, (nI n))) ++ ((wK0 g a0 ak (nI (kOd od sz), nI (kSz sz))) ++ (wHs g ak (va_up hs (kJ od sz) h) 6)))))) else ((wO g o f) ++ ((wU u (ah 0) (a0 0) (at9 0)) ++ ((wH g ah h) ++ ((wT g at9 (sg, (nI n))) ++ ((wK0 g a0 ak ((nI od), (nI sz))) ++ (wHs g ak hs 6))))))) := by rw [if_neg h0]; exact hD
    exact k_iret hx hb hr hlocks rfl (by rw [h1]) hP hD hS (Nat.le_of_ble_eq_true rfl) (Nat.le_of_ble_eq_true rfl) dL_setPresent_16
  ·
    refine lv_i2l (v := (Int32.toInt64 (Hchief (UPres w9 b h)))) hx hb dL_setPresent_8 rfl ?_
    refine k_last (f := f) (ws1 := ((wO g o (vp_updL f 0 (Int32.toInt64 (Hchief (UPres w9 b h))))) ++ ((wU u (ah 0) (a0 0) (at9 0)) ++ ((wH g ah (UPres w9 b h)) ++ ((wT g at9 (sg, (nI n))) ++ ((wK0 g a0 ak (nI (kOd od sz), nI (kSz sz))) ++ (wHs g ak (va_up hs (kJ od sz) h) 6))))))) hx hb hE hP hD hS 0 rfl 0 rfl (by decide) (by decide) rfl dL_setPresent_9 (fun H locs hP hD hS => ?_)
    refine lv_goto (tgt := 17) hx hb dL_setPresent_10 (by decide) ?_
    refine lv_iconst (v := (nI 0)) hx hb dL_setPresent_17 (by decide) ?_
    have hP : va_P g.1 vwCl (if (cdPres w9) = 0 then ((wO g o (vp_updL f 0 (Int32.toInt64 (Hchief (UPres w9 b h))))) ++ ((wU u (ah 0) (a0 0) (at9 0)) ++ ((wH g ah (UPres w9 b h)) ++ ((wT g at9 (sg, (nI n))) ++ ((wK0 g a0 ak (nI (kOd od sz), nI (kSz sz))) ++ (wHs g ak (va_up hs (kJ od sz) h) 6)))))) else ((wO g o f) ++ ((wU u (ah 0) (a0 0) (at9 0)) ++ ((wH g ah h) ++ ((wT g at9 (sg, (nI n))) ++ ((wK0 g a0 ak ((nI od), (nI sz))) ++ (wHs g ak hs 6))))))) H := by rw [if_pos h0]; exact hP
    have hD : va_D A (if (cdPres w9) = 0 then ((wO g o (vp_updL f 0 (Int32.toInt64 (Hchief (UPres w9 b h))))) ++ ((wU u (ah 0) (a0 0) (at9 0)) ++ ((wH g ah (UPres w9 b h)) ++ ((wT g at9 (sg, (nI n))) ++ ((wK0 g a0 ak (nI (kOd od sz), nI (kSz sz))) ++ (wHs g ak (va_up hs (kJ od sz) h) 6)))))) else ((wO g o f) ++ ((wU u (ah 0) (a0 0) (at9 0)) ++ ((wH g ah h) ++ ((wT g at9 (sg, (nI n))) ++ ((wK0 g a0 ak ((nI od), (nI sz))) ++ (wHs g ak hs 6))))))) := by rw [if_pos h0]; exact hD
    exact k_iret hx hb hr hlocks rfl (by rw [h0]) hP hD hS (Nat.le_of_ble_eq_true rfl) (Nat.le_of_ble_eq_true rfl) dL_setPresent_18
