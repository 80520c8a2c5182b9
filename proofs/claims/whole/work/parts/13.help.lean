/-! the law's helpers -/
def bL (P : Prop) [Decidable P] : Int64 := if P then 1 else 0
theorem bL_t {P : Prop} [Decidable P] (h : P) : bL P = 1 := if_pos h
theorem bL_f {P : Prop} [Decidable P] (h : ¬ P) : bL P = 0 := if_neg h
theorem le_ckR (x : Int32) : ckR x ≤ 1 := by unfold ckR; (repeat' split) <;> decide
theorem le_ckC (x : Int32) : ckC x ≤ 1 := by unfold ckC; (repeat' split) <;> decide
theorem le_ckM (x : Int32) : ckM x ≤ 1 := by unfold ckM; (repeat' split) <;> decide
theorem le_L_come (h : HSt) (row : Int32) (con : Int32) : (cdCome h row con) ≤ 2 := by unfold cdCome; (repeat' split) <;> decide
theorem le_L_leave (h : HSt) (row : Int32) (con : Int32) : (cdLeave h row con) ≤ 2 := by unfold cdLeave; (repeat' split) <;> decide
theorem le_L_listeners (row : Int32) (con : Int32) : (cdPair row con) ≤ 1 := by unfold cdPair; (repeat' split) <;> decide
theorem le_L_rest (row : Int32) (con : Int32) : (cdPair row con) ≤ 1 := by unfold cdPair; (repeat' split) <;> decide
theorem le_L_minutesToFade (row : Int32) (con : Int32) : (cdPair row con) ≤ 1 := by unfold cdPair; (repeat' split) <;> decide
theorem le_L_setOpen (row : Int32) : (ckR row) ≤ 1 := by unfold ckR; (repeat' split) <;> decide
theorem le_L_isOpen (row : Int32) : (ckR row) ≤ 1 := by unfold ckR; (repeat' split) <;> decide
theorem le_L_setTimes (t1 : Int32) (t2 : Int32) (t3 : Int32) : (cdTimes t1 t2 t3) ≤ 1 := by unfold cdTimes; (repeat' split) <;> decide
theorem le_L_setPresent (w9 : Int32) : (cdPres w9) ≤ 1 := by unfold cdPres; (repeat' split) <;> decide
theorem le_L_rows (con : Int32) : (ckC con) ≤ 1 := by unfold ckC; (repeat' split) <;> decide
theorem le_L_wanted (con : Int32) : (ckC con) ≤ 1 := by unfold ckC; (repeat' split) <;> decide
theorem le_L_play (con : Int32) : (ckC con) ≤ 1 := by unfold ckC; (repeat' split) <;> decide
theorem le_L_pass (mins : Int32) : (ckM mins) ≤ 1 := by unfold ckM; (repeat' split) <;> decide
theorem le_L_count (what : Int32) : (cdCount what) ≤ 1 := by unfold cdCount; (repeat' split) <;> decide
theorem le_L_disturbedAfter (con : Int32) (mins : Int32) : (cdDist con mins) ≤ 2 := by unfold cdDist; (repeat' split) <;> decide
theorem le_L_append (n : Nat) (x : Int32) : (cdApp n x) ≤ 2 := by unfold cdApp; (repeat' split) <;> decide
theorem le_L_run (sg : Nat → Int32) (n : Nat) : (if Tdone sg n then 0 else 1) ≤ 1 := by (repeat' split) <;> decide
theorem le_L_undo (sz : Nat) : (if sz = 0 then 1 else 0) ≤ 1 := by (repeat' split) <;> decide
set_option maxHeartbeats 4000000 in
set_option maxRecDepth 100000 in
theorem c_L_come (l : Launch) (hfl : l.stackTraces = false) (g : kG) (sa : Nat → Nat) (u : Nat) (ah at9 a0 : Nat → Nat) (ak : Nat → Nat → Nat) (h : HSt) (sg : Nat → Int32) (n : Nat) (hn : n ≤ 60) (hch : Tok sg n) (od sz : Nat) (hod : od < 6) (hsz : sz ≤ 6) (hs : Nat → HSt) (hbo : Hbo h) (hbs : ∀ j, Hbo (hs j)) (o : Nat) (f : Nat → Int64) (row con : Int32) : KIX l yL_come wsL_come ({ frames := 8, cells := 3, slots := 18, locals := 133 }) g sa [.ref u, .int row, .int con, .ref o] ((wO g o f) ++ ((wU u (ah 0) (a0 0) (at9 0)) ++ ((wH g ah h) ++ ((wT g at9 (sg, (nI n))) ++ ((wK0 g a0 ak ((nI od), (nI sz))) ++ (wHs g ak hs 6)))))) (nI (cdCome h row con)) (if (cdCome h row con) = 0 then ((wO g o (vp_updL f 0 (Int32.toInt64 (hL (Hseat (pl row con) h) (pl row con))))) ++ ((wU u (ah 0) (a0 0) (at9 0)) ++ ((wH g ah (Hseat (pl row con) h)) ++ ((wT g at9 (sg, (nI n))) ++ ((wK0 g a0 ak (nI (kOd od sz), nI (kSz sz))) ++ (wHs g ak (va_up hs (kJ od sz) h) 6)))))) else ((wO g o f) ++ ((wU u (ah 0) (a0 0) (at9 0)) ++ ((wH g ah h) ++ ((wT g at9 (sg, (nI n))) ++ ((wK0 g a0 ak ((nI od), (nI sz))) ++ (wHs g ak hs 6))))))) 3 18 := by
  refine k_beginH (cc := cL_come) (maxL := 5) (ret := (some .int)) (hh := [(0, 10, 13, 13), (0, 10, 17, 15)]) (Qc := fun A => kQi g (nI (cdCome h row con)) (if (cdCome h row con) = 0 then ((wO g o (vp_updL f 0 (Int32.toInt64 (hL (Hseat (pl row con) h) (pl row con))))) ++ ((wU u (ah 0) (a0 0) (at9 0)) ++ ((wH g ah (Hseat (pl row con) h)) ++ ((wT g at9 (sg, (nI n))) ++ ((wK0 g a0 ak (nI (kOd od sz), nI (kSz sz))) ++ (wHs g ak (va_up hs (kJ od sz) h) 6)))))) else ((wO g o f) ++ ((wU u (ah 0) (a0 0) (at9 0)) ++ ((wH g ah h) ++ ((wT g at9 (sg, (nI n))) ++ ((wK0 g a0 ak ((nI od), (nI sz))) ++ (wHs g ak hs 6))))))) A) (by decide) rfl (Nat.le_of_ble_eq_true rfl) ?_
  intro p e s m below meth c A ls hF hr hlocks hT hE hSt hZ hP hD hS hA hl
  obtain ⟨hx, hb, hml, hown, hts⟩ := id hF
  have hown : s.vm.findClass RL = some m.cls := hown
  have hl : lv_has ls 5 [(0, .ref u), (1, .int row), (2, .int con), (3, .ref o)] := hl
  have lk13 : (Cond.classLink RL 13 "java/lang/IndexOutOfBoundsException").before _ s = true := hts _ (List.mem_of_getElem? (i := 1) rfl)
  have lk15 : (Cond.classLink RL 15 "java/lang/IllegalStateException").before _ s = true := hts _ (List.mem_of_getElem? (i := 2) rfl)
  refine lv_aload_n hx hb dL_come_0 rfl (lv_at hl 3 rfl) ?_
  refine lv_iconst (v := (nI 0)) hx hb dL_come_1 (by decide) ?_
  refine lv_aload_n hx hb dL_come_2 rfl (lv_at hl 0 rfl) ?_
  refine lv_iload_n hx hb dL_come_3 rfl (lv_at hl 1 rfl) ?_
  refine lv_iload_n hx hb dL_come_4 rfl (lv_at hl 2 rfl) ?_
  refine k_LVi (As := [.int row, .int con]) (r := (hL (Hseat (pl row con) h) (pl row con))) (ws1 := ((wO g o f) ++ ((wU u (ah 0) (a0 0) (at9 0)) ++ ((wH g ah (Hseat (pl row con) h)) ++ ((wT g at9 (sg, (nI n))) ++ ((wK0 g a0 ak (nI (kOd od sz), nI (kSz sz))) ++ (wHs g ak (va_up hs (kJ od sz) h) 6))))))) hF (c_X3_come l hfl g sa u ah at9 a0 ak h sg n hn hch od sz hod hsz hs hbo hbs row con) (cwV 2 hts gL_come_X3_come rfl rfl rfl (by decide +kernel) ⟨Nat.le_of_ble_eq_true rfl, Nat.le_of_ble_eq_true rfl⟩) hE hSt hZ hP hD hS hA List.perm_append_comm List.perm_append_comm 1 rfl rfl rfl rfl hl.1 rfl (Nat.le_of_ble_eq_true rfl) dL_come_5 ⟨Nat.le_of_ble_eq_true rfl, Nat.le_of_ble_eq_true rfl⟩ (fun ce q9 H locs h0 hP hD hS hce hcv hcl => ?_) (fun H locs h0 hP hD hS => ?_)
  ·
    by_cases h1 : (cdCome h row con) = 1
    ·
      have hcl : s.vm.findClass "java/lang/IndexOutOfBoundsException" = some ce.cls := by first | exact hcl | (rw [h1] at hcl; exact hcl)
      refine vx_catch (own := RL) (name := "java/lang/IndexOutOfBoundsException") (E := "java/lang/IndexOutOfBoundsException") hown [] ⟨0, 10, 13, 13⟩ [⟨0, 10, 17, 15⟩] hT (fun z hz => nomatch hz) rfl (by decide) lk13 (va_Nw.use rfl hSt.2.1.1) hce hcv hcl ?_
      refine W.eq (g2 := F0 m 13 ls [.ref q9]) rfl ?_
      refine lv_astore (lv' := [(4, .ref q9), (0, .ref u), (1, .int row), (2, .int con), (3, .ref o)]) hx hb dL_come_13 hl (by decide) rfl (fun ls hl => ?_)
      refine lv_iconst (v := (nI 1)) hx hb dL_come_15 (by decide) ?_
      have hP : va_P g.1 vwCl (if (cdCome h row con) = 0 then ((wO g o (vp_updL f 0 (Int32.toInt64 (hL (Hseat (pl row con) h) (pl row con))))) ++ ((wU u (ah 0) (a0 0) (at9 0)) ++ ((wH g ah (Hseat (pl row con) h)) ++ ((wT g at9 (sg, (nI n))) ++ ((wK0 g a0 ak (nI (kOd od sz), nI (kSz sz))) ++ (wHs g ak (va_up hs (kJ od sz) h) 6)))))) else ((wO g o f) ++ ((wU u (ah 0) (a0 0) (at9 0)) ++ ((wH g ah h) ++ ((wT g at9 (sg, (nI n))) ++ ((wK0 g a0 ak ((nI od), (nI sz))) ++ (wHs g ak hs 6))))))) H := by rw [if_neg h0]; exact hP
      have hD : va_D A (if (cdCome h row con) = 0 then ((wO g o (vp_updL f 0 (Int32.toInt64 (hL (Hseat (pl row con) h) (pl row con))))) ++ ((wU u (ah 0) (a0 0) (at9 0)) ++ ((wH g ah (Hseat (pl row con) h)) ++ ((wT g at9 (sg, (nI n))) ++ ((wK0 g a0 ak (nI (kOd od sz), nI (kSz sz))) ++ (wHs g ak (va_up hs (kJ od sz) h) 6)))))) else ((wO g o f) ++ ((wU u (ah 0) (a0 0) (at9 0)) ++ ((wH g ah h) ++ ((wT g at9 (sg, (nI n))) ++ ((wK0 g a0 ak ((nI od), (nI sz))) ++ (wHs g ak hs 6))))))) := by rw [if_neg h0]; exact hD
      exact k_iret hx hb hr hlocks rfl (by rw [h1]) hP hD hS (Nat.le_of_ble_eq_true rfl) (Nat.le_of_ble_eq_true rfl) dL_come_16
    ·
      have h2 : (cdCome h row con) = 2 := by have h9 := le_L_come h row con; omega
      have hcl : s.vm.findClass "java/lang/IllegalStateException" = some ce.cls := by first | exact hcl | (rw [h2] at hcl; exact hcl)
      refine vx_catch (own := RL) (name := "java/lang/IllegalStateException") (E := "java/lang/IllegalStateException") hown [⟨0, 10, 13, 13⟩] ⟨0, 10, 17, 15⟩ [] hT (fun z hz => by cases List.mem_singleton.mp hz; exact Or.inr ⟨by decide, "java/lang/IndexOutOfBoundsException", lk13, hSt.2.2.1⟩) rfl (by decide) lk15 (va_Nw.use rfl hSt.2.1.2.1) hce hcv hcl ?_
      refine W.eq (g2 := F0 m 17 ls [.ref q9]) rfl ?_
      refine lv_astore (lv' := [(4, .ref q9), (0, .ref u), (1, .int row), (2, .int con), (3, .ref o)]) hx hb dL_come_17 hl (by decide) rfl (fun ls hl => ?_)
      refine lv_iconst (v := (nI 2)) hx hb dL_come_19 (by decide) ?_
      have hP : va_P g.1 vwCl (if (cdCome h row con) = 0 then ((wO g o (vp_updL f 0 (Int32.toInt64 (hL (Hseat (pl row con) h) (pl row con))))) ++ ((wU u (ah 0) (a0 0) (at9 0)) ++ ((wH g ah (Hseat (pl row con) h)) ++ ((wT g at9 (sg, (nI n))) ++ ((wK0 g a0 ak (nI (kOd od sz), nI (kSz sz))) ++ (wHs g ak (va_up hs (kJ od sz) h) 6)))))) else ((wO g o f) ++ ((wU u (ah 0) (a0 0) (at9 0)) ++ ((wH g ah h) ++ ((wT g at9 (sg, (nI n))) ++ ((wK0 g a0 ak ((nI od), (nI sz))) ++ (wHs g ak hs 6))))))) H := by rw [if_neg h0]; exact hP
      have hD : va_D A (if (cdCome h row con) = 0 then ((wO g o (vp_updL f 0 (Int32.toInt64 (hL (Hseat (pl row con) h) (pl row con))))) ++ ((wU u (ah 0) (a0 0) (at9 0)) ++ ((wH g ah (Hseat (pl row con) h)) ++ ((wT g at9 (sg, (nI n))) ++ ((wK0 g a0 ak (nI (kOd od sz), nI (kSz sz))) ++ (wHs g ak (va_up hs (kJ od sz) h) 6)))))) else ((wO g o f) ++ ((wU u (ah 0) (a0 0) (at9 0)) ++ ((wH g ah h) ++ ((wT g at9 (sg, (nI n))) ++ ((wK0 g a0 ak ((nI od), (nI sz))) ++ (wHs g ak hs 6))))))) := by rw [if_neg h0]; exact hD
      exact k_iret hx hb hr hlocks rfl (by rw [h2]) hP hD hS (Nat.le_of_ble_eq_true rfl) (Nat.le_of_ble_eq_true rfl) dL_come_20
  ·
    refine lv_i2l (v := (Int32.toInt64 (hL (Hseat (pl row con) h) (pl row con)))) hx hb dL_come_8 rfl ?_
    refine k_last (f := f) (ws1 := ((wO g o (vp_updL f 0 (Int32.toInt64 (hL (Hseat (pl row con) h) (pl row con))))) ++ ((wU u (ah 0) (a0 0) (at9 0)) ++ ((wH g ah (Hseat (pl row con) h)) ++ ((wT g at9 (sg, (nI n))) ++ ((wK0 g a0 ak (nI (kOd od sz), nI (kSz sz))) ++ (wHs g ak (va_up hs (kJ od sz) h) 6))))))) hx hb hE hP hD hS 0 rfl 0 rfl (by decide) (by decide) rfl dL_come_9 (fun H locs hP hD hS => ?_)
    refine lv_goto (tgt := 21) hx hb dL_come_10 (by decide) ?_
    refine lv_iconst (v := (nI 0)) hx hb dL_come_21 (by decide) ?_
    have hP : va_P g.1 vwCl (if (cdCome h row con) = 0 then ((wO g o (vp_updL f 0 (Int32.toInt64 (hL (Hseat (pl row con) h) (pl row con))))) ++ ((wU u (ah 0) (a0 0) (at9 0)) ++ ((wH g ah (Hseat (pl row con) h)) ++ ((wT g at9 (sg, (nI n))) ++ ((wK0 g a0 ak (nI (kOd od sz), nI (kSz sz))) ++ (wHs g ak (va_up hs (kJ od sz) h) 6)))))) else ((wO g o f) ++ ((wU u (ah 0) (a0 0) (at9 0)) ++ ((wH g ah h) ++ ((wT g at9 (sg, (nI n))) ++ ((wK0 g a0 ak ((nI od), (nI sz))) ++ (wHs g ak hs 6))))))) H := by rw [if_pos h0]; exact hP
    have hD : va_D A (if (cdCome h row con) = 0 then ((wO g o (vp_updL f 0 (Int32.toInt64 (hL (Hseat (pl row con) h) (pl row con))))) ++ ((wU u (ah 0) (a0 0) (at9 0)) ++ ((wH g ah (Hseat (pl row con) h)) ++ ((wT g at9 (sg, (nI n))) ++ ((wK0 g a0 ak (nI (kOd od sz), nI (kSz sz))) ++ (wHs g ak (va_up hs (kJ od sz) h) 6)))))) else ((wO g o f) ++ ((wU u (ah 0) (a0 0) (at9 0)) ++ ((wH g ah h) ++ ((wT g at9 (sg, (nI n))) ++ ((wK0 g a0 ak ((nI od), (nI sz))) ++ (wHs g ak hs 6))))))) := by rw [if_pos h0]; exact hD
    exact k_iret hx hb hr hlocks rfl (by rw [h0]) hP hD hS (Nat.le_of_ble_eq_true rfl) (Nat.le_of_ble_eq_true rfl) dL_come_22
set_option maxHeartbeats 4000000 in
set_option maxRecDepth 100000 in
theorem c_L_leave (l : Launch) (hfl : l.stackTraces = false) (g : kG) (sa : Nat → Nat) (u : Nat) (ah at9 a0 : Nat → Nat) (ak : Nat → Nat → Nat) (h : HSt) (sg : Nat → Int32) (n : Nat) (hn : n ≤ 60) (hch : Tok sg n) (od sz : Nat) (hod : od < 6) (hsz : sz ≤ 6) (hs : Nat → HSt) (hbo : Hbo h) (hbs : ∀ j, Hbo (hs j)) (o : Nat) (f : Nat → Int64) (row con : Int32) (b : Nat) (hb2 : b < 2) : KIX l yL_leave wsL_leave ({ frames := 8, cells := 3, slots := 18, locals := 134 }) g sa [.ref u, .int row, .int con, .int (nI b), .ref o] ((wO g o f) ++ ((wU u (ah 0) (a0 0) (at9 0)) ++ ((wH g ah h) ++ ((wT g at9 (sg, (nI n))) ++ ((wK0 g a0 ak ((nI od), (nI sz))) ++ (wHs g ak hs 6)))))) (nI (cdLeave h row con)) (if (cdLeave h row con) = 0 then ((wO g o (vp_updL f 0 (Int32.toInt64 (hL (Hunseat (pl row con) b h) (pl row con))))) ++ ((wU u (ah 0) (a0 0) (at9 0)) ++ ((wH g ah (Hunseat (pl row con) b h)) ++ ((wT g at9 (sg, (nI n))) ++ ((wK0 g a0 ak (nI (kOd od sz), nI (kSz sz))) ++ (wHs g ak (va_up hs (kJ od sz) h) 6)))))) else ((wO g o f) ++ ((wU u (ah 0) (a0 0) (at9 0)) ++ ((wH g ah h) ++ ((wT g at9 (sg, (nI n))) ++ ((wK0 g a0 ak ((nI od), (nI sz))) ++ (wHs g ak hs 6))))))) 3 18 := by
  refine k_beginH (cc := cL_leave) (maxL := 6) (ret := (some .int)) (hh := [(0, 12, 15, 13), (0, 12, 19, 15)]) (Qc := fun A => kQi g (nI (cdLeave h row con)) (if (cdLeave h row con) = 0 then ((wO g o (vp_updL f 0 (Int32.toInt64 (hL (Hunseat (pl row con) b h) (pl row con))))) ++ ((wU u (ah 0) (a0 0) (at9 0)) ++ ((wH g ah (Hunseat (pl row con) b h)) ++ ((wT g at9 (sg, (nI n))) ++ ((wK0 g a0 ak (nI (kOd od sz), nI (kSz sz))) ++ (wHs g ak (va_up hs (kJ od sz) h) 6)))))) else ((wO g o f) ++ ((wU u (ah 0) (a0 0) (at9 0)) ++ ((wH g ah h) ++ ((wT g at9 (sg, (nI n))) ++ ((wK0 g a0 ak ((nI od), (nI sz))) ++ (wHs g ak hs 6))))))) A) (by decide) rfl (Nat.le_of_ble_eq_true rfl) ?_
  intro p e s m below meth c A ls hF hr hlocks hT hE hSt hZ hP hD hS hA hl
  obtain ⟨hx, hb, hml, hown, hts⟩ := id hF
  have hown : s.vm.findClass RL = some m.cls := hown
  have hl : lv_has ls 6 [(0, .ref u), (1, .int row), (2, .int con), (3, .int (nI b)), (4, .ref o)] := hl
  have lk13 : (Cond.classLink RL 13 "java/lang/IndexOutOfBoundsException").before _ s = true := hts _ (List.mem_of_getElem? (i := 1) rfl)
  have lk15 : (Cond.classLink RL 15 "java/lang/IllegalStateException").before _ s = true := hts _ (List.mem_of_getElem? (i := 2) rfl)
  refine lv_aload hx hb dL_leave_0 (lv_at hl 4 rfl) ?_
  refine lv_iconst (v := (nI 0)) hx hb dL_leave_2 (by decide) ?_
  refine lv_aload_n hx hb dL_leave_3 rfl (lv_at hl 0 rfl) ?_
  refine lv_iload_n hx hb dL_leave_4 rfl (lv_at hl 1 rfl) ?_
  refine lv_iload_n hx hb dL_leave_5 rfl (lv_at hl 2 rfl) ?_
  refine lv_iload_n hx hb dL_leave_6 rfl (lv_at hl 3 rfl) ?_
  refine k_LVi (As := [.int row, .int con, .int (nI b)]) (r := (hL (Hunseat (pl row con) b h) (pl row con))) (ws1 := ((wO g o f) ++ ((wU u (ah 0) (a0 0) (at9 0)) ++ ((wH g ah (Hunseat (pl row con) b h)) ++ ((wT g at9 (sg, (nI n))) ++ ((wK0 g a0 ak (nI (kOd od sz), nI (kSz sz))) ++ (wHs g ak (va_up hs (kJ od sz) h) 6))))))) hF (c_X3_leave l hfl g sa u ah at9 a0 ak h sg n hn hch od sz hod hsz hs hbo hbs row con b hb2) (cwV 3 hts gL_leave_X3_leave rfl rfl rfl (by decide +kernel) ⟨Nat.le_of_ble_eq_true rfl, Nat.le_of_ble_eq_true rfl⟩) hE hSt hZ hP hD hS hA List.perm_append_comm List.perm_append_comm 1 rfl rfl rfl rfl hl.1 rfl (Nat.le_of_ble_eq_true rfl) dL_leave_7 ⟨Nat.le_of_ble_eq_true rfl, Nat.le_of_ble_eq_true rfl⟩ (fun ce q9 H locs h0 hP hD hS hce hcv hcl => ?_) (fun H locs h0 hP hD hS => ?_)
  ·
    by_cases h1 : (cdLeave h row con) = 1
    ·
      have hcl : s.vm.findClass "java/lang/IndexOutOfBoundsException" = some ce.cls := by first | exact hcl | (rw [h1] at hcl; exact hcl)
      refine vx_catch (own := RL) (name := "java/lang/IndexOutOfBoundsException") (E := "java/lang/IndexOutOfBoundsException") hown [] ⟨0, 12, 15, 13⟩ [⟨0, 12, 19, 15⟩] hT (fun z hz => nomatch hz) rfl (by decide) lk13 (va_Nw.use rfl hSt.2.1.1) hce hcv hcl ?_
      refine W.eq (g2 := F0 m 15 ls [.ref q9]) rfl ?_
      refine lv_astore (lv' := [(5, .ref q9), (0, .ref u), (1, .int row), (2, .int con), (3, .int (nI b)), (4, .ref o)]) hx hb dL_leave_15 hl (by decide) rfl (fun ls hl => ?_)
      refine lv_iconst (v := (nI 1)) hx hb dL_leave_17 (by decide) ?_
      have hP : va_P g.1 vwCl (if (cdLeave h row con) = 0 then ((wO g o (vp_updL f 0 (Int32.toInt64 (hL (Hunseat (pl row con) b h) (pl row con))))) ++ ((wU u (ah 0) (a0 0) (at9 0)) ++ ((wH g ah (Hunseat (pl row con) b h)) ++ ((wT g at9 (sg, (nI n))) ++ ((wK0 g a0 ak (nI (kOd od sz), nI (kSz sz))) ++ (wHs g ak (va_up hs (kJ od sz) h) 6)))))) else ((wO g o f) ++ ((wU u (ah 0) (a0 0) (at9 0)) ++ ((wH g ah h) ++ ((wT g at9 (sg, (nI n))) ++ ((wK0 g a0 ak ((nI od), (nI sz))) ++ (wHs g ak hs 6))))))) H := by rw [if_neg h0]; exact hP
      have hD : va_D A (if (cdLeave h row con) = 0 then ((wO g o (vp_updL f 0 (Int32.toInt64 (hL (Hunseat (pl row con) b h) (pl row con))))) ++ ((wU u (ah 0) (a0 0) (at9 0)) ++ ((wH g ah (Hunseat (pl row con) b h)) ++ ((wT g at9 (sg, (nI n))) ++ ((wK0 g a0 ak (nI (kOd od sz), nI (kSz sz))) ++ (wHs g ak (va_up hs (kJ od sz) h) 6)))))) else ((wO g o f) ++ ((wU u (ah 0) (a0 0) (at9 0)) ++ ((wH g ah h) ++ ((wT g at9 (sg, (nI n))) ++ ((wK0 g a0 ak ((nI od), (nI sz))) ++ (wHs g ak hs 6))))))) := by rw [if_neg h0]; exact hD
      exact k_iret hx hb hr hlocks rfl (by rw [h1]) hP hD hS (Nat.le_of_ble_eq_true rfl) (Nat.le_of_ble_eq_true rfl) dL_leave_18
    ·
      have h2 : (cdLeave h row con) = 2 := by have h9 := le_L_leave h row con; omega
      have hcl : s.vm.findClass "java/lang/IllegalStateException" = some ce.cls := by first | exact hcl | (rw [h2] at hcl; exact hcl)
      refine vx_catch (own := RL) (name := "java/lang/IllegalStateException") (E := "java/lang/IllegalStateException") hown [⟨0, 12, 15, 13⟩] ⟨0, 12, 19, 15⟩ [] hT (fun z hz => by cases List.mem_singleton.mp hz; exact Or.inr ⟨by decide, "java/lang/IndexOutOfBoundsException", lk13, hSt.2.2.1⟩) rfl (by decide) lk15 (va_Nw.use rfl hSt.2.1.2.1) hce hcv hcl ?_
      refine W.eq (g2 := F0 m 19 ls [.ref q9]) rfl ?_
      refine lv_astore (lv' := [(5, .ref q9), (0, .ref u), (1, .int row), (2, .int con), (3, .int (nI b)), (4, .ref o)]) hx hb dL_leave_19 hl (by decide) rfl (fun ls hl => ?_)
      refine lv_iconst (v := (nI 2)) hx hb dL_leave_21 (by decide) ?_
      have hP : va_P g.1 vwCl (if (cdLeave h row con) = 0 then ((wO g o (vp_updL f 0 (Int32.toInt64 (hL (Hunseat (pl row con) b h) (pl row con))))) ++ ((wU u (ah 0) (a0 0) (at9 0)) ++ ((wH g ah (Hunseat (pl row con) b h)) ++ ((wT g at9 (sg, (nI n))) ++ ((wK0 g a0 ak (nI (kOd od sz), nI (kSz sz))) ++ (wHs g ak (va_up hs (kJ od sz) h) 6)))))) else ((wO g o f) ++ ((wU u (ah 0) (a0 0) (at9 0)) ++ ((wH g ah h) ++ ((wT g at9 (sg, (nI n))) ++ ((wK0 g a0 ak ((nI od), (nI sz))) ++ (wHs g ak hs 6))))))) H := by rw [if_neg h0]; exact hP
      have hD : va_D A (if (cdLeave h row con) = 0 then ((wO g o (vp_updL f 0 (Int32.toInt64 (hL (Hunseat (pl row con) b h) (pl row con))))) ++ ((wU u (ah 0) (a0 0) (at9 0)) ++ ((wH g ah (Hunseat (pl row con) b h)) ++ ((wT g at9 (sg, (nI n))) ++ ((wK0 g a0 ak (nI (kOd od sz), nI (kSz sz))) ++ (wHs g ak (va_up hs (kJ od sz) h) 6)))))) else ((wO g o f) ++ ((wU u (ah 0) (a0 0) (at9 0)) ++ ((wH g ah h) ++ ((wT g at9 (sg, (nI n))) ++ ((wK0 g a0 ak ((nI od), (nI sz))) ++ (wHs g ak hs 6))))))) := by rw [if_neg h0]; exact hD
      exact k_iret hx hb hr hlocks rfl (by rw [h2]) hP hD hS (Nat.le_of_ble_eq_true rfl) (Nat.le_of_ble_eq_true rfl) dL_leave_22
  ·
    refine lv_i2l (v := (Int32.toInt64 (hL (Hunseat (pl row con) b h) (pl row con)))) hx hb dL_leave_10 rfl ?_
    refine k_last (f := f) (ws1 := ((wO g o (vp_updL f 0 (Int32.toInt64 (hL (Hunseat (pl row con) b h) (pl row con))))) ++ ((wU u (ah 0) (a0 0) (at9 0)) ++ ((wH g ah (Hunseat (pl row con) b h)) ++ ((wT g at9 (sg, (nI n))) ++ ((wK0 g a0 ak (nI (kOd od sz), nI (kSz sz))) ++ (wHs g ak (va_up hs (kJ od sz) h) 6))))))) hx hb hE hP hD hS 0 rfl 0 rfl (by decide) (by decide) rfl dL_leave_11 (fun H locs hP hD hS => ?_)
    refine lv_goto (tgt := 23) hx hb dL_leave_12 (by decide) ?_
    refine lv_iconst (v := (nI 0)) hx hb dL_leave_23 (by decide) ?_
    have hP : va_P g.1 vwCl (if (cdLeave h row con) = 0 then ((wO g o (vp_updL f 0 (Int32.toInt64 (hL (Hunseat (pl row con) b h) (pl row con))))) ++ ((wU u (ah 0) (a0 0) (at9 0)) ++ ((wH g ah (Hunseat (pl row con) b h)) ++ ((wT g at9 (sg, (nI n))) ++ ((wK0 g a0 ak (nI (kOd od sz), nI (kSz sz))) ++ (wHs g ak (va_up hs (kJ od sz) h) 6)))))) else ((wO g o f) ++ ((wU u (ah 0) (a0 0) (at9 0)) ++ ((wH g ah h) ++ ((wT g at9 (sg, (nI n))) ++ ((wK0 g a0 ak ((nI od), (nI sz))) ++ (wHs g ak hs 6))))))) H := by rw [if_pos h0]; exact hP
    have hD : va_D A (if (cdLeave h row con) = 0 then ((wO g o (vp_updL f 0 (Int32.toInt64 (hL (Hunseat (pl row con) b h) (pl row con))))) ++ ((wU u (ah 0) (a0 0) (at9 0)) ++ ((wH g ah (Hunseat (pl row con) b h)) ++ ((wT g at9 (sg, (nI n))) ++ ((wK0 g a0 ak (nI (kOd od sz), nI (kSz sz))) ++ (wHs g ak (va_up hs (kJ od sz) h) 6)))))) else ((wO g o f) ++ ((wU u (ah 0) (a0 0) (at9 0)) ++ ((wH g ah h) ++ ((wT g at9 (sg, (nI n))) ++ ((wK0 g a0 ak ((nI od), (nI sz))) ++ (wHs g ak hs 6))))))) := by rw [if_pos h0]; exact hD
    exact k_iret hx hb hr hlocks rfl (by rw [h0]) hP hD hS (Nat.le_of_ble_eq_true rfl) (Nat.le_of_ble_eq_true rfl) dL_leave_24
set_option maxHeartbeats 4000000 in
set_option maxRecDepth 100000 in
theorem c_L_listeners (l : Launch) (hfl : l.stackTraces = false) (g : kG) (sa : Nat → Nat) (u : Nat) (ah at9 a0 : Nat → Nat) (ak : Nat → Nat → Nat) (h : HSt) (sg : Nat → Int32) (n : Nat) (hn : n ≤ 60) (hch : Tok sg n) (od sz : Nat) (hod : od < 6) (hsz : sz ≤ 6) (hs : Nat → HSt) (hbo : Hbo h) (hbs : ∀ j, Hbo (hs j)) (o : Nat) (f : Nat → Int64) (row con : Int32) : KIX l yL_listeners wsL_listeners ({ frames := 8, cells := 2, slots := 12, locals := 132 }) g sa [.ref u, .int row, .int con, .ref o] ((wO g o f) ++ ((wU u (ah 0) (a0 0) (at9 0)) ++ ((wH g ah h) ++ ((wT g at9 (sg, (nI n))) ++ ((wK0 g a0 ak ((nI od), (nI sz))) ++ (wHs g ak hs 6)))))) (nI (cdPair row con)) (if (cdPair row con) = 0 then ((wO g o (vp_updL f 0 (Int32.toInt64 (hL h (pl row con))))) ++ ((wU u (ah 0) (a0 0) (at9 0)) ++ ((wH g ah h) ++ ((wT g at9 (sg, (nI n))) ++ ((wK0 g a0 ak ((nI od), (nI sz))) ++ (wHs g ak hs 6)))))) else ((wO g o f) ++ ((wU u (ah 0) (a0 0) (at9 0)) ++ ((wH g ah h) ++ ((wT g at9 (sg, (nI n))) ++ ((wK0 g a0 ak ((nI od), (nI sz))) ++ (wHs g ak hs 6))))))) 2 12 := by
  refine k_beginH (cc := cL_listeners) (maxL := 5) (ret := (some .int)) (hh := [(0, 10, 13, 13)]) (Qc := fun A => kQi g (nI (cdPair row con)) (if (cdPair row con) = 0 then ((wO g o (vp_updL f 0 (Int32.toInt64 (hL h (pl row con))))) ++ ((wU u (ah 0) (a0 0) (at9 0)) ++ ((wH g ah h) ++ ((wT g at9 (sg, (nI n))) ++ ((wK0 g a0 ak ((nI od), (nI sz))) ++ (wHs g ak hs 6)))))) else ((wO g o f) ++ ((wU u (ah 0) (a0 0) (at9 0)) ++ ((wH g ah h) ++ ((wT g at9 (sg, (nI n))) ++ ((wK0 g a0 ak ((nI od), (nI sz))) ++ (wHs g ak hs 6))))))) A) (by decide) rfl (Nat.le_of_ble_eq_true rfl) ?_
  intro p e s m below meth c A ls hF hr hlocks hT hE hSt hZ hP hD hS hA hl
  obtain ⟨hx, hb, hml, hown, hts⟩ := id hF
  have hown : s.vm.findClass RL = some m.cls := hown
  have hl : lv_has ls 5 [(0, .ref u), (1, .int row), (2, .int con), (3, .ref o)] := hl
  have lk13 : (Cond.classLink RL 13 "java/lang/IndexOutOfBoundsException").before _ s = true := hts _ (List.mem_of_getElem? (i := 1) rfl)
  refine lv_aload_n hx hb dL_listeners_0 rfl (lv_at hl 3 rfl) ?_
  refine lv_iconst (v := (nI 0)) hx hb dL_listeners_1 (by decide) ?_
  refine lv_aload_n hx hb dL_listeners_2 rfl (lv_at hl 0 rfl) ?_
  refine lv_iload_n hx hb dL_listeners_3 rfl (lv_at hl 1 rfl) ?_
  refine lv_iload_n hx hb dL_listeners_4 rfl (lv_at hl 2 rfl) ?_
  refine k_LVi (As := [.int row, .int con]) (r := (hL h (pl row con))) (ws1 := ((wO g o f) ++ ((wU u (ah 0) (a0 0) (at9 0)) ++ ((wH g ah h) ++ ((wT g at9 (sg, (nI n))) ++ ((wK0 g a0 ak ((nI od), (nI sz))) ++ (wHs g ak hs 6))))))) hF (c_X3_listeners l hfl g sa u ah at9 a0 ak h sg n hn hch od sz hod hsz hs hbo hbs row con) (cwV 2 hts gL_listeners_X3_listeners rfl rfl rfl (by decide +kernel) ⟨Nat.le_of_ble_eq_true rfl, Nat.le_of_ble_eq_true rfl⟩) hE hSt hZ hP hD hS hA List.perm_append_comm List.perm_append_comm 1 rfl rfl rfl rfl hl.1 rfl (Nat.le_of_ble_eq_true rfl) dL_listeners_5 ⟨Nat.le_of_ble_eq_true rfl, Nat.le_of_ble_eq_true rfl⟩ (fun ce q9 H locs h0 hP hD hS hce hcv hcl => ?_) (fun H locs h0 hP hD hS => ?_)
  ·
    have h1 : (cdPair row con) = 1 := by have h9 := le_L_listeners row con; omega
    have hcl : s.vm.findClass "java/lang/IndexOutOfBoundsException" = some ce.cls := by first | exact hcl | (rw [h1] at hcl; exact hcl)
    refine vx_catch (own := RL) (name := "java/lang/IndexOutOfBoundsException") (E := "java/lang/IndexOutOfBoundsException") hown [] ⟨0, 10, 13, 13⟩ [] hT (fun z hz => nomatch hz) rfl (by decide) lk13 (va_Nw.use rfl hSt.2.1.1) hce hcv hcl ?_
    refine W.eq (g2 := F0 m 13 ls [.ref q9]) rfl ?_
    refine lv_astore (lv' := [(4, .ref q9), (0, .ref u), (1, .int row), (2, .int con), (3, .ref o)]) hx hb dL_listeners_13 hl (by decide) rfl (fun ls hl => ?_)
    refine lv_iconst (v := (nI 1)) hx hb dL_listeners_15 (by decide) ?_
    have hP : va_P g.1 vwCl (if (cdPair row con) = 0 then ((wO g o (vp_updL f 0 (Int32.toInt64 (hL h (pl row con))))) ++ ((wU u (ah 0) (a0 0) (at9 0)) ++ ((wH g ah h) ++ ((wT g at9 (sg, (nI n))) ++ ((wK0 g a0 ak ((nI od), (nI sz))) ++ (wHs g ak hs 6)))))) else ((wO g o f) ++ ((wU u (ah 0) (a0 0) (at9 0)) ++ ((wH g ah h) ++ ((wT g at9 (sg, (nI n))) ++ ((wK0 g a0 ak ((nI od), (nI sz))) ++ (wHs g ak hs 6))))))) H := by rw [if_neg h0]; exact hP
    have hD : va_D A (if (cdPair row con) = 0 then ((wO g o (vp_updL f 0 (Int32.toInt64 (hL h (pl row con))))) ++ ((wU u (ah 0) (a0 0) (at9 0)) ++ ((wH g ah h) ++ ((wT g at9 (sg, (nI n))) ++ ((wK0 g a0 ak ((nI od), (nI sz))) ++ (wHs g ak hs 6)))))) else ((wO g o f) ++ ((wU u (ah 0) (a0 0) (at9 0)) ++ ((wH g ah h) ++ ((wT g at9 (sg, (nI n))) ++ ((wK0 g a0 ak ((nI od), (nI sz))) ++ (wHs g ak hs 6))))))) := by rw [if_neg h0]; exact hD
    exact k_iret hx hb hr hlocks rfl (by rw [h1]) hP hD hS (Nat.le_of_ble_eq_true rfl) (Nat.le_of_ble_eq_true rfl) dL_listeners_16
  ·
    refine lv_i2l (v := (Int32.toInt64 (hL h (pl row con)))) hx hb dL_listeners_8 rfl ?_
    refine k_last (f := f) (ws1 := ((wO g o (vp_updL f 0 (Int32.toInt64 (hL h (pl row con))))) ++ ((wU u (ah 0) (a0 0) (at9 0)) ++ ((wH g ah h) ++ ((wT g at9 (sg, (nI n))) ++ ((wK0 g a0 ak ((nI od), (nI sz))) ++ (wHs g ak hs 6))))))) hx hb hE hP hD hS 0 rfl 0 rfl (by decide) (by decide) rfl dL_listeners_9 (fun H locs hP hD hS => ?_)
    refine lv_goto (tgt := 17) hx hb dL_listeners_10 (by decide) ?_
    refine lv_iconst (v := (nI 0)) hx hb dL_listeners_17 (by decide) ?_
    have hP : va_P g.1 vwCl (if (cdPair row con) = 0 then ((wO g o (vp_updL f 0 (Int32.toInt64 (hL h (pl row con))))) ++ ((wU u (ah 0) (a0 0) (at9 0)) ++ ((wH g ah h) ++ ((wT g at9 (sg, (nI n))) ++ ((wK0 g a0 ak ((nI od), (nI sz))) ++ (wHs g ak hs 6)))))) else ((wO g o f) ++ ((wU u (ah 0) (a0 0) (at9 0)) ++ ((wH g ah h) ++ ((wT g at9 (sg, (nI n))) ++ ((wK0 g a0 ak ((nI od), (nI sz))) ++ (wHs g ak hs 6))))))) H := by rw [if_pos h0]; exact hP
    have hD : va_D A (if (cdPair row con) = 0 then ((wO g o (vp_updL f 0 (Int32.toInt64 (hL h (pl row con))))) ++ ((wU u (ah 0) (a0 0) (at9 0)) ++ ((wH g ah h) ++ ((wT g at9 (sg, (nI n))) ++ ((wK0 g a0 ak ((nI od), (nI sz))) ++ (wHs g ak hs 6)))))) else ((wO g o f) ++ ((wU u (ah 0) (a0 0) (at9 0)) ++ ((wH g ah h) ++ ((wT g at9 (sg, (nI n))) ++ ((wK0 g a0 ak ((nI od), (nI sz))) ++ (wHs g ak hs 6))))))) := by rw [if_pos h0]; exact hD
    exact k_iret hx hb hr hlocks rfl (by rw [h0]) hP hD hS (Nat.le_of_ble_eq_true rfl) (Nat.le_of_ble_eq_true rfl) dL_listeners_18
set_option maxHeartbeats 4000000 in
set_option maxRecDepth 100000 in
theorem c_L_rest (l : Launch) (hfl : l.stackTraces = false) (g : kG) (sa : Nat → Nat) (u : Nat) (ah at9 a0 : Nat → Nat) (ak : Nat → Nat → Nat) (h : HSt) (sg : Nat → Int32) (n : Nat) (hn : n ≤ 60) (hch : Tok sg n) (od sz : Nat) (hod : od < 6) (hsz : sz ≤ 6) (hs : Nat → HSt) (hbo : Hbo h) (hbs : ∀ j, Hbo (hs j)) (o : Nat) (f : Nat → Int64) (row con : Int32) : KIX l yL_rest wsL_rest ({ frames := 8, cells := 2, slots := 12, locals := 132 }) g sa [.ref u, .int row, .int con, .ref o] ((wO g o f) ++ ((wU u (ah 0) (a0 0) (at9 0)) ++ ((wH g ah h) ++ ((wT g at9 (sg, (nI n))) ++ ((wK0 g a0 ak ((nI od), (nI sz))) ++ (wHs g ak hs 6)))))) (nI (cdPair row con)) (if (cdPair row con) = 0 then ((wO g o (vp_updL f 0 (Int32.toInt64 (hR h (pl row con))))) ++ ((wU u (ah 0) (a0 0) (at9 0)) ++ ((wH g ah h) ++ ((wT g at9 (sg, (nI n))) ++ ((wK0 g a0 ak ((nI od), (nI sz))) ++ (wHs g ak hs 6)))))) else ((wO g o f) ++ ((wU u (ah 0) (a0 0) (at9 0)) ++ ((wH g ah h) ++ ((wT g at9 (sg, (nI n))) ++ ((wK0 g a0 ak ((nI od), (nI sz))) ++ (wHs g ak hs 6))))))) 2 12 := by
  refine k_beginH (cc := cL_rest) (maxL := 5) (ret := (some .int)) (hh := [(0, 10, 13, 13)]) (Qc := fun A => kQi g (nI (cdPair row con)) (if (cdPair row con) = 0 then ((wO g o (vp_updL f 0 (Int32.toInt64 (hR h (pl row con))))) ++ ((wU u (ah 0) (a0 0) (at9 0)) ++ ((wH g ah h) ++ ((wT g at9 (sg, (nI n))) ++ ((wK0 g a0 ak ((nI od), (nI sz))) ++ (wHs g ak hs 6)))))) else ((wO g o f) ++ ((wU u (ah 0) (a0 0) (at9 0)) ++ ((wH g ah h) ++ ((wT g at9 (sg, (nI n))) ++ ((wK0 g a0 ak ((nI od), (nI sz))) ++ (wHs g ak hs 6))))))) A) (by decide) rfl (Nat.le_of_ble_eq_true rfl) ?_
  intro p e s m below meth c A ls hF hr hlocks hT hE hSt hZ hP hD hS hA hl
  obtain ⟨hx, hb, hml, hown, hts⟩ := id hF
  have hown : s.vm.findClass RL = some m.cls := hown
  have hl : lv_has ls 5 [(0, .ref u), (1, .int row), (2, .int con), (3, .ref o)] := hl
  have lk13 : (Cond.classLink RL 13 "java/lang/IndexOutOfBoundsException").before _ s = true := hts _ (List.mem_of_getElem? (i := 1) rfl)
  refine lv_aload_n hx hb dL_rest_0 rfl (lv_at hl 3 rfl) ?_
  refine lv_iconst (v := (nI 0)) hx hb dL_rest_1 (by decide) ?_
  refine lv_aload_n hx hb dL_rest_2 rfl (lv_at hl 0 rfl) ?_
  refine lv_iload_n hx hb dL_rest_3 rfl (lv_at hl 1 rfl) ?_
  refine lv_iload_n hx hb dL_rest_4 rfl (lv_at hl 2 rfl) ?_
  refine k_LVi (As := [.int row, .int con]) (r := (hR h (pl row con))) (ws1 := ((wO g o f) ++ ((wU u (ah 0) (a0 0) (at9 0)) ++ ((wH g ah h) ++ ((wT g at9 (sg, (nI n))) ++ ((wK0 g a0 ak ((nI od), (nI sz))) ++ (wHs g ak hs 6))))))) hF (c_X3_rest l hfl g sa u ah at9 a0 ak h sg n hn hch od sz hod hsz hs hbo hbs row con) (cwV 2 hts gL_rest_X3_rest rfl rfl rfl (by decide +kernel) ⟨Nat.le_of_ble_eq_true rfl, Nat.le_of_ble_eq_true rfl⟩) hE hSt hZ hP hD hS hA List.perm_append_comm List.perm_append_comm 1 rfl rfl rfl rfl hl.1 rfl (Nat.le_of_ble_eq_true rfl) dL_rest_5 ⟨Nat.le_of_ble_eq_true rfl, Nat.le_of_ble_eq_true rfl⟩ (fun ce q9 H locs h0 hP hD hS hce hcv hcl => ?_) (fun H locs h0 hP hD hS => ?_)
  ·
    have h1 : (cdPair row con) = 1 := by have h9 := le_L_rest row con; omega
    have hcl : s.vm.findClass "java/lang/IndexOutOfBoundsException" = some ce.cls := by first | exact hcl | (rw [h1] at hcl; exact hcl)
    refine vx_catch (own := RL) (name := "java/lang/IndexOutOfBoundsException") (E := "java/lang/IndexOutOfBoundsException") hown [] ⟨0, 10, 13, 13⟩ [] hT (fun z hz => nomatch hz) rfl (by decide) lk13 (va_Nw.use rfl hSt.2.1.1) hce hcv hcl ?_
    refine W.eq (g2 := F0 m 13 ls [.ref q9]) rfl ?_
    refine lv_astore (lv' := [(4, .ref q9), (0, .ref u), (1, .int row), (2, .int con), (3, .ref o)]) hx hb dL_rest_13 hl (by decide) rfl (fun ls hl => ?_)
    refine lv_iconst (v := (nI 1)) hx hb dL_rest_15 (by decide) ?_
    have hP : va_P g.1 vwCl (if (cdPair row con) = 0 then ((wO g o (vp_updL f 0 (Int32.toInt64 (hR h (pl row con))))) ++ ((wU u (ah 0) (a0 0) (at9 0)) ++ ((wH g ah h) ++ ((wT g at9 (sg, (nI n))) ++ ((wK0 g a0 ak ((nI od), (nI sz))) ++ (wHs g ak hs 6)))))) else ((wO g o f) ++ ((wU u (ah 0) (a0 0) (at9 0)) ++ ((wH g ah h) ++ ((wT g at9 (sg, (nI n))) ++ ((wK0 g a0 ak ((nI od), (nI sz))) ++ (wHs g ak hs 6))))))) H := by rw [if_neg h0]; exact hP
    have hD : va_D A (if (cdPair row con) = 0 then ((wO g o (vp_updL f 0 (Int32.toInt64 (hR h (pl row con))))) ++ ((wU u (ah 0) (a0 0) (at9 0)) ++ ((wH g ah h) ++ ((wT g at9 (sg, (nI n))) ++ ((wK0 g a0 ak ((nI od), (nI sz))) ++ (wHs g ak hs 6)))))) else ((wO g o f) ++ ((wU u (ah 0) (a0 0) (at9 0)) ++ ((wH g ah h) ++ ((wT g at9 (sg, (nI n))) ++ ((wK0 g a0 ak ((nI od), (nI sz))) ++ (wHs g ak hs 6))))))) := by rw [if_neg h0]; exact hD
    exact k_iret hx hb hr hlocks rfl (by rw [h1]) hP hD hS (Nat.le_of_ble_eq_true rfl) (Nat.le_of_ble_eq_true rfl) dL_rest_16
  ·
    refine lv_i2l (v := (Int32.toInt64 (hR h (pl row con)))) hx hb dL_rest_8 rfl ?_
    refine k_last (f := f) (ws1 := ((wO g o (vp_updL f 0 (Int32.toInt64 (hR h (pl row con))))) ++ ((wU u (ah 0) (a0 0) (at9 0)) ++ ((wH g ah h) ++ ((wT g at9 (sg, (nI n))) ++ ((wK0 g a0 ak ((nI od), (nI sz))) ++ (wHs g ak hs 6))))))) hx hb hE hP hD hS 0 rfl 0 rfl (by decide) (by decide) rfl dL_rest_9 (fun H locs hP hD hS => ?_)
    refine lv_goto (tgt := 17) hx hb dL_rest_10 (by decide) ?_
    refine lv_iconst (v := (nI 0)) hx hb dL_rest_17 (by decide) ?_
    have hP : va_P g.1 vwCl (if (cdPair row con) = 0 then ((wO g o (vp_updL f 0 (Int32.toInt64 (hR h (pl row con))))) ++ ((wU u (ah 0) (a0 0) (at9 0)) ++ ((wH g ah h) ++ ((wT g at9 (sg, (nI n))) ++ ((wK0 g a0 ak ((nI od), (nI sz))) ++ (wHs g ak hs 6)))))) else ((wO g o f) ++ ((wU u (ah 0) (a0 0) (at9 0)) ++ ((wH g ah h) ++ ((wT g at9 (sg, (nI n))) ++ ((wK0 g a0 ak ((nI od), (nI sz))) ++ (wHs g ak hs 6))))))) H := by rw [if_pos h0]; exact hP
    have hD : va_D A (if (cdPair row con) = 0 then ((wO g o (vp_updL f 0 (Int32.toInt64 (hR h (pl row con))))) ++ ((wU u (ah 0) (a0 0) (at9 0)) ++ ((wH g ah h) ++ ((wT g at9 (sg, (nI n))) ++ ((wK0 g a0 ak ((nI od), (nI sz))) ++ (wHs g ak hs 6)))))) else ((wO g o f) ++ ((wU u (ah 0) (a0 0) (at9 0)) ++ ((wH g ah h) ++ ((wT g at9 (sg, (nI n))) ++ ((wK0 g a0 ak ((nI od), (nI sz))) ++ (wHs g ak hs 6))))))) := by rw [if_pos h0]; exact hD
    exact k_iret hx hb hr hlocks rfl (by rw [h0]) hP hD hS (Nat.le_of_ble_eq_true rfl) (Nat.le_of_ble_eq_true rfl) dL_rest_18
set_option maxHeartbeats 4000000 in
set_option maxRecDepth 100000 in
theorem c_L_minutesToFade (l : Launch) (hfl : l.stackTraces = false) (g : kG) (sa : Nat → Nat) (u : Nat) (ah at9 a0 : Nat → Nat) (ak : Nat → Nat → Nat) (h : HSt) (sg : Nat → Int32) (n : Nat) (hn : n ≤ 60) (hch : Tok sg n) (od sz : Nat) (hod : od < 6) (hsz : sz ≤ 6) (hs : Nat → HSt) (hbo : Hbo h) (hbs : ∀ j, Hbo (hs j)) (o : Nat) (f : Nat → Int64) (row con : Int32) : KIX l yL_minutesToFade wsL_minutesToFade ({ frames := 8, cells := 2, slots := 12, locals := 132 }) g sa [.ref u, .int row, .int con, .ref o] ((wO g o f) ++ ((wU u (ah 0) (a0 0) (at9 0)) ++ ((wH g ah h) ++ ((wT g at9 (sg, (nI n))) ++ ((wK0 g a0 ak ((nI od), (nI sz))) ++ (wHs g ak hs 6)))))) (nI (cdPair row con)) (if (cdPair row con) = 0 then ((wO g o (vp_updL f 0 (Int32.toInt64 (HfadesIn (pl row con) h)))) ++ ((wU u (ah 0) (a0 0) (at9 0)) ++ ((wH g ah h) ++ ((wT g at9 (sg, (nI n))) ++ ((wK0 g a0 ak ((nI od), (nI sz))) ++ (wHs g ak hs 6)))))) else ((wO g o f) ++ ((wU u (ah 0) (a0 0) (at9 0)) ++ ((wH g ah h) ++ ((wT g at9 (sg, (nI n))) ++ ((wK0 g a0 ak ((nI od), (nI sz))) ++ (wHs g ak hs 6))))))) 2 12 := by
  refine k_beginH (cc := cL_minutesToFade) (maxL := 5) (ret := (some .int)) (hh := [(0, 10, 13, 13)]) (Qc := fun A => kQi g (nI (cdPair row con)) (if (cdPair row con) = 0 then ((wO g o (vp_updL f 0 (Int32.toInt64 (HfadesIn (pl row con) h)))) ++ ((wU u (ah 0) (a0 0) (at9 0)) ++ ((wH g ah h) ++ ((wT g at9 (sg, (nI n))) ++ ((wK0 g a0 ak ((nI od), (nI sz))) ++ (wHs g ak hs 6)))))) else ((wO g o f) ++ ((wU u (ah 0) (a0 0) (at9 0)) ++ ((wH g ah h) ++ ((wT g at9 (sg, (nI n))) ++ ((wK0 g a0 ak ((nI od), (nI sz))) ++ (wHs g ak hs 6))))))) A) (by decide) rfl (Nat.le_of_ble_eq_true rfl) ?_
  intro p e s m below meth c A ls hF hr hlocks hT hE hSt hZ hP hD hS hA hl
  obtain ⟨hx, hb, hml, hown, hts⟩ := id hF
  have hown : s.vm.findClass RL = some m.cls := hown
  have hl : lv_has ls 5 [(0, .ref u), (1, .int row), (2, .int con), (3, .ref o)] := hl
  have lk13 : (Cond.classLink RL 13 "java/lang/IndexOutOfBoundsException").before _ s = true := hts _ (List.mem_of_getElem? (i := 1) rfl)
  refine lv_aload_n hx hb dL_minutesToFade_0 rfl (lv_at hl 3 rfl) ?_
  refine lv_iconst (v := (nI 0)) hx hb dL_minutesToFade_1 (by decide) ?_
  refine lv_aload_n hx hb dL_minutesToFade_2 rfl (lv_at hl 0 rfl) ?_
  refine lv_iload_n hx hb dL_minutesToFade_3 rfl (lv_at hl 1 rfl) ?_
  refine lv_iload_n hx hb dL_minutesToFade_4 rfl (lv_at hl 2 rfl) ?_
  refine k_LVi (As := [.int row, .int con]) (r := (HfadesIn (pl row con) h)) (ws1 := ((wO g o f) ++ ((wU u (ah 0) (a0 0) (at9 0)) ++ ((wH g ah h) ++ ((wT g at9 (sg, (nI n))) ++ ((wK0 g a0 ak ((nI od), (nI sz))) ++ (wHs g ak hs 6))))))) hF (c_X3_minutesToFade l hfl g sa u ah at9 a0 ak h sg n hn hch od sz hod hsz hs hbo hbs row con) (cwV 2 hts gL_minutesToFade_X3_minutesToFade rfl rfl rfl (by decide +kernel) ⟨Nat.le_of_ble_eq_true rfl, Nat.le_of_ble_eq_true rfl⟩) hE hSt hZ hP hD hS hA List.perm_append_comm List.perm_append_comm 1 rfl rfl rfl rfl hl.1 rfl (Nat.le_of_ble_eq_true rfl) dL_minutesToFade_5 ⟨Nat.le_of_ble_eq_true rfl, Nat.le_of_ble_eq_true rfl⟩ (fun ce q9 H locs h0 hP hD hS hce hcv hcl => ?_) (fun H locs h0 hP hD hS => ?_)
  ·
    have h1 : (cdPair row con) = 1 := by have h9 := le_L_minutesToFade row con; omega
    have hcl : s.vm.findClass "java/lang/IndexOutOfBoundsException" = some ce.cls := by first | exact hcl | (rw [h1] at hcl; exact hcl)
    refine vx_catch (own := RL) (name := "java/lang/IndexOutOfBoundsException") (E := "java/lang/IndexOutOfBoundsException") hown [] ⟨0, 10, 13, 13⟩ [] hT (fun z hz => nomatch hz) rfl (by decide) lk13 (va_Nw.use rfl hSt.2.1.1) hce hcv hcl ?_
    refine W.eq (g2 := F0 m 13 ls [.ref q9]) rfl ?_
    refine lv_astore (lv' := [(4, .ref q9), (0, .ref u), (1, .int row), (2, .int con), (3, .ref o)]) hx hb dL_minutesToFade_13 hl (by decide) rfl (fun ls hl => ?_)
    refine lv_iconst (v := (nI 1)) hx hb dL_minutesToFade_15 (by decide) ?_
    have hP : va_P g.1 vwCl (if (cdPair row con) = 0 then ((wO g o (vp_updL f 0 (Int32.toInt64 (HfadesIn (pl row con) h)))) ++ ((wU u (ah 0) (a0 0) (at9 0)) ++ ((wH g ah h) ++ ((wT g at9 (sg, (nI n))) ++ ((wK0 g a0 ak ((nI od), (nI sz))) ++ (wHs g ak hs 6)))))) else ((wO g o f) ++ ((wU u (ah 0) (a0 0) (at9 0)) ++ ((wH g ah h) ++ ((wT g at9 (sg, (nI n))) ++ ((wK0 g a0 ak ((nI od), (nI sz))) ++ (wHs g ak hs 6))))))) H := by rw [if_neg h0]; exact hP
    have hD : va_D A (if (cdPair row con) = 0 then ((wO g o (vp_updL f 0 (Int32.toInt64 (HfadesIn (pl row con) h)))) ++ ((wU u (ah 0) (a0 0) (at9 0)) ++ ((wH g ah h) ++ ((wT g at9 (sg, (nI n))) ++ ((wK0 g a0 ak ((nI od), (nI sz))) ++ (wHs g ak hs 6)))))) else ((wO g o f) ++ ((wU u (ah 0) (a0 0) (at9 0)) ++ ((wH g ah h) ++ ((wT g at9 (sg, (nI n))) ++ ((wK0 g a0 ak ((nI od), (nI sz))) ++ (wHs g ak hs 6))))))) := by rw [if_neg h0]; exact hD
    exact k_iret hx hb hr hlocks rfl (by rw [h1]) hP hD hS (Nat.le_of_ble_eq_true rfl) (Nat.le_of_ble_eq_true rfl) dL_minutesToFade_16
  ·
    refine lv_i2l (v := (Int32.toInt64 (HfadesIn (pl row con) h))) hx hb dL_minutesToFade_8 rfl ?_
    refine k_last (f := f) (ws1 := ((wO g o (vp_updL f 0 (Int32.toInt64 (HfadesIn (pl row con) h)))) ++ ((wU u (ah 0) (a0 0) (at9 0)) ++ ((wH g ah h) ++ ((wT g at9 (sg, (nI n))) ++ ((wK0 g a0 ak ((nI od), (nI sz))) ++ (wHs g ak hs 6))))))) hx hb hE hP hD hS 0 rfl 0 rfl (by decide) (by decide) rfl dL_minutesToFade_9 (fun H locs hP hD hS => ?_)
    refine lv_goto (tgt := 17) hx hb dL_minutesToFade_10 (by decide) ?_
    refine lv_iconst (v := (nI 0)) hx hb dL_minutesToFade_17 (by decide) ?_
    have hP : va_P g.1 vwCl (if (cdPair row con) = 0 then ((wO g o (vp_updL f 0 (Int32.toInt64 (HfadesIn (pl row con) h)))) ++ ((wU u (ah 0) (a0 0) (at9 0)) ++ ((wH g ah h) ++ ((wT g at9 (sg, (nI n))) ++ ((wK0 g a0 ak ((nI od), (nI sz))) ++ (wHs g ak hs 6)))))) else ((wO g o f) ++ ((wU u (ah 0) (a0 0) (at9 0)) ++ ((wH g ah h) ++ ((wT g at9 (sg, (nI n))) ++ ((wK0 g a0 ak ((nI od), (nI sz))) ++ (wHs g ak hs 6))))))) H := by rw [if_pos h0]; exact hP
    have hD : va_D A (if (cdPair row con) = 0 then ((wO g o (vp_updL f 0 (Int32.toInt64 (HfadesIn (pl row con) h)))) ++ ((wU u (ah 0) (a0 0) (at9 0)) ++ ((wH g ah h) ++ ((wT g at9 (sg, (nI n))) ++ ((wK0 g a0 ak ((nI od), (nI sz))) ++ (wHs g ak hs 6)))))) else ((wO g o f) ++ ((wU u (ah 0) (a0 0) (at9 0)) ++ ((wH g ah h) ++ ((wT g at9 (sg, (nI n))) ++ ((wK0 g a0 ak ((nI od), (nI sz))) ++ (wHs g ak hs 6))))))) := by rw [if_pos h0]; exact hD
    exact k_iret hx hb hr hlocks rfl (by rw [h0]) hP hD hS (Nat.le_of_ble_eq_true rfl) (Nat.le_of_ble_eq_true rfl) dL_minutesToFade_18
set_option maxHeartbeats 4000000 in
set_option maxRecDepth 100000 in
theorem c_L_setOpen (l : Launch) (hfl : l.stackTraces = false) (g : kG) (sa : Nat → Nat) (u : Nat) (ah at9 a0 : Nat → Nat) (ak : Nat → Nat → Nat) (h : HSt) (sg : Nat → Int32) (n : Nat) (hn : n ≤ 60) (hch : Tok sg n) (od sz : Nat) (hod : od < 6) (hsz : sz ≤ 6) (hs : Nat → HSt) (hbo : Hbo h) (hbs : ∀ j, Hbo (hs j)) (o : Nat) (f : Nat → Int64) (row : Int32) (b : Nat) (hb2 : b < 2) : KIX l yL_setOpen wsL_setOpen ({ frames := 8, cells := 1, slots := 6, locals := 133 }) g sa [.ref u, .int row, .int (nI b), .ref o] ((wO g o f) ++ ((wU u (ah 0) (a0 0) (at9 0)) ++ ((wH g ah h) ++ ((wT g at9 (sg, (nI n))) ++ ((wK0 g a0 ak ((nI od), (nI sz))) ++ (wHs g ak hs 6)))))) (nI (ckR row)) (if (ckR row) = 0 then ((wO g o (vp_updL f 0 (bL (Hopen h row.toNatClampNeg)))) ++ ((wU u (ah 0) (a0 0) (at9 0)) ++ ((wH g ah (UOpen row b h)) ++ ((wT g at9 (sg, (nI n))) ++ ((wK0 g a0 ak (nI (kOd od sz), nI (kSz sz))) ++ (wHs g ak (va_up hs (kJ od sz) h) 6)))))) else ((wO g o f) ++ ((wU u (ah 0) (a0 0) (at9 0)) ++ ((wH g ah h) ++ ((wT g at9 (sg, (nI n))) ++ ((wK0 g a0 ak ((nI od), (nI sz))) ++ (wHs g ak hs 6))))))) 1 6 := by
  refine k_beginH (cc := cL_setOpen) (maxL := 5) (ret := (some .int)) (hh := [(0, 17, 20, 13)]) (Qc := fun A => kQi g (nI (ckR row)) (if (ckR row) = 0 then ((wO g o (vp_updL f 0 (bL (Hopen h row.toNatClampNeg)))) ++ ((wU u (ah 0) (a0 0) (at9 0)) ++ ((wH g ah (UOpen row b h)) ++ ((wT g at9 (sg, (nI n))) ++ ((wK0 g a0 ak (nI (kOd od sz), nI (kSz sz))) ++ (wHs g ak (va_up hs (kJ od sz) h) 6)))))) else ((wO g o f) ++ ((wU u (ah 0) (a0 0) (at9 0)) ++ ((wH g ah h) ++ ((wT g at9 (sg, (nI n))) ++ ((wK0 g a0 ak ((nI od), (nI sz))) ++ (wHs g ak hs 6))))))) A) (by decide) rfl (Nat.le_of_ble_eq_true rfl) ?_
  intro p e s m below meth c A ls hF hr hlocks hT hE hSt hZ hP hD hS hA hl
  obtain ⟨hx, hb, hml, hown, hts⟩ := id hF
  have hown : s.vm.findClass RL = some m.cls := hown
  have hl : lv_has ls 5 [(0, .ref u), (1, .int row), (2, .int (nI b)), (3, .ref o)] := hl
  have lk13 : (Cond.classLink RL 13 "java/lang/IndexOutOfBoundsException").before _ s = true := hts _ (List.mem_of_getElem? (i := 1) rfl)
  refine lv_aload_n hx hb dL_setOpen_0 rfl (lv_at hl 3 rfl) ?_
  refine lv_iconst (v := (nI 0)) hx hb dL_setOpen_1 (by decide) ?_
  refine lv_aload_n hx hb dL_setOpen_2 rfl (lv_at hl 0 rfl) ?_
  refine lv_iload_n hx hb dL_setOpen_3 rfl (lv_at hl 1 rfl) ?_
  refine lv_iload_n hx hb dL_setOpen_4 rfl (lv_at hl 2 rfl) ?_
  refine k_LVi (As := [.int row, .int (nI b)]) (r := (bI (Hopen h row.toNatClampNeg))) (ws1 := ((wO g o f) ++ ((wU u (ah 0) (a0 0) (at9 0)) ++ ((wH g ah (UOpen row b h)) ++ ((wT g at9 (sg, (nI n))) ++ ((wK0 g a0 ak (nI (kOd od sz), nI (kSz sz))) ++ (wHs g ak (va_up hs (kJ od sz) h) 6))))))) hF (c_X3_setOpen l hfl g sa u ah at9 a0 ak h sg n hn hch od sz hod hsz hs hbo hbs row b hb2) (cwV 2 hts gL_setOpen_X3_setOpen rfl rfl rfl (by decide +kernel) ⟨Nat.le_of_ble_eq_true rfl, Nat.le_of_ble_eq_true rfl⟩) hE hSt hZ hP hD hS hA List.perm_append_comm List.perm_append_comm 1 rfl rfl rfl rfl hl.1 rfl (Nat.le_of_ble_eq_true rfl) dL_setOpen_5 ⟨Nat.le_of_ble_eq_true rfl, Nat.le_of_ble_eq_true rfl⟩ (fun ce q9 H locs h0 hP hD hS hce hcv hcl => ?_) (fun H locs h0 hP hD hS => ?_)
  ·
    have h1 : (ckR row) = 1 := by have h9 := le_L_setOpen row; omega
    have hcl : s.vm.findClass "java/lang/IndexOutOfBoundsException" = some ce.cls := by first | exact hcl | (rw [h1] at hcl; exact hcl)
    refine vx_catch (own := RL) (name := "java/lang/IndexOutOfBoundsException") (E := "java/lang/IndexOutOfBoundsException") hown [] ⟨0, 17, 20, 13⟩ [] hT (fun z hz => nomatch hz) rfl (by decide) lk13 (va_Nw.use rfl hSt.2.1.1) hce hcv hcl ?_
    refine W.eq (g2 := F0 m 20 ls [.ref q9]) rfl ?_
    refine lv_astore (lv' := [(4, .ref q9), (0, .ref u), (1, .int row), (2, .int (nI b)), (3, .ref o)]) hx hb dL_setOpen_20 hl (by decide) rfl (fun ls hl => ?_)
    refine lv_iconst (v := (nI 1)) hx hb dL_setOpen_22 (by decide) ?_
    have hP : va_P g.1 vwCl (if (ckR row) = 0 then ((wO g o (vp_updL f 0 (bL (Hopen h row.toNatClampNeg)))) ++ ((wU u (ah 0) (a0 0) (at9 0)) ++ ((wH g ah (UOpen row b h)) ++ ((wT g at9 (sg, (nI n))) ++ ((wK0 g a0 ak (nI (kOd od sz), nI (kSz sz))) ++ (wHs g ak (va_up hs (kJ od sz) h) 6)))))) else ((wO g o f) ++ ((wU u (ah 0) (a0 0) (at9 0)) ++ ((wH g ah h) ++ ((wT g at9 (sg, (nI n))) ++ ((wK0 g a0 ak ((nI od), (nI sz))) ++ (wHs g ak hs 6))))))) H := by rw [if_neg h0]; exact hP
    have hD : va_D A (if (ckR row) = 0 then ((wO g o (vp_updL f 0 (bL (Hopen h row.toNatClampNeg)))) ++ ((wU u (ah 0) (a0 0) (at9 0)) ++ ((wH g ah (UOpen row b h)) ++ ((wT g at9 (sg, (nI n))) ++ ((wK0 g a0 ak (nI (kOd od sz), nI (kSz sz))) ++ (wHs g ak (va_up hs (kJ od sz) h) 6)))))) else ((wO g o f) ++ ((wU u (ah 0) (a0 0) (at9 0)) ++ ((wH g ah h) ++ ((wT g at9 (sg, (nI n))) ++ ((wK0 g a0 ak ((nI od), (nI sz))) ++ (wHs g ak hs 6))))))) := by rw [if_neg h0]; exact hD
    exact k_iret hx hb hr hlocks rfl (by rw [h1]) hP hD hS (Nat.le_of_ble_eq_true rfl) (Nat.le_of_ble_eq_true rfl) dL_setOpen_23
  ·
    refine k_ifeqB (tgt := 15) hx hb dL_setOpen_8 (by decide) (fun c1 => ?_) (fun c1 => ?_)
    ·
      refine lv_lconst (v := 0) hx hb dL_setOpen_15 (by decide) ?_
      refine k_last (f := f) (ws1 := ((wO g o (vp_updL f 0 0)) ++ ((wU u (ah 0) (a0 0) (at9 0)) ++ ((wH g ah (UOpen row b h)) ++ ((wT g at9 (sg, (nI n))) ++ ((wK0 g a0 ak (nI (kOd od sz), nI (kSz sz))) ++ (wHs g ak (va_up hs (kJ od sz) h) 6))))))) hx hb hE hP hD hS 0 rfl 0 rfl (by decide) (by decide) rfl dL_setOpen_16 (fun H locs hP hD hS => ?_)
      refine lv_goto (tgt := 24) hx hb dL_setOpen_17 (by decide) ?_
      refine lv_iconst (v := (nI 0)) hx hb dL_setOpen_24 (by decide) ?_
      have hP : va_P g.1 vwCl (if (ckR row) = 0 then ((wO g o (vp_updL f 0 (bL (Hopen h row.toNatClampNeg)))) ++ ((wU u (ah 0) (a0 0) (at9 0)) ++ ((wH g ah (UOpen row b h)) ++ ((wT g at9 (sg, (nI n))) ++ ((wK0 g a0 ak (nI (kOd od sz), nI (kSz sz))) ++ (wHs g ak (va_up hs (kJ od sz) h) 6)))))) else ((wO g o f) ++ ((wU u (ah 0) (a0 0) (at9 0)) ++ ((wH g ah h) ++ ((wT g at9 (sg, (nI n))) ++ ((wK0 g a0 ak ((nI od), (nI sz))) ++ (wHs g ak hs 6))))))) H := by rw [if_pos h0, bL_f c1]; exact hP
      have hD : va_D A (if (ckR row) = 0 then ((wO g o (vp_updL f 0 (bL (Hopen h row.toNatClampNeg)))) ++ ((wU u (ah 0) (a0 0) (at9 0)) ++ ((wH g ah (UOpen row b h)) ++ ((wT g at9 (sg, (nI n))) ++ ((wK0 g a0 ak (nI (kOd od sz), nI (kSz sz))) ++ (wHs g ak (va_up hs (kJ od sz) h) 6)))))) else ((wO g o f) ++ ((wU u (ah 0) (a0 0) (at9 0)) ++ ((wH g ah h) ++ ((wT g at9 (sg, (nI n))) ++ ((wK0 g a0 ak ((nI od), (nI sz))) ++ (wHs g ak hs 6))))))) := by rw [if_pos h0, bL_f c1]; exact hD
      exact k_iret hx hb hr hlocks rfl (by rw [h0]) hP hD hS (Nat.le_of_ble_eq_true rfl) (Nat.le_of_ble_eq_true rfl) dL_setOpen_25
    ·
      refine lv_lconst (v := 1) hx hb dL_setOpen_11 (by decide) ?_
      refine lv_goto (tgt := 16) hx hb dL_setOpen_12 (by decide) ?_
      refine k_last (f := f) (ws1 := ((wO g o (vp_updL f 0 1)) ++ ((wU u (ah 0) (a0 0) (at9 0)) ++ ((wH g ah (UOpen row b h)) ++ ((wT g at9 (sg, (nI n))) ++ ((wK0 g a0 ak (nI (kOd od sz), nI (kSz sz))) ++ (wHs g ak (va_up hs (kJ od sz) h) 6))))))) hx hb hE hP hD hS 0 rfl 0 rfl (by decide) (by decide) rfl dL_setOpen_16 (fun H locs hP hD hS => ?_)
      refine lv_goto (tgt := 24) hx hb dL_setOpen_17 (by decide) ?_
      refine lv_iconst (v := (nI 0)) hx hb dL_setOpen_24 (by decide) ?_
      have hP : va_P g.1 vwCl (if (ckR row) = 0 then ((wO g o (vp_updL f 0 (bL (Hopen h row.toNatClampNeg)))) ++ ((wU u (ah 0) (a0 0) (at9 0)) ++ ((wH g ah (UOpen row b h)) ++ ((wT g at9 (sg, (nI n))) ++ ((wK0 g a0 ak (nI (kOd od sz), nI (kSz sz))) ++ (wHs g ak (va_up hs (kJ od sz) h) 6)))))) else ((wO g o f) ++ ((wU u (ah 0) (a0 0) (at9 0)) ++ ((wH g ah h) ++ ((wT g at9 (sg, (nI n))) ++ ((wK0 g a0 ak ((nI od), (nI sz))) ++ (wHs g ak hs 6))))))) H := by rw [if_pos h0, bL_t c1]; exact hP
      have hD : va_D A (if (ckR row) = 0 then ((wO g o (vp_updL f 0 (bL (Hopen h row.toNatClampNeg)))) ++ ((wU u (ah 0) (a0 0) (at9 0)) ++ ((wH g ah (UOpen row b h)) ++ ((wT g at9 (sg, (nI n))) ++ ((wK0 g a0 ak (nI (kOd od sz), nI (kSz sz))) ++ (wHs g ak (va_up hs (kJ od sz) h) 6)))))) else ((wO g o f) ++ ((wU u (ah 0) (a0 0) (at9 0)) ++ ((wH g ah h) ++ ((wT g at9 (sg, (nI n))) ++ ((wK0 g a0 ak ((nI od), (nI sz))) ++ (wHs g ak hs 6))))))) := by rw [if_pos h0, bL_t c1]; exact hD
      exact k_iret hx hb hr hlocks rfl (by rw [h0]) hP hD hS (Nat.le_of_ble_eq_true rfl) (Nat.le_of_ble_eq_true rfl) dL_setOpen_25
set_option maxHeartbeats 4000000 in
set_option maxRecDepth 100000 in
theorem c_L_isOpen (l : Launch) (hfl : l.stackTraces = false) (g : kG) (sa : Nat → Nat) (u : Nat) (ah at9 a0 : Nat → Nat) (ak : Nat → Nat → Nat) (h : HSt) (sg : Nat → Int32) (n : Nat) (hn : n ≤ 60) (hch : Tok sg n) (od sz : Nat) (hod : od < 6) (hsz : sz ≤ 6) (hs : Nat → HSt) (hbo : Hbo h) (hbs : ∀ j, Hbo (hs j)) (o : Nat) (f : Nat → Int64) (row : Int32) : KIX l yL_isOpen wsL_isOpen ({ frames := 8, cells := 1, slots := 6, locals := 131 }) g sa [.ref u, .int row, .ref o] ((wO g o f) ++ ((wU u (ah 0) (a0 0) (at9 0)) ++ ((wH g ah h) ++ ((wT g at9 (sg, (nI n))) ++ ((wK0 g a0 ak ((nI od), (nI sz))) ++ (wHs g ak hs 6)))))) (nI (ckR row)) (if (ckR row) = 0 then ((wO g o (vp_updL f 0 (bL (Hopen h row.toNatClampNeg)))) ++ ((wU u (ah 0) (a0 0) (at9 0)) ++ ((wH g ah h) ++ ((wT g at9 (sg, (nI n))) ++ ((wK0 g a0 ak ((nI od), (nI sz))) ++ (wHs g ak hs 6)))))) else ((wO g o f) ++ ((wU u (ah 0) (a0 0) (at9 0)) ++ ((wH g ah h) ++ ((wT g at9 (sg, (nI n))) ++ ((wK0 g a0 ak ((nI od), (nI sz))) ++ (wHs g ak hs 6))))))) 1 6 := by
  refine k_beginH (cc := cL_isOpen) (maxL := 4) (ret := (some .int)) (hh := [(0, 16, 19, 13)]) (Qc := fun A => kQi g (nI (ckR row)) (if (ckR row) = 0 then ((wO g o (vp_updL f 0 (bL (Hopen h row.toNatClampNeg)))) ++ ((wU u (ah 0) (a0 0) (at9 0)) ++ ((wH g ah h) ++ ((wT g at9 (sg, (nI n))) ++ ((wK0 g a0 ak ((nI od), (nI sz))) ++ (wHs g ak hs 6)))))) else ((wO g o f) ++ ((wU u (ah 0) (a0 0) (at9 0)) ++ ((wH g ah h) ++ ((wT g at9 (sg, (nI n))) ++ ((wK0 g a0 ak ((nI od), (nI sz))) ++ (wHs g ak hs 6))))))) A) (by decide) rfl (Nat.le_of_ble_eq_true rfl) ?_
  intro p e s m below meth c A ls hF hr hlocks hT hE hSt hZ hP hD hS hA hl
  obtain ⟨hx, hb, hml, hown, hts⟩ := id hF
  have hown : s.vm.findClass RL = some m.cls := hown
  have hl : lv_has ls 4 [(0, .ref u), (1, .int row), (2, .ref o)] := hl
  have lk13 : (Cond.classLink RL 13 "java/lang/IndexOutOfBoundsException").before _ s = true := hts _ (List.mem_of_getElem? (i := 1) rfl)
  refine lv_aload_n hx hb dL_isOpen_0 rfl (lv_at hl 2 rfl) ?_
  refine lv_iconst (v := (nI 0)) hx hb dL_isOpen_1 (by decide) ?_
  refine lv_aload_n hx hb dL_isOpen_2 rfl (lv_at hl 0 rfl) ?_
  refine lv_iload_n hx hb dL_isOpen_3 rfl (lv_at hl 1 rfl) ?_
  refine k_LVi (As := [.int row]) (r := (bI (Hopen h row.toNatClampNeg))) (ws1 := ((wO g o f) ++ ((wU u (ah 0) (a0 0) (at9 0)) ++ ((wH g ah h) ++ ((wT g at9 (sg, (nI n))) ++ ((wK0 g a0 ak ((nI od), (nI sz))) ++ (wHs g ak hs 6))))))) hF (c_X3_isOpen l hfl g sa u ah at9 a0 ak h sg n hn hch od sz hod hsz hs hbo hbs row) (cwV 1 hts gL_isOpen_X3_isOpen rfl rfl rfl (by decide +kernel) ⟨Nat.le_of_ble_eq_true rfl, Nat.le_of_ble_eq_true rfl⟩) hE hSt hZ hP hD hS hA List.perm_append_comm List.perm_append_comm 1 rfl rfl rfl rfl hl.1 rfl (Nat.le_of_ble_eq_true rfl) dL_isOpen_4 ⟨Nat.le_of_ble_eq_true rfl, Nat.le_of_ble_eq_true rfl⟩ (fun ce q9 H locs h0 hP hD hS hce hcv hcl => ?_) (fun H locs h0 hP hD hS => ?_)
  ·
    have h1 : (ckR row) = 1 := by have h9 := le_L_isOpen row; omega
    have hcl : s.vm.findClass "java/lang/IndexOutOfBoundsException" = some ce.cls := by first | exact hcl | (rw [h1] at hcl; exact hcl)
    refine vx_catch (own := RL) (name := "java/lang/IndexOutOfBoundsException") (E := "java/lang/IndexOutOfBoundsException") hown [] ⟨0, 16, 19, 13⟩ [] hT (fun z hz => nomatch hz) rfl (by decide) lk13 (va_Nw.use rfl hSt.2.1.1) hce hcv hcl ?_
    refine W.eq (g2 := F0 m 19 ls [.ref q9]) rfl ?_
    refine lv_astore_n (lv' := [(3, .ref q9), (0, .ref u), (1, .int row), (2, .ref o)]) hx hb dL_isOpen_19 rfl hl (by decide) rfl (fun ls hl => ?_)
    refine lv_iconst (v := (nI 1)) hx hb dL_isOpen_20 (by decide) ?_
    have hP : va_P g.1 vwCl (if (ckR row) = 0 then ((wO g o (vp_updL f 0 (bL (Hopen h row.toNatClampNeg)))) ++ ((wU u (ah 0) (a0 0) (at9 0)) ++ ((wH g ah h) ++ ((wT g at9 (sg, (nI n))) ++ ((wK0 g a0 ak ((nI od), (nI sz))) ++ (wHs g ak hs 6)))))) else ((wO g o f) ++ ((wU u (ah 0) (a0 0) (at9 0)) ++ ((wH g ah h) ++ ((wT g at9 (sg, (nI n))) ++ ((wK0 g a0 ak ((nI od), (nI sz))) ++ (wHs g ak hs 6))))))) H := by rw [if_neg h0]; exact hP
    have hD : va_D A (if (ckR row) = 0 then ((wO g o (vp_updL f 0 (bL (Hopen h row.toNatClampNeg)))) ++ ((wU u (ah 0) (a0 0) (at9 0)) ++ ((wH g ah h) ++ ((wT g at9 (sg, (nI n))) ++ ((wK0 g a0 ak ((nI od), (nI sz))) ++ (wHs g ak hs 6)))))) else ((wO g o f) ++ ((wU u (ah 0) (a0 0) (at9 0)) ++ ((wH g ah h) ++ ((wT g at9 (sg, (nI n))) ++ ((wK0 g a0 ak ((nI od), (nI sz))) ++ (wHs g ak hs 6))))))) := by rw [if_neg h0]; exact hD
    exact k_iret hx hb hr hlocks rfl (by rw [h1]) hP hD hS (Nat.le_of_ble_eq_true rfl) (Nat.le_of_ble_eq_true rfl) dL_isOpen_21
  ·
    refine k_ifeqB (tgt := 14) hx hb dL_isOpen_7 (by decide) (fun c1 => ?_) (fun c1 => ?_)
    ·
      refine lv_lconst (v := 0) hx hb dL_isOpen_14 (by decide) ?_
      refine k_last (f := f) (ws1 := ((wO g o (vp_updL f 0 0)) ++ ((wU u (ah 0) (a0 0) (at9 0)) ++ ((wH g ah h) ++ ((wT g at9 (sg, (nI n))) ++ ((wK0 g a0 ak ((nI od), (nI sz))) ++ (wHs g ak hs 6))))))) hx hb hE hP hD hS 0 rfl 0 rfl (by decide) (by decide) rfl dL_isOpen_15 (fun H locs hP hD hS => ?_)
      refine lv_goto (tgt := 22) hx hb dL_isOpen_16 (by decide) ?_
      refine lv_iconst (v := (nI 0)) hx hb dL_isOpen_22 (by decide) ?_
      have hP : va_P g.1 vwCl (if (ckR row) = 0 then ((wO g o (vp_updL f 0 (bL (Hopen h row.toNatClampNeg)))) ++ ((wU u (ah 0) (a0 0) (at9 0)) ++ ((wH g ah h) ++ ((wT g at9 (sg, (nI n))) ++ ((wK0 g a0 ak ((nI od), (nI sz))) ++ (wHs g ak hs 6)))))) else ((wO g o f) ++ ((wU u (ah 0) (a0 0) (at9 0)) ++ ((wH g ah h) ++ ((wT g at9 (sg, (nI n))) ++ ((wK0 g a0 ak ((nI od), (nI sz))) ++ (wHs g ak hs 6))))))) H := by rw [if_pos h0, bL_f c1]; exact hP
      have hD : va_D A (if (ckR row) = 0 then ((wO g o (vp_updL f 0 (bL (Hopen h row.toNatClampNeg)))) ++ ((wU u (ah 0) (a0 0) (at9 0)) ++ ((wH g ah h) ++ ((wT g at9 (sg, (nI n))) ++ ((wK0 g a0 ak ((nI od), (nI sz))) ++ (wHs g ak hs 6)))))) else ((wO g o f) ++ ((wU u (ah 0) (a0 0) (at9 0)) ++ ((wH g ah h) ++ ((wT g at9 (sg, (nI n))) ++ ((wK0 g a0 ak ((nI od), (nI sz))) ++ (wHs g ak hs 6))))))) := by rw [if_pos h0, bL_f c1]; exact hD
      exact k_iret hx hb hr hlocks rfl (by rw [h0]) hP hD hS (Nat.le_of_ble_eq_true rfl) (Nat.le_of_ble_eq_true rfl) dL_isOpen_23
    ·
      refine lv_lconst (v := 1) hx hb dL_isOpen_10 (by decide) ?_
      refine lv_goto (tgt := 15) hx hb dL_isOpen_11 (by decide) ?_
      refine k_last (f := f) (ws1 := ((wO g o (vp_updL f 0 1)) ++ ((wU u (ah 0) (a0 0) (at9 0)) ++ ((wH g ah h) ++ ((wT g at9 (sg, (nI n))) ++ ((wK0 g a0 ak ((nI od), (nI sz))) ++ (wHs g ak hs 6))))))) hx hb hE hP hD hS 0 rfl 0 rfl (by decide) (by decide) rfl dL_isOpen_15 (fun H locs hP hD hS => ?_)
      refine lv_goto (tgt := 22) hx hb dL_isOpen_16 (by decide) ?_
      refine lv_iconst (v := (nI 0)) hx hb dL_isOpen_22 (by decide) ?_
      have hP : va_P g.1 vwCl (if (ckR row) = 0 then ((wO g o (vp_updL f 0 (bL (Hopen h row.toNatClampNeg)))) ++ ((wU u (ah 0) (a0 0) (at9 0)) ++ ((wH g ah h) ++ ((wT g at9 (sg, (nI n))) ++ ((wK0 g a0 ak ((nI od), (nI sz))) ++ (wHs g ak hs 6)))))) else ((wO g o f) ++ ((wU u (ah 0) (a0 0) (at9 0)) ++ ((wH g ah h) ++ ((wT g at9 (sg, (nI n))) ++ ((wK0 g a0 ak ((nI od), (nI sz))) ++ (wHs g ak hs 6))))))) H := by rw [if_pos h0, bL_t c1]; exact hP
      have hD : va_D A (if (ckR row) = 0 then ((wO g o (vp_updL f 0 (bL (Hopen h row.toNatClampNeg)))) ++ ((wU u (ah 0) (a0 0) (at9 0)) ++ ((wH g ah h) ++ ((wT g at9 (sg, (nI n))) ++ ((wK0 g a0 ak ((nI od), (nI sz))) ++ (wHs g ak hs 6)))))) else ((wO g o f) ++ ((wU u (ah 0) (a0 0) (at9 0)) ++ ((wH g ah h) ++ ((wT g at9 (sg, (nI n))) ++ ((wK0 g a0 ak ((nI od), (nI sz))) ++ (wHs g ak hs 6))))))) := by rw [if_pos h0, bL_t c1]; exact hD
      exact k_iret hx hb hr hlocks rfl (by rw [h0]) hP hD hS (Nat.le_of_ble_eq_true rfl) (Nat.le_of_ble_eq_true rfl) dL_isOpen_23
set_option maxHeartbeats 4000000 in
set_option maxRecDepth 100000 in
theorem c_L_setTimes (l : Launch) (hfl : l.stackTraces = false) (g : kG) (sa : Nat → Nat) (u : Nat) (ah at9 a0 : Nat → Nat) (ak : Nat → Nat → Nat) (h : HSt) (sg : Nat → Int32) (n : Nat) (hn : n ≤ 60) (hch : Tok sg n) (od sz : Nat) (hod : od < 6) (hsz : sz ≤ 6) (hs : Nat → HSt) (hbo : Hbo h) (hbs : ∀ j, Hbo (hs j)) (o : Nat) (f : Nat → Int64) (t1 t2 t3 : Int32) : KIX l yL_setTimes wsL_setTimes ({ frames := 7, cells := 1, slots := 6, locals := 126 }) g sa [.ref u, .int t1, .int t2, .int t3, .ref o] ((wO g o f) ++ ((wU u (ah 0) (a0 0) (at9 0)) ++ ((wH g ah h) ++ ((wT g at9 (sg, (nI n))) ++ ((wK0 g a0 ak ((nI od), (nI sz))) ++ (wHs g ak hs 6)))))) (nI (cdTimes t1 t2 t3)) (if (cdTimes t1 t2 t3) = 0 then ((wO g o (vp_updL f 0 (Int32.toInt64 (hfd h)))) ++ ((wU u (ah 0) (a0 0) (at9 0)) ++ ((wH g ah (UTimes t1 t2 t3 h)) ++ ((wT g at9 (sg, (nI n))) ++ ((wK0 g a0 ak (nI (kOd od sz), nI (kSz sz))) ++ (wHs g ak (va_up hs (kJ od sz) h) 6)))))) else ((wO g o f) ++ ((wU u (ah 0) (a0 0) (at9 0)) ++ ((wH g ah h) ++ ((wT g at9 (sg, (nI n))) ++ ((wK0 g a0 ak ((nI od), (nI sz))) ++ (wHs g ak hs 6))))))) 1 6 := by
  refine k_beginH (cc := cL_setTimes) (maxL := 6) (ret := (some .int)) (hh := [(0, 12, 15, 32)]) (Qc := fun A => kQi g (nI (cdTimes t1 t2 t3)) (if (cdTimes t1 t2 t3) = 0 then ((wO g o (vp_updL f 0 (Int32.toInt64 (hfd h)))) ++ ((wU u (ah 0) (a0 0) (at9 0)) ++ ((wH g ah (UTimes t1 t2 t3 h)) ++ ((wT g at9 (sg, (nI n))) ++ ((wK0 g a0 ak (nI (kOd od sz), nI (kSz sz))) ++ (wHs g ak (va_up hs (kJ od sz) h) 6)))))) else ((wO g o f) ++ ((wU u (ah 0) (a0 0) (at9 0)) ++ ((wH g ah h) ++ ((wT g at9 (sg, (nI n))) ++ ((wK0 g a0 ak ((nI od), (nI sz))) ++ (wHs g ak hs 6))))))) A) (by decide) rfl (Nat.le_of_ble_eq_true rfl) ?_
  intro p e s m below meth c A ls hF hr hlocks hT hE hSt hZ hP hD hS hA hl
  obtain ⟨hx, hb, hml, hown, hts⟩ := id hF
  have hown : s.vm.findClass RL = some m.cls := hown
  have hl : lv_has ls 6 [(0, .ref u), (1, .int t1), (2, .int t2), (3, .int t3), (4, .ref o)] := hl
  have lk32 : (Cond.classLink RL 32 "java/lang/IllegalArgumentException").before _ s = true := hts _ (List.mem_of_getElem? (i := 1) rfl)
  refine lv_aload hx hb dL_setTimes_0 (lv_at hl 4 rfl) ?_
  refine lv_iconst (v := (nI 0)) hx hb dL_setTimes_2 (by decide) ?_
  refine lv_aload_n hx hb dL_setTimes_3 rfl (lv_at hl 0 rfl) ?_
  refine lv_iload_n hx hb dL_setTimes_4 rfl (lv_at hl 1 rfl) ?_
  refine lv_iload_n hx hb dL_setTimes_5 rfl (lv_at hl 2 rfl) ?_
  refine lv_iload_n hx hb dL_setTimes_6 rfl (lv_at hl 3 rfl) ?_
  refine k_LVi (As := [.int t1, .int t2, .int t3]) (r := (hfd h)) (ws1 := ((wO g o f) ++ ((wU u (ah 0) (a0 0) (at9 0)) ++ ((wH g ah (UTimes t1 t2 t3 h)) ++ ((wT g at9 (sg, (nI n))) ++ ((wK0 g a0 ak (nI (kOd od sz), nI (kSz sz))) ++ (wHs g ak (va_up hs (kJ od sz) h) 6))))))) hF (c_X3_setTimes l hfl g sa u ah at9 a0 ak h sg n hn hch od sz hod hsz hs hbo hbs t1 t2 t3) (cwV 3 hts gL_setTimes_X3_setTimes rfl rfl rfl (by decide +kernel) ⟨Nat.le_of_ble_eq_true rfl, Nat.le_of_ble_eq_true rfl⟩) hE hSt hZ hP hD hS hA List.perm_append_comm List.perm_append_comm 1 rfl rfl rfl rfl hl.1 rfl (Nat.le_of_ble_eq_true rfl) dL_setTimes_7 ⟨Nat.le_of_ble_eq_true rfl, Nat.le_of_ble_eq_true rfl⟩ (fun ce q9 H locs h0 hP hD hS hce hcv hcl => ?_) (fun H locs h0 hP hD hS => ?_)
  ·
    have h1 : (cdTimes t1 t2 t3) = 1 := by have h9 := le_L_setTimes t1 t2 t3; omega
    have hcl : s.vm.findClass "java/lang/IllegalArgumentException" = some ce.cls := by first | exact hcl | (rw [h1] at hcl; exact hcl)
    refine vx_catch (own := RL) (name := "java/lang/IllegalArgumentException") (E := "java/lang/IllegalArgumentException") hown [] ⟨0, 12, 15, 32⟩ [] hT (fun z hz => nomatch hz) rfl (by decide) lk32 (va_Nw.use rfl hSt.2.1.2.2.1) hce hcv hcl ?_
    refine W.eq (g2 := F0 m 15 ls [.ref q9]) rfl ?_
    refine lv_astore (lv' := [(5, .ref q9), (0, .ref u), (1, .int t1), (2, .int t2), (3, .int t3), (4, .ref o)]) hx hb dL_setTimes_15 hl (by decide) rfl (fun ls hl => ?_)
    refine lv_iconst (v := (nI 1)) hx hb dL_setTimes_17 (by decide) ?_
    have hP : va_P g.1 vwCl (if (cdTimes t1 t2 t3) = 0 then ((wO g o (vp_updL f 0 (Int32.toInt64 (hfd h)))) ++ ((wU u (ah 0) (a0 0) (at9 0)) ++ ((wH g ah (UTimes t1 t2 t3 h)) ++ ((wT g at9 (sg, (nI n))) ++ ((wK0 g a0 ak (nI (kOd od sz), nI (kSz sz))) ++ (wHs g ak (va_up hs (kJ od sz) h) 6)))))) else ((wO g o f) ++ ((wU u (ah 0) (a0 0) (at9 0)) ++ ((wH g ah h) ++ ((wT g at9 (sg, (nI n))) ++ ((wK0 g a0 ak ((nI od), (nI sz))) ++ (wHs g ak hs 6))))))) H := by rw [if_neg h0]; exact hP
    have hD : va_D A (if (cdTimes t1 t2 t3) = 0 then ((wO g o (vp_updL f 0 (Int32.toInt64 (hfd h)))) ++ ((wU u (ah 0) (a0 0) (at9 0)) ++ ((wH g ah (UTimes t1 t2 t3 h)) ++ ((wT g at9 (sg, (nI n))) ++ ((wK0 g a0 ak (nI (kOd od sz), nI (kSz sz))) ++ (wHs g ak (va_up hs (kJ od sz) h) 6)))))) else ((wO g o f) ++ ((wU u (ah 0) (a0 0) (at9 0)) ++ ((wH g ah h) ++ ((wT g at9 (sg, (nI n))) ++ ((wK0 g a0 ak ((nI od), (nI sz))) ++ (wHs g ak hs 6))))))) := by rw [if_neg h0]; exact hD
    exact k_iret hx hb hr hlocks rfl (by rw [h1]) hP hD hS (Nat.le_of_ble_eq_true rfl) (Nat.le_of_ble_eq_true rfl) dL_setTimes_18
  ·
    refine lv_i2l (v := (Int32.toInt64 (hfd h))) hx hb dL_setTimes_10 rfl ?_
    refine k_last (f := f) (ws1 := ((wO g o (vp_updL f 0 (Int32.toInt64 (hfd h)))) ++ ((wU u (ah 0) (a0 0) (at9 0)) ++ ((wH g ah (UTimes t1 t2 t3 h)) ++ ((wT g at9 (sg, (nI n))) ++ ((wK0 g a0 ak (nI (kOd od sz), nI (kSz sz))) ++ (wHs g ak (va_up hs (kJ od sz) h) 6))))))) hx hb hE hP hD hS 0 rfl 0 rfl (by decide) (by decide) rfl dL_setTimes_11 (fun H locs hP hD hS => ?_)
    refine lv_goto (tgt := 19) hx hb dL_setTimes_12 (by decide) ?_
    refine lv_iconst (v := (nI 0)) hx hb dL_setTimes_19 (by decide) ?_
    have hP : va_P g.1 vwCl (if (cdTimes t1 t2 t3) = 0 then ((wO g o (vp_updL f 0 (Int32.toInt64 (hfd h)))) ++ ((wU u (ah 0) (a0 0) (at9 0)) ++ ((wH g ah (UTimes t1 t2 t3 h)) ++ ((wT g at9 (sg, (nI n))) ++ ((wK0 g a0 ak (nI (kOd od sz), nI (kSz sz))) ++ (wHs g ak (va_up hs (kJ od sz) h) 6)))))) else ((wO g o f) ++ ((wU u (ah 0) (a0 0) (at9 0)) ++ ((wH g ah h) ++ ((wT g at9 (sg, (nI n))) ++ ((wK0 g a0 ak ((nI od), (nI sz))) ++ (wHs g ak hs 6))))))) H := by rw [if_pos h0]; exact hP
    have hD : va_D A (if (cdTimes t1 t2 t3) = 0 then ((wO g o (vp_updL f 0 (Int32.toInt64 (hfd h)))) ++ ((wU u (ah 0) (a0 0) (at9 0)) ++ ((wH g ah (UTimes t1 t2 t3 h)) ++ ((wT g at9 (sg, (nI n))) ++ ((wK0 g a0 ak (nI (kOd od sz), nI (kSz sz))) ++ (wHs g ak (va_up hs (kJ od sz) h) 6)))))) else ((wO g o f) ++ ((wU u (ah 0) (a0 0) (at9 0)) ++ ((wH g ah h) ++ ((wT g at9 (sg, (nI n))) ++ ((wK0 g a0 ak ((nI od), (nI sz))) ++ (wHs g ak hs 6))))))) := by rw [if_pos h0]; exact hD
    exact k_iret hx hb hr hlocks rfl (by rw [h0]) hP hD hS (Nat.le_of_ble_eq_true rfl) (Nat.le_of_ble_eq_true rfl) dL_setTimes_20
set_option maxHeartbeats 4000000 in
set_option maxRecDepth 100000 in
theorem c_L_setPresent (l : Launch) (hfl : l.stackTraces = false) (g : kG) (sa : Nat → Nat) (u : Nat) (ah at9 a0 : Nat → Nat) (ak : Nat → Nat → Nat) (h : HSt) (sg : Nat → Int32) (n : Nat) (hn : n ≤ 60) (hch : Tok sg n) (od sz : Nat) (hod : od < 6) (hsz : sz ≤ 6) (hs : Nat → HSt) (hbo : Hbo h) (hbs : ∀ j, Hbo (hs j)) (o : Nat) (f : Nat → Int64) (w9 : Int32) (b : Nat) (hb2 : b < 2) : KIX l yL_setPresent wsL_setPresent ({ frames := 7, cells := 1, slots := 6, locals := 124 }) g sa [.ref u, .int w9, .int (nI b), .ref o] ((wO g o f) ++ ((wU u (ah 0) (a0 0) (at9 0)) ++ ((wH g ah h) ++ ((wT g at9 (sg, (nI n))) ++ ((wK0 g a0 ak ((nI od), (nI sz))) ++ (wHs g ak hs 6)))))) (nI (cdPres w9)) (if (cdPres w9) = 0 then ((wO g o (vp_updL f 0 (Int32.toInt64 (Hchief (UPres w9 b h))))) ++ ((wU u (ah 0) (a0 0) (at9 0)) ++ ((wH g ah (UPres w9 b h)) ++ ((wT g at9 (sg, (nI n))) ++ ((wK0 g a0 ak (nI (kOd od sz), nI (kSz sz))) ++ (wHs g ak (va_up hs (kJ od sz) h) 6)))))) else ((wO g o f) ++ ((wU u (ah 0) (a0 0) (at9 0)) ++ ((wH g ah h) ++ ((wT g at9 (sg, (nI n))) ++ ((wK0 g a0 ak ((nI od), (nI sz))) ++ (wHs g ak hs 6))))))) 1 6 := by
  refine k_beginH (cc := cL_setPresent) (maxL := 5) (ret := (some .int)) (hh := [(0, 10, 13, 13)]) (Qc := fun A => kQi g (nI (cdPres w9)) (if (cdPres w9) = 0 then ((wO g o (vp_updL f 0 (Int32.toInt64 (Hchief (UPres w9 b h))))) ++ ((wU u (ah 0) (a0 0) (at9 0)) ++ ((wH g ah (UPres w9 b h)) ++ ((wT g at9 (sg, (nI n))) ++ ((wK0 g a0 ak (nI (kOd od sz), nI (kSz sz))) ++ (wHs g ak (va_up hs (kJ od sz) h) 6)))))) else ((wO g o f) ++ ((wU u (ah 0) (a0 0) (at9 0)) ++ ((wH g ah h) ++ ((wT g at9 (sg, (nI n))) ++ ((wK0 g a0 ak ((nI od), (nI sz))) ++ (wHs g ak hs 6))))))) A) (by decide) rfl (Nat.le_of_ble_eq_true rfl) ?_
  intro p e s m below meth c A ls hF hr hlocks hT hE hSt hZ hP hD hS hA hl
  obtain ⟨hx, hb, hml, hown, hts⟩ := id hF
  have hown : s.vm.findClass RL = some m.cls := hown
  have hl : lv_has ls 5 [(0, .ref u), (1, .int w9), (2, .int (nI b)), (3, .ref o)] := hl
  have lk13 : (Cond.classLink RL 13 "java/lang/IndexOutOfBoundsException").before _ s = true := hts _ (List.mem_of_getElem? (i := 1) rfl)
  refine lv_aload_n hx hb dL_setPresent_0 rfl (lv_at hl 3 rfl) ?_
  refine lv_iconst (v := (nI 0)) hx hb dL_setPresent_1 (by decide) ?_
  refine lv_aload_n hx hb dL_setPresent_2 rfl (lv_at hl 0 rfl) ?_
  refine lv_iload_n hx hb dL_setPresent_3 rfl (lv_at hl 1 rfl) ?_
  refine lv_iload_n hx hb dL_setPresent_4 rfl (lv_at hl 2 rfl) ?_
  refine k_LVi (As := [.int w9, .int (nI b)]) (r := (Hchief (UPres w9 b h))) (ws1 := ((wO g o f) ++ ((wU u (ah 0) (a0 0) (at9 0)) ++ ((wH g ah (UPres w9 b h)) ++ ((wT g at9 (sg, (nI n))) ++ ((wK0 g a0 ak (nI (kOd od sz), nI (kSz sz))) ++ (wHs g ak (va_up hs (kJ od sz) h) 6))))))) hF (c_X3_setPresent l hfl g sa u ah at9 a0 ak h sg n hn hch od sz hod hsz hs hbo hbs w9 b hb2) (cwV 2 hts gL_setPresent_X3_setPresent rfl rfl rfl (by decide +kernel) ⟨Nat.le_of_ble_eq_true rfl, Nat.le_of_ble_eq_true rfl⟩) hE hSt hZ hP hD hS hA List.perm_append_comm List.perm_append_comm 1 rfl rfl rfl rfl hl.1 rfl (Nat.le_of_ble_eq_true rfl) dL_setPresent_5 ⟨Nat.le_of_ble_eq_true rfl, Nat.le_of_ble_eq_true rfl⟩ (fun ce q9 H locs h0 hP hD hS hce hcv hcl => ?_) (fun H locs h0 hP hD hS => ?_)
  ·
    have h1 : (cdPres w9) = 1 := by have h9 := le_L_setPresent w9; omega
    have hcl : s.vm.findClass "java/lang/IndexOutOfBoundsException" = some ce.cls := by first | exact hcl | (rw [h1] at hcl; exact hcl)
    refine vx_catch (own := RL) (name := "java/lang/IndexOutOfBoundsException") (E := "java/lang/IndexOutOfBoundsException") hown [] ⟨0, 10, 13, 13⟩ [] hT (fun z hz => nomatch hz) rfl (by decide) lk13 (va_Nw.use rfl hSt.2.1.1) hce hcv hcl ?_
    refine W.eq (g2 := F0 m 13 ls [.ref q9]) rfl ?_
    refine lv_astore (lv' := [(4, .ref q9), (0, .ref u), (1, .int w9), (2, .int (nI b)), (3, .ref o)]) hx hb dL_setPresent_13 hl (by decide) rfl (fun ls hl => ?_)
    refine lv_iconst (v := (nI 1)) hx hb dL_setPresent_15 (by decide) ?_
    have hP : va_P g.1 vwCl (if (cdPres w9) = 0 then ((wO g o (vp_updL f 0 (Int32.toInt64 (Hchief (UPres w9 b h))))) ++ ((wU u (ah 0) (a0 0) (at9 0)) ++ ((wH g ah (UPres w9 b h)) ++ ((wT g at9 (sg, (nI n))) ++ ((wK0 g a0 ak (nI (kOd od sz), nI (kSz sz))) ++ (wHs g ak (va_up hs (kJ od sz) h) 6)))))) else ((wO g o f) ++ ((wU u (ah 0) (a0 0) (at9 0)) ++ ((wH g ah h) ++ ((wT g at9 (sg, (nI n))) ++ ((wK0 g a0 ak ((nI od), (nI sz))) ++ (wHs g ak hs 6))))))) H := by rw [if_neg h0]; exact hP
    have hD : va_D A (if (cdPres w9) = 0 then ((wO g o (vp_updL f 0 (Int32.toInt64 (Hchief (UPres w9 b h))))) ++ ((wU u (ah 0) (a0 0) (at9 0)) ++ ((wH g ah (UPres w9 b h)) ++ ((wT g at9 (sg, (nI n))) ++ ((wK0 g a0 ak (nI (kOd od sz), nI (kSz sz))) ++ (wHs g ak (va_up hs (kJ od sz) h) 6)))))) else ((wO g o f) ++ ((wU u (ah 0) (a0 0) (at9 0)) ++ ((wH g ah h) ++ ((wT g at9 (sg, (nI n))) ++ ((wK0 g a0 ak ((nI od), (nI sz))) ++ (wHs g ak hs 6))))))) := by rw [if_neg h0]; exact hD
    exact k_iret hx hb hr hlocks rfl (by rw [h1]) hP hD hS (Nat.le_of_ble_eq_true rfl) (Nat.le_of_ble_eq_true rfl) dL_setPresent_16
  ·
    refine lv_i2l (v := (Int32.toInt64 (Hchief (UPres w9 b h)))) hx hb dL_setPresent_8 rfl ?_
    refine k_last (f := f) (ws1 := ((wO g o (vp_updL f 0 (Int32.toInt64 (Hchief (UPres w9 b h))))) ++ ((wU u (ah 0) (a0 0) (at9 0)) ++ ((wH g ah (UPres w9 b h)) ++ ((wT g at9 (sg, (nI n))) ++ ((wK0 g a0 ak (nI (kOd od sz), nI (kSz sz))) ++ (wHs g ak (va_up hs (kJ od sz) h) 6))))))) hx hb hE hP hD hS 0 rfl 0 rfl (by decide) (by decide) rfl dL_setPresent_9 (fun H locs hP hD hS => ?_)
    refine lv_goto (tgt := 17) hx hb dL_setPresent_10 (by decide) ?_
    refine lv_iconst (v := (nI 0)) hx hb dL_setPresent_17 (by decide) ?_
    have hP : va_P g.1 vwCl (if (cdPres w9) = 0 then ((wO g o (vp_updL f 0 (Int32.toInt64 (Hchief (UPres w9 b h))))) ++ ((wU u (ah 0) (a0 0) (at9 0)) ++ ((wH g ah (UPres w9 b h)) ++ ((wT g at9 (sg, (nI n))) ++ ((wK0 g a0 ak (nI (kOd od sz), nI (kSz sz))) ++ (wHs g ak (va_up hs (kJ od sz) h) 6)))))) else ((wO g o f) ++ ((wU u (ah 0) (a0 0) (at9 0)) ++ ((wH g ah h) ++ ((wT g at9 (sg, (nI n))) ++ ((wK0 g a0 ak ((nI od), (nI sz))) ++ (wHs g ak hs 6))))))) H := by rw [if_pos h0]; exact hP
    have hD : va_D A (if (cdPres w9) = 0 then ((wO g o (vp_updL f 0 (Int32.toInt64 (Hchief (UPres w9 b h))))) ++ ((wU u (ah 0) (a0 0) (at9 0)) ++ ((wH g ah (UPres w9 b h)) ++ ((wT g at9 (sg, (nI n))) ++ ((wK0 g a0 ak (nI (kOd od sz), nI (kSz sz))) ++ (wHs g ak (va_up hs (kJ od sz) h) 6)))))) else ((wO g o f) ++ ((wU u (ah 0) (a0 0) (at9 0)) ++ ((wH g ah h) ++ ((wT g at9 (sg, (nI n))) ++ ((wK0 g a0 ak ((nI od), (nI sz))) ++ (wHs g ak hs 6))))))) := by rw [if_pos h0]; exact hD
    exact k_iret hx hb hr hlocks rfl (by rw [h0]) hP hD hS (Nat.le_of_ble_eq_true rfl) (Nat.le_of_ble_eq_true rfl) dL_setPresent_18
set_option maxHeartbeats 4000000 in
set_option maxRecDepth 100000 in
theorem c_L_rows (l : Launch) (hfl : l.stackTraces = false) (g : kG) (sa : Nat → Nat) (u : Nat) (ah at9 a0 : Nat → Nat) (ak : Nat → Nat → Nat) (h : HSt) (sg : Nat → Int32) (n : Nat) (hn : n ≤ 60) (hch : Tok sg n) (od sz : Nat) (hod : od < 6) (hsz : sz ≤ 6) (hs : Nat → HSt) (hbo : Hbo h) (hbs : ∀ j, Hbo (hs j)) (o : Nat) (f : Nat → Int64) (con : Int32) : KIX l yL_rows wsL_rows ({ frames := 8, cells := 1, slots := 6, locals := 131 }) g sa [.ref u, .int con, .ref o] ((wO g o f) ++ ((wU u (ah 0) (a0 0) (at9 0)) ++ ((wH g ah h) ++ ((wT g at9 (sg, (nI n))) ++ ((wK0 g a0 ak ((nI od), (nI sz))) ++ (wHs g ak hs 6)))))) (nI (ckC con)) (if (ckC con) = 0 then ((wO g o (vp_updL f 0 (Int32.toInt64 (Hget h con.toNatClampNeg 8)))) ++ ((wU u (ah 0) (a0 0) (at9 0)) ++ ((wH g ah h) ++ ((wT g at9 (sg, (nI n))) ++ ((wK0 g a0 ak ((nI od), (nI sz))) ++ (wHs g ak hs 6)))))) else ((wO g o f) ++ ((wU u (ah 0) (a0 0) (at9 0)) ++ ((wH g ah h) ++ ((wT g at9 (sg, (nI n))) ++ ((wK0 g a0 ak ((nI od), (nI sz))) ++ (wHs g ak hs 6))))))) 1 6 := by
  refine k_beginH (cc := cL_rows) (maxL := 4) (ret := (some .int)) (hh := [(0, 9, 12, 13)]) (Qc := fun A => kQi g (nI (ckC con)) (if (ckC con) = 0 then ((wO g o (vp_updL f 0 (Int32.toInt64 (Hget h con.toNatClampNeg 8)))) ++ ((wU u (ah 0) (a0 0) (at9 0)) ++ ((wH g ah h) ++ ((wT g at9 (sg, (nI n))) ++ ((wK0 g a0 ak ((nI od), (nI sz))) ++ (wHs g ak hs 6)))))) else ((wO g o f) ++ ((wU u (ah 0) (a0 0) (at9 0)) ++ ((wH g ah h) ++ ((wT g at9 (sg, (nI n))) ++ ((wK0 g a0 ak ((nI od), (nI sz))) ++ (wHs g ak hs 6))))))) A) (by decide) rfl (Nat.le_of_ble_eq_true rfl) ?_
  intro p e s m below meth c A ls hF hr hlocks hT hE hSt hZ hP hD hS hA hl
  obtain ⟨hx, hb, hml, hown, hts⟩ := id hF
  have hown : s.vm.findClass RL = some m.cls := hown
  have hl : lv_has ls 4 [(0, .ref u), (1, .int con), (2, .ref o)] := hl
  have lk13 : (Cond.classLink RL 13 "java/lang/IndexOutOfBoundsException").before _ s = true := hts _ (List.mem_of_getElem? (i := 1) rfl)
  refine lv_aload_n hx hb dL_rows_0 rfl (lv_at hl 2 rfl) ?_
  refine lv_iconst (v := (nI 0)) hx hb dL_rows_1 (by decide) ?_
  refine lv_aload_n hx hb dL_rows_2 rfl (lv_at hl 0 rfl) ?_
  refine lv_iload_n hx hb dL_rows_3 rfl (lv_at hl 1 rfl) ?_
  refine k_LVi (As := [.int con]) (r := (Hget h con.toNatClampNeg 8)) (ws1 := ((wO g o f) ++ ((wU u (ah 0) (a0 0) (at9 0)) ++ ((wH g ah h) ++ ((wT g at9 (sg, (nI n))) ++ ((wK0 g a0 ak ((nI od), (nI sz))) ++ (wHs g ak hs 6))))))) hF (c_X3_rows l hfl g sa u ah at9 a0 ak h sg n hn hch od sz hod hsz hs hbo hbs con) (cwV 1 hts gL_rows_X3_rows rfl rfl rfl (by decide +kernel) ⟨Nat.le_of_ble_eq_true rfl, Nat.le_of_ble_eq_true rfl⟩) hE hSt hZ hP hD hS hA List.perm_append_comm List.perm_append_comm 1 rfl rfl rfl rfl hl.1 rfl (Nat.le_of_ble_eq_true rfl) dL_rows_4 ⟨Nat.le_of_ble_eq_true rfl, Nat.le_of_ble_eq_true rfl⟩ (fun ce q9 H locs h0 hP hD hS hce hcv hcl => ?_) (fun H locs h0 hP hD hS => ?_)
  ·
    have h1 : (ckC con) = 1 := by have h9 := le_L_rows con; omega
    have hcl : s.vm.findClass "java/lang/IndexOutOfBoundsException" = some ce.cls := by first | exact hcl | (rw [h1] at hcl; exact hcl)
    refine vx_catch (own := RL) (name := "java/lang/IndexOutOfBoundsException") (E := "java/lang/IndexOutOfBoundsException") hown [] ⟨0, 9, 12, 13⟩ [] hT (fun z hz => nomatch hz) rfl (by decide) lk13 (va_Nw.use rfl hSt.2.1.1) hce hcv hcl ?_
    refine W.eq (g2 := F0 m 12 ls [.ref q9]) rfl ?_
    refine lv_astore_n (lv' := [(3, .ref q9), (0, .ref u), (1, .int con), (2, .ref o)]) hx hb dL_rows_12 rfl hl (by decide) rfl (fun ls hl => ?_)
    refine lv_iconst (v := (nI 1)) hx hb dL_rows_13 (by decide) ?_
    have hP : va_P g.1 vwCl (if (ckC con) = 0 then ((wO g o (vp_updL f 0 (Int32.toInt64 (Hget h con.toNatClampNeg 8)))) ++ ((wU u (ah 0) (a0 0) (at9 0)) ++ ((wH g ah h) ++ ((wT g at9 (sg, (nI n))) ++ ((wK0 g a0 ak ((nI od), (nI sz))) ++ (wHs g ak hs 6)))))) else ((wO g o f) ++ ((wU u (ah 0) (a0 0) (at9 0)) ++ ((wH g ah h) ++ ((wT g at9 (sg, (nI n))) ++ ((wK0 g a0 ak ((nI od), (nI sz))) ++ (wHs g ak hs 6))))))) H := by rw [if_neg h0]; exact hP
    have hD : va_D A (if (ckC con) = 0 then ((wO g o (vp_updL f 0 (Int32.toInt64 (Hget h con.toNatClampNeg 8)))) ++ ((wU u (ah 0) (a0 0) (at9 0)) ++ ((wH g ah h) ++ ((wT g at9 (sg, (nI n))) ++ ((wK0 g a0 ak ((nI od), (nI sz))) ++ (wHs g ak hs 6)))))) else ((wO g o f) ++ ((wU u (ah 0) (a0 0) (at9 0)) ++ ((wH g ah h) ++ ((wT g at9 (sg, (nI n))) ++ ((wK0 g a0 ak ((nI od), (nI sz))) ++ (wHs g ak hs 6))))))) := by rw [if_neg h0]; exact hD
    exact k_iret hx hb hr hlocks rfl (by rw [h1]) hP hD hS (Nat.le_of_ble_eq_true rfl) (Nat.le_of_ble_eq_true rfl) dL_rows_14
  ·
    refine lv_i2l (v := (Int32.toInt64 (Hget h con.toNatClampNeg 8))) hx hb dL_rows_7 rfl ?_
    refine k_last (f := f) (ws1 := ((wO g o (vp_updL f 0 (Int32.toInt64 (Hget h con.toNatClampNeg 8)))) ++ ((wU u (ah 0) (a0 0) (at9 0)) ++ ((wH g ah h) ++ ((wT g at9 (sg, (nI n))) ++ ((wK0 g a0 ak ((nI od), (nI sz))) ++ (wHs g ak hs 6))))))) hx hb hE hP hD hS 0 rfl 0 rfl (by decide) (by decide) rfl dL_rows_8 (fun H locs hP hD hS => ?_)
    refine lv_goto (tgt := 15) hx hb dL_rows_9 (by decide) ?_
    refine lv_iconst (v := (nI 0)) hx hb dL_rows_15 (by decide) ?_
    have hP : va_P g.1 vwCl (if (ckC con) = 0 then ((wO g o (vp_updL f 0 (Int32.toInt64 (Hget h con.toNatClampNeg 8)))) ++ ((wU u (ah 0) (a0 0) (at9 0)) ++ ((wH g ah h) ++ ((wT g at9 (sg, (nI n))) ++ ((wK0 g a0 ak ((nI od), (nI sz))) ++ (wHs g ak hs 6)))))) else ((wO g o f) ++ ((wU u (ah 0) (a0 0) (at9 0)) ++ ((wH g ah h) ++ ((wT g at9 (sg, (nI n))) ++ ((wK0 g a0 ak ((nI od), (nI sz))) ++ (wHs g ak hs 6))))))) H := by rw [if_pos h0]; exact hP
    have hD : va_D A (if (ckC con) = 0 then ((wO g o (vp_updL f 0 (Int32.toInt64 (Hget h con.toNatClampNeg 8)))) ++ ((wU u (ah 0) (a0 0) (at9 0)) ++ ((wH g ah h) ++ ((wT g at9 (sg, (nI n))) ++ ((wK0 g a0 ak ((nI od), (nI sz))) ++ (wHs g ak hs 6)))))) else ((wO g o f) ++ ((wU u (ah 0) (a0 0) (at9 0)) ++ ((wH g ah h) ++ ((wT g at9 (sg, (nI n))) ++ ((wK0 g a0 ak ((nI od), (nI sz))) ++ (wHs g ak hs 6))))))) := by rw [if_pos h0]; exact hD
    exact k_iret hx hb hr hlocks rfl (by rw [h0]) hP hD hS (Nat.le_of_ble_eq_true rfl) (Nat.le_of_ble_eq_true rfl) dL_rows_16
set_option maxHeartbeats 4000000 in
set_option maxRecDepth 100000 in
theorem c_L_wanted (l : Launch) (hfl : l.stackTraces = false) (g : kG) (sa : Nat → Nat) (u : Nat) (ah at9 a0 : Nat → Nat) (ak : Nat → Nat → Nat) (h : HSt) (sg : Nat → Int32) (n : Nat) (hn : n ≤ 60) (hch : Tok sg n) (od sz : Nat) (hod : od < 6) (hsz : sz ≤ 6) (hs : Nat → HSt) (hbo : Hbo h) (hbs : ∀ j, Hbo (hs j)) (o : Nat) (f : Nat → Int64) (con : Int32) : KIX l yL_wanted wsL_wanted ({ frames := 8, cells := 1, slots := 6, locals := 131 }) g sa [.ref u, .int con, .ref o] ((wO g o f) ++ ((wU u (ah 0) (a0 0) (at9 0)) ++ ((wH g ah h) ++ ((wT g at9 (sg, (nI n))) ++ ((wK0 g a0 ak ((nI od), (nI sz))) ++ (wHs g ak hs 6)))))) (nI (ckC con)) (if (ckC con) = 0 then ((wO g o (vp_updL f 0 (Int32.toInt64 (Hwant h con.toNatClampNeg 8)))) ++ ((wU u (ah 0) (a0 0) (at9 0)) ++ ((wH g ah h) ++ ((wT g at9 (sg, (nI n))) ++ ((wK0 g a0 ak ((nI od), (nI sz))) ++ (wHs g ak hs 6)))))) else ((wO g o f) ++ ((wU u (ah 0) (a0 0) (at9 0)) ++ ((wH g ah h) ++ ((wT g at9 (sg, (nI n))) ++ ((wK0 g a0 ak ((nI od), (nI sz))) ++ (wHs g ak hs 6))))))) 1 6 := by
  refine k_beginH (cc := cL_wanted) (maxL := 4) (ret := (some .int)) (hh := [(0, 9, 12, 13)]) (Qc := fun A => kQi g (nI (ckC con)) (if (ckC con) = 0 then ((wO g o (vp_updL f 0 (Int32.toInt64 (Hwant h con.toNatClampNeg 8)))) ++ ((wU u (ah 0) (a0 0) (at9 0)) ++ ((wH g ah h) ++ ((wT g at9 (sg, (nI n))) ++ ((wK0 g a0 ak ((nI od), (nI sz))) ++ (wHs g ak hs 6)))))) else ((wO g o f) ++ ((wU u (ah 0) (a0 0) (at9 0)) ++ ((wH g ah h) ++ ((wT g at9 (sg, (nI n))) ++ ((wK0 g a0 ak ((nI od), (nI sz))) ++ (wHs g ak hs 6))))))) A) (by decide) rfl (Nat.le_of_ble_eq_true rfl) ?_
  intro p e s m below meth c A ls hF hr hlocks hT hE hSt hZ hP hD hS hA hl
  obtain ⟨hx, hb, hml, hown, hts⟩ := id hF
  have hown : s.vm.findClass RL = some m.cls := hown
  have hl : lv_has ls 4 [(0, .ref u), (1, .int con), (2, .ref o)] := hl
  have lk13 : (Cond.classLink RL 13 "java/lang/IndexOutOfBoundsException").before _ s = true := hts _ (List.mem_of_getElem? (i := 1) rfl)
  refine lv_aload_n hx hb dL_wanted_0 rfl (lv_at hl 2 rfl) ?_
  refine lv_iconst (v := (nI 0)) hx hb dL_wanted_1 (by decide) ?_
  refine lv_aload_n hx hb dL_wanted_2 rfl (lv_at hl 0 rfl) ?_
  refine lv_iload_n hx hb dL_wanted_3 rfl (lv_at hl 1 rfl) ?_
  refine k_LVi (As := [.int con]) (r := (Hwant h con.toNatClampNeg 8)) (ws1 := ((wO g o f) ++ ((wU u (ah 0) (a0 0) (at9 0)) ++ ((wH g ah h) ++ ((wT g at9 (sg, (nI n))) ++ ((wK0 g a0 ak ((nI od), (nI sz))) ++ (wHs g ak hs 6))))))) hF (c_X3_wanted l hfl g sa u ah at9 a0 ak h sg n hn hch od sz hod hsz hs hbo hbs con) (cwV 1 hts gL_wanted_X3_wanted rfl rfl rfl (by decide +kernel) ⟨Nat.le_of_ble_eq_true rfl, Nat.le_of_ble_eq_true rfl⟩) hE hSt hZ hP hD hS hA List.perm_append_comm List.perm_append_comm 1 rfl rfl rfl rfl hl.1 rfl (Nat.le_of_ble_eq_true rfl) dL_wanted_4 ⟨Nat.le_of_ble_eq_true rfl, Nat.le_of_ble_eq_true rfl⟩ (fun ce q9 H locs h0 hP hD hS hce hcv hcl => ?_) (fun H locs h0 hP hD hS => ?_)
  ·
    have h1 : (ckC con) = 1 := by have h9 := le_L_wanted con; omega
    have hcl : s.vm.findClass "java/lang/IndexOutOfBoundsException" = some ce.cls := by first | exact hcl | (rw [h1] at hcl; exact hcl)
    refine vx_catch (own := RL) (name := "java/lang/IndexOutOfBoundsException") (E := "java/lang/IndexOutOfBoundsException") hown [] ⟨0, 9, 12, 13⟩ [] hT (fun z hz => nomatch hz) rfl (by decide) lk13 (va_Nw.use rfl hSt.2.1.1) hce hcv hcl ?_
    refine W.eq (g2 := F0 m 12 ls [.ref q9]) rfl ?_
    refine lv_astore_n (lv' := [(3, .ref q9), (0, .ref u), (1, .int con), (2, .ref o)]) hx hb dL_wanted_12 rfl hl (by decide) rfl (fun ls hl => ?_)
    refine lv_iconst (v := (nI 1)) hx hb dL_wanted_13 (by decide) ?_
    have hP : va_P g.1 vwCl (if (ckC con) = 0 then ((wO g o (vp_updL f 0 (Int32.toInt64 (Hwant h con.toNatClampNeg 8)))) ++ ((wU u (ah 0) (a0 0) (at9 0)) ++ ((wH g ah h) ++ ((wT g at9 (sg, (nI n))) ++ ((wK0 g a0 ak ((nI od), (nI sz))) ++ (wHs g ak hs 6)))))) else ((wO g o f) ++ ((wU u (ah 0) (a0 0) (at9 0)) ++ ((wH g ah h) ++ ((wT g at9 (sg, (nI n))) ++ ((wK0 g a0 ak ((nI od), (nI sz))) ++ (wHs g ak hs 6))))))) H := by rw [if_neg h0]; exact hP
    have hD : va_D A (if (ckC con) = 0 then ((wO g o (vp_updL f 0 (Int32.toInt64 (Hwant h con.toNatClampNeg 8)))) ++ ((wU u (ah 0) (a0 0) (at9 0)) ++ ((wH g ah h) ++ ((wT g at9 (sg, (nI n))) ++ ((wK0 g a0 ak ((nI od), (nI sz))) ++ (wHs g ak hs 6)))))) else ((wO g o f) ++ ((wU u (ah 0) (a0 0) (at9 0)) ++ ((wH g ah h) ++ ((wT g at9 (sg, (nI n))) ++ ((wK0 g a0 ak ((nI od), (nI sz))) ++ (wHs g ak hs 6))))))) := by rw [if_neg h0]; exact hD
    exact k_iret hx hb hr hlocks rfl (by rw [h1]) hP hD hS (Nat.le_of_ble_eq_true rfl) (Nat.le_of_ble_eq_true rfl) dL_wanted_14
  ·
    refine lv_i2l (v := (Int32.toInt64 (Hwant h con.toNatClampNeg 8))) hx hb dL_wanted_7 rfl ?_
    refine k_last (f := f) (ws1 := ((wO g o (vp_updL f 0 (Int32.toInt64 (Hwant h con.toNatClampNeg 8)))) ++ ((wU u (ah 0) (a0 0) (at9 0)) ++ ((wH g ah h) ++ ((wT g at9 (sg, (nI n))) ++ ((wK0 g a0 ak ((nI od), (nI sz))) ++ (wHs g ak hs 6))))))) hx hb hE hP hD hS 0 rfl 0 rfl (by decide) (by decide) rfl dL_wanted_8 (fun H locs hP hD hS => ?_)
    refine lv_goto (tgt := 15) hx hb dL_wanted_9 (by decide) ?_
    refine lv_iconst (v := (nI 0)) hx hb dL_wanted_15 (by decide) ?_
    have hP : va_P g.1 vwCl (if (ckC con) = 0 then ((wO g o (vp_updL f 0 (Int32.toInt64 (Hwant h con.toNatClampNeg 8)))) ++ ((wU u (ah 0) (a0 0) (at9 0)) ++ ((wH g ah h) ++ ((wT g at9 (sg, (nI n))) ++ ((wK0 g a0 ak ((nI od), (nI sz))) ++ (wHs g ak hs 6)))))) else ((wO g o f) ++ ((wU u (ah 0) (a0 0) (at9 0)) ++ ((wH g ah h) ++ ((wT g at9 (sg, (nI n))) ++ ((wK0 g a0 ak ((nI od), (nI sz))) ++ (wHs g ak hs 6))))))) H := by rw [if_pos h0]; exact hP
    have hD : va_D A (if (ckC con) = 0 then ((wO g o (vp_updL f 0 (Int32.toInt64 (Hwant h con.toNatClampNeg 8)))) ++ ((wU u (ah 0) (a0 0) (at9 0)) ++ ((wH g ah h) ++ ((wT g at9 (sg, (nI n))) ++ ((wK0 g a0 ak ((nI od), (nI sz))) ++ (wHs g ak hs 6)))))) else ((wO g o f) ++ ((wU u (ah 0) (a0 0) (at9 0)) ++ ((wH g ah h) ++ ((wT g at9 (sg, (nI n))) ++ ((wK0 g a0 ak ((nI od), (nI sz))) ++ (wHs g ak hs 6))))))) := by rw [if_pos h0]; exact hD
    exact k_iret hx hb hr hlocks rfl (by rw [h0]) hP hD hS (Nat.le_of_ble_eq_true rfl) (Nat.le_of_ble_eq_true rfl) dL_wanted_16
set_option maxHeartbeats 4000000 in
set_option maxRecDepth 100000 in
theorem c_L_play (l : Launch) (hfl : l.stackTraces = false) (g : kG) (sa : Nat → Nat) (u : Nat) (ah at9 a0 : Nat → Nat) (ak : Nat → Nat → Nat) (h : HSt) (sg : Nat → Int32) (n : Nat) (hn : n ≤ 60) (hch : Tok sg n) (od sz : Nat) (hod : od < 6) (hsz : sz ≤ 6) (hs : Nat → HSt) (hbo : Hbo h) (hbs : ∀ j, Hbo (hs j)) (o : Nat) (f : Nat → Int64) (con : Int32) : KIX l yL_play wsL_play ({ frames := 8, cells := 1, slots := 6, locals := 131 }) g sa [.ref u, .int con, .ref o] ((wO g o f) ++ ((wU u (ah 0) (a0 0) (at9 0)) ++ ((wH g ah h) ++ ((wT g at9 (sg, (nI n))) ++ ((wK0 g a0 ak ((nI od), (nI sz))) ++ (wHs g ak hs 6)))))) (nI (ckC con)) (if (ckC con) = 0 then ((wO g o (vp_updL f 0 (Int32.toInt64 (bc (Hget h con.toNatClampNeg 8))))) ++ ((wU u (ah 0) (a0 0) (at9 0)) ++ ((wH g ah (Hperf con.toNatClampNeg h)) ++ ((wT g at9 (sg, (nI n))) ++ ((wK0 g a0 ak (nI (kOd od sz), nI (kSz sz))) ++ (wHs g ak (va_up hs (kJ od sz) h) 6)))))) else ((wO g o f) ++ ((wU u (ah 0) (a0 0) (at9 0)) ++ ((wH g ah h) ++ ((wT g at9 (sg, (nI n))) ++ ((wK0 g a0 ak ((nI od), (nI sz))) ++ (wHs g ak hs 6))))))) 1 6 := by
  refine k_beginH (cc := cL_play) (maxL := 4) (ret := (some .int)) (hh := [(0, 9, 12, 13)]) (Qc := fun A => kQi g (nI (ckC con)) (if (ckC con) = 0 then ((wO g o (vp_updL f 0 (Int32.toInt64 (bc (Hget h con.toNatClampNeg 8))))) ++ ((wU u (ah 0) (a0 0) (at9 0)) ++ ((wH g ah (Hperf con.toNatClampNeg h)) ++ ((wT g at9 (sg, (nI n))) ++ ((wK0 g a0 ak (nI (kOd od sz), nI (kSz sz))) ++ (wHs g ak (va_up hs (kJ od sz) h) 6)))))) else ((wO g o f) ++ ((wU u (ah 0) (a0 0) (at9 0)) ++ ((wH g ah h) ++ ((wT g at9 (sg, (nI n))) ++ ((wK0 g a0 ak ((nI od), (nI sz))) ++ (wHs g ak hs 6))))))) A) (by decide) rfl (Nat.le_of_ble_eq_true rfl) ?_
  intro p e s m below meth c A ls hF hr hlocks hT hE hSt hZ hP hD hS hA hl
  obtain ⟨hx, hb, hml, hown, hts⟩ := id hF
  have hown : s.vm.findClass RL = some m.cls := hown
  have hl : lv_has ls 4 [(0, .ref u), (1, .int con), (2, .ref o)] := hl
  have lk13 : (Cond.classLink RL 13 "java/lang/IndexOutOfBoundsException").before _ s = true := hts _ (List.mem_of_getElem? (i := 1) rfl)
  refine lv_aload_n hx hb dL_play_0 rfl (lv_at hl 2 rfl) ?_
  refine lv_iconst (v := (nI 0)) hx hb dL_play_1 (by decide) ?_
  refine lv_aload_n hx hb dL_play_2 rfl (lv_at hl 0 rfl) ?_
  refine lv_iload_n hx hb dL_play_3 rfl (lv_at hl 1 rfl) ?_
  refine k_LVi (As := [.int con]) (r := (bc (Hget h con.toNatClampNeg 8))) (ws1 := ((wO g o f) ++ ((wU u (ah 0) (a0 0) (at9 0)) ++ ((wH g ah (Hperf con.toNatClampNeg h)) ++ ((wT g at9 (sg, (nI n))) ++ ((wK0 g a0 ak (nI (kOd od sz), nI (kSz sz))) ++ (wHs g ak (va_up hs (kJ od sz) h) 6))))))) hF (c_X3_play l hfl g sa u ah at9 a0 ak h sg n hn hch od sz hod hsz hs hbo hbs con) (cwV 1 hts gL_play_X3_play rfl rfl rfl (by decide +kernel) ⟨Nat.le_of_ble_eq_true rfl, Nat.le_of_ble_eq_true rfl⟩) hE hSt hZ hP hD hS hA List.perm_append_comm List.perm_append_comm 1 rfl rfl rfl rfl hl.1 rfl (Nat.le_of_ble_eq_true rfl) dL_play_4 ⟨Nat.le_of_ble_eq_true rfl, Nat.le_of_ble_eq_true rfl⟩ (fun ce q9 H locs h0 hP hD hS hce hcv hcl => ?_) (fun H locs h0 hP hD hS => ?_)
  ·
    have h1 : (ckC con) = 1 := by have h9 := le_L_play con; omega
    have hcl : s.vm.findClass "java/lang/IndexOutOfBoundsException" = some ce.cls := by first | exact hcl | (rw [h1] at hcl; exact hcl)
    refine vx_catch (own := RL) (name := "java/lang/IndexOutOfBoundsException") (E := "java/lang/IndexOutOfBoundsException") hown [] ⟨0, 9, 12, 13⟩ [] hT (fun z hz => nomatch hz) rfl (by decide) lk13 (va_Nw.use rfl hSt.2.1.1) hce hcv hcl ?_
    refine W.eq (g2 := F0 m 12 ls [.ref q9]) rfl ?_
    refine lv_astore_n (lv' := [(3, .ref q9), (0, .ref u), (1, .int con), (2, .ref o)]) hx hb dL_play_12 rfl hl (by decide) rfl (fun ls hl => ?_)
    refine lv_iconst (v := (nI 1)) hx hb dL_play_13 (by decide) ?_
    have hP : va_P g.1 vwCl (if (ckC con) = 0 then ((wO g o (vp_updL f 0 (Int32.toInt64 (bc (Hget h con.toNatClampNeg 8))))) ++ ((wU u (ah 0) (a0 0) (at9 0)) ++ ((wH g ah (Hperf con.toNatClampNeg h)) ++ ((wT g at9 (sg, (nI n))) ++ ((wK0 g a0 ak (nI (kOd od sz), nI (kSz sz))) ++ (wHs g ak (va_up hs (kJ od sz) h) 6)))))) else ((wO g o f) ++ ((wU u (ah 0) (a0 0) (at9 0)) ++ ((wH g ah h) ++ ((wT g at9 (sg, (nI n))) ++ ((wK0 g a0 ak ((nI od), (nI sz))) ++ (wHs g ak hs 6))))))) H := by rw [if_neg h0]; exact hP
    have hD : va_D A (if (ckC con) = 0 then ((wO g o (vp_updL f 0 (Int32.toInt64 (bc (Hget h con.toNatClampNeg 8))))) ++ ((wU u (ah 0) (a0 0) (at9 0)) ++ ((wH g ah (Hperf con.toNatClampNeg h)) ++ ((wT g at9 (sg, (nI n))) ++ ((wK0 g a0 ak (nI (kOd od sz), nI (kSz sz))) ++ (wHs g ak (va_up hs (kJ od sz) h) 6)))))) else ((wO g o f) ++ ((wU u (ah 0) (a0 0) (at9 0)) ++ ((wH g ah h) ++ ((wT g at9 (sg, (nI n))) ++ ((wK0 g a0 ak ((nI od), (nI sz))) ++ (wHs g ak hs 6))))))) := by rw [if_neg h0]; exact hD
    exact k_iret hx hb hr hlocks rfl (by rw [h1]) hP hD hS (Nat.le_of_ble_eq_true rfl) (Nat.le_of_ble_eq_true rfl) dL_play_14
  ·
    refine lv_i2l (v := (Int32.toInt64 (bc (Hget h con.toNatClampNeg 8)))) hx hb dL_play_7 rfl ?_
    refine k_last (f := f) (ws1 := ((wO g o (vp_updL f 0 (Int32.toInt64 (bc (Hget h con.toNatClampNeg 8))))) ++ ((wU u (ah 0) (a0 0) (at9 0)) ++ ((wH g ah (Hperf con.toNatClampNeg h)) ++ ((wT g at9 (sg, (nI n))) ++ ((wK0 g a0 ak (nI (kOd od sz), nI (kSz sz))) ++ (wHs g ak (va_up hs (kJ od sz) h) 6))))))) hx hb hE hP hD hS 0 rfl 0 rfl (by decide) (by decide) rfl dL_play_8 (fun H locs hP hD hS => ?_)
    refine lv_goto (tgt := 15) hx hb dL_play_9 (by decide) ?_
    refine lv_iconst (v := (nI 0)) hx hb dL_play_15 (by decide) ?_
    have hP : va_P g.1 vwCl (if (ckC con) = 0 then ((wO g o (vp_updL f 0 (Int32.toInt64 (bc (Hget h con.toNatClampNeg 8))))) ++ ((wU u (ah 0) (a0 0) (at9 0)) ++ ((wH g ah (Hperf con.toNatClampNeg h)) ++ ((wT g at9 (sg, (nI n))) ++ ((wK0 g a0 ak (nI (kOd od sz), nI (kSz sz))) ++ (wHs g ak (va_up hs (kJ od sz) h) 6)))))) else ((wO g o f) ++ ((wU u (ah 0) (a0 0) (at9 0)) ++ ((wH g ah h) ++ ((wT g at9 (sg, (nI n))) ++ ((wK0 g a0 ak ((nI od), (nI sz))) ++ (wHs g ak hs 6))))))) H := by rw [if_pos h0]; exact hP
    have hD : va_D A (if (ckC con) = 0 then ((wO g o (vp_updL f 0 (Int32.toInt64 (bc (Hget h con.toNatClampNeg 8))))) ++ ((wU u (ah 0) (a0 0) (at9 0)) ++ ((wH g ah (Hperf con.toNatClampNeg h)) ++ ((wT g at9 (sg, (nI n))) ++ ((wK0 g a0 ak (nI (kOd od sz), nI (kSz sz))) ++ (wHs g ak (va_up hs (kJ od sz) h) 6)))))) else ((wO g o f) ++ ((wU u (ah 0) (a0 0) (at9 0)) ++ ((wH g ah h) ++ ((wT g at9 (sg, (nI n))) ++ ((wK0 g a0 ak ((nI od), (nI sz))) ++ (wHs g ak hs 6))))))) := by rw [if_pos h0]; exact hD
    exact k_iret hx hb hr hlocks rfl (by rw [h0]) hP hD hS (Nat.le_of_ble_eq_true rfl) (Nat.le_of_ble_eq_true rfl) dL_play_16
set_option maxHeartbeats 4000000 in
set_option maxRecDepth 100000 in
theorem c_L_pass (l : Launch) (hfl : l.stackTraces = false) (g : kG) (sa : Nat → Nat) (u : Nat) (ah at9 a0 : Nat → Nat) (ak : Nat → Nat → Nat) (h : HSt) (sg : Nat → Int32) (n : Nat) (hn : n ≤ 60) (hch : Tok sg n) (od sz : Nat) (hod : od < 6) (hsz : sz ≤ 6) (hs : Nat → HSt) (hbo : Hbo h) (hbs : ∀ j, Hbo (hs j)) (o : Nat) (f : Nat → Int64) (mins : Int32) : KIX l yL_pass wsL_pass ({ frames := 8, cells := 1, slots := 6, locals := 131 }) g sa [.ref u, .int mins, .ref o] ((wO g o f) ++ ((wU u (ah 0) (a0 0) (at9 0)) ++ ((wH g ah h) ++ ((wT g at9 (sg, (nI n))) ++ ((wK0 g a0 ak ((nI od), (nI sz))) ++ (wHs g ak hs 6)))))) (nI (ckM mins)) (if (ckM mins) = 0 then ((wO g o (vp_updL f 0 (Int32.toInt64 (nI (HpassQ h mins.toNatClampNeg))))) ++ ((wU u (ah 0) (a0 0) (at9 0)) ++ ((wH g ah (HpassN h mins.toNatClampNeg)) ++ ((wT g at9 (sg, (nI n))) ++ ((wK0 g a0 ak (nI (kOd od sz), nI (kSz sz))) ++ (wHs g ak (va_up hs (kJ od sz) h) 6)))))) else ((wO g o f) ++ ((wU u (ah 0) (a0 0) (at9 0)) ++ ((wH g ah h) ++ ((wT g at9 (sg, (nI n))) ++ ((wK0 g a0 ak ((nI od), (nI sz))) ++ (wHs g ak hs 6))))))) 1 6 := by
  refine k_beginH (cc := cL_pass) (maxL := 4) (ret := (some .int)) (hh := [(0, 9, 12, 32)]) (Qc := fun A => kQi g (nI (ckM mins)) (if (ckM mins) = 0 then ((wO g o (vp_updL f 0 (Int32.toInt64 (nI (HpassQ h mins.toNatClampNeg))))) ++ ((wU u (ah 0) (a0 0) (at9 0)) ++ ((wH g ah (HpassN h mins.toNatClampNeg)) ++ ((wT g at9 (sg, (nI n))) ++ ((wK0 g a0 ak (nI (kOd od sz), nI (kSz sz))) ++ (wHs g ak (va_up hs (kJ od sz) h) 6)))))) else ((wO g o f) ++ ((wU u (ah 0) (a0 0) (at9 0)) ++ ((wH g ah h) ++ ((wT g at9 (sg, (nI n))) ++ ((wK0 g a0 ak ((nI od), (nI sz))) ++ (wHs g ak hs 6))))))) A) (by decide) rfl (Nat.le_of_ble_eq_true rfl) ?_
  intro p e s m below meth c A ls hF hr hlocks hT hE hSt hZ hP hD hS hA hl
  obtain ⟨hx, hb, hml, hown, hts⟩ := id hF
  have hown : s.vm.findClass RL = some m.cls := hown
  have hl : lv_has ls 4 [(0, .ref u), (1, .int mins), (2, .ref o)] := hl
  have lk32 : (Cond.classLink RL 32 "java/lang/IllegalArgumentException").before _ s = true := hts _ (List.mem_of_getElem? (i := 1) rfl)
  refine lv_aload_n hx hb dL_pass_0 rfl (lv_at hl 2 rfl) ?_
  refine lv_iconst (v := (nI 0)) hx hb dL_pass_1 (by decide) ?_
  refine lv_aload_n hx hb dL_pass_2 rfl (lv_at hl 0 rfl) ?_
  refine lv_iload_n hx hb dL_pass_3 rfl (lv_at hl 1 rfl) ?_
  refine k_LVi (As := [.int mins]) (r := (nI (HpassQ h mins.toNatClampNeg))) (ws1 := ((wO g o f) ++ ((wU u (ah 0) (a0 0) (at9 0)) ++ ((wH g ah (HpassN h mins.toNatClampNeg)) ++ ((wT g at9 (sg, (nI n))) ++ ((wK0 g a0 ak (nI (kOd od sz), nI (kSz sz))) ++ (wHs g ak (va_up hs (kJ od sz) h) 6))))))) hF (c_X3_pass l hfl g sa u ah at9 a0 ak h sg n hn hch od sz hod hsz hs hbo hbs mins) (cwV 1 hts gL_pass_X3_pass rfl rfl rfl (by decide +kernel) ⟨Nat.le_of_ble_eq_true rfl, Nat.le_of_ble_eq_true rfl⟩) hE hSt hZ hP hD hS hA List.perm_append_comm List.perm_append_comm 1 rfl rfl rfl rfl hl.1 rfl (Nat.le_of_ble_eq_true rfl) dL_pass_4 ⟨Nat.le_of_ble_eq_true rfl, Nat.le_of_ble_eq_true rfl⟩ (fun ce q9 H locs h0 hP hD hS hce hcv hcl => ?_) (fun H locs h0 hP hD hS => ?_)
  ·
    have h1 : (ckM mins) = 1 := by have h9 := le_L_pass mins; omega
    have hcl : s.vm.findClass "java/lang/IllegalArgumentException" = some ce.cls := by first | exact hcl | (rw [h1] at hcl; exact hcl)
    refine vx_catch (own := RL) (name := "java/lang/IllegalArgumentException") (E := "java/lang/IllegalArgumentException") hown [] ⟨0, 9, 12, 32⟩ [] hT (fun z hz => nomatch hz) rfl (by decide) lk32 (va_Nw.use rfl hSt.2.1.2.2.1) hce hcv hcl ?_
    refine W.eq (g2 := F0 m 12 ls [.ref q9]) rfl ?_
    refine lv_astore_n (lv' := [(3, .ref q9), (0, .ref u), (1, .int mins), (2, .ref o)]) hx hb dL_pass_12 rfl hl (by decide) rfl (fun ls hl => ?_)
    refine lv_iconst (v := (nI 1)) hx hb dL_pass_13 (by decide) ?_
    have hP : va_P g.1 vwCl (if (ckM mins) = 0 then ((wO g o (vp_updL f 0 (Int32.toInt64 (nI (HpassQ h mins.toNatClampNeg))))) ++ ((wU u (ah 0) (a0 0) (at9 0)) ++ ((wH g ah (HpassN h mins.toNatClampNeg)) ++ ((wT g at9 (sg, (nI n))) ++ ((wK0 g a0 ak (nI (kOd od sz), nI (kSz sz))) ++ (wHs g ak (va_up hs (kJ od sz) h) 6)))))) else ((wO g o f) ++ ((wU u (ah 0) (a0 0) (at9 0)) ++ ((wH g ah h) ++ ((wT g at9 (sg, (nI n))) ++ ((wK0 g a0 ak ((nI od), (nI sz))) ++ (wHs g ak hs 6))))))) H := by rw [if_neg h0]; exact hP
    have hD : va_D A (if (ckM mins) = 0 then ((wO g o (vp_updL f 0 (Int32.toInt64 (nI (HpassQ h mins.toNatClampNeg))))) ++ ((wU u (ah 0) (a0 0) (at9 0)) ++ ((wH g ah (HpassN h mins.toNatClampNeg)) ++ ((wT g at9 (sg, (nI n))) ++ ((wK0 g a0 ak (nI (kOd od sz), nI (kSz sz))) ++ (wHs g ak (va_up hs (kJ od sz) h) 6)))))) else ((wO g o f) ++ ((wU u (ah 0) (a0 0) (at9 0)) ++ ((wH g ah h) ++ ((wT g at9 (sg, (nI n))) ++ ((wK0 g a0 ak ((nI od), (nI sz))) ++ (wHs g ak hs 6))))))) := by rw [if_neg h0]; exact hD
    exact k_iret hx hb hr hlocks rfl (by rw [h1]) hP hD hS (Nat.le_of_ble_eq_true rfl) (Nat.le_of_ble_eq_true rfl) dL_pass_14
  ·
    refine lv_i2l (v := (Int32.toInt64 (nI (HpassQ h mins.toNatClampNeg)))) hx hb dL_pass_7 rfl ?_
    refine k_last (f := f) (ws1 := ((wO g o (vp_updL f 0 (Int32.toInt64 (nI (HpassQ h mins.toNatClampNeg))))) ++ ((wU u (ah 0) (a0 0) (at9 0)) ++ ((wH g ah (HpassN h mins.toNatClampNeg)) ++ ((wT g at9 (sg, (nI n))) ++ ((wK0 g a0 ak (nI (kOd od sz), nI (kSz sz))) ++ (wHs g ak (va_up hs (kJ od sz) h) 6))))))) hx hb hE hP hD hS 0 rfl 0 rfl (by decide) (by decide) rfl dL_pass_8 (fun H locs hP hD hS => ?_)
    refine lv_goto (tgt := 15) hx hb dL_pass_9 (by decide) ?_
    refine lv_iconst (v := (nI 0)) hx hb dL_pass_15 (by decide) ?_
    have hP : va_P g.1 vwCl (if (ckM mins) = 0 then ((wO g o (vp_updL f 0 (Int32.toInt64 (nI (HpassQ h mins.toNatClampNeg))))) ++ ((wU u (ah 0) (a0 0) (at9 0)) ++ ((wH g ah (HpassN h mins.toNatClampNeg)) ++ ((wT g at9 (sg, (nI n))) ++ ((wK0 g a0 ak (nI (kOd od sz), nI (kSz sz))) ++ (wHs g ak (va_up hs (kJ od sz) h) 6)))))) else ((wO g o f) ++ ((wU u (ah 0) (a0 0) (at9 0)) ++ ((wH g ah h) ++ ((wT g at9 (sg, (nI n))) ++ ((wK0 g a0 ak ((nI od), (nI sz))) ++ (wHs g ak hs 6))))))) H := by rw [if_pos h0]; exact hP
    have hD : va_D A (if (ckM mins) = 0 then ((wO g o (vp_updL f 0 (Int32.toInt64 (nI (HpassQ h mins.toNatClampNeg))))) ++ ((wU u (ah 0) (a0 0) (at9 0)) ++ ((wH g ah (HpassN h mins.toNatClampNeg)) ++ ((wT g at9 (sg, (nI n))) ++ ((wK0 g a0 ak (nI (kOd od sz), nI (kSz sz))) ++ (wHs g ak (va_up hs (kJ od sz) h) 6)))))) else ((wO g o f) ++ ((wU u (ah 0) (a0 0) (at9 0)) ++ ((wH g ah h) ++ ((wT g at9 (sg, (nI n))) ++ ((wK0 g a0 ak ((nI od), (nI sz))) ++ (wHs g ak hs 6))))))) := by rw [if_pos h0]; exact hD
    exact k_iret hx hb hr hlocks rfl (by rw [h0]) hP hD hS (Nat.le_of_ble_eq_true rfl) (Nat.le_of_ble_eq_true rfl) dL_pass_16
set_option maxHeartbeats 4000000 in
set_option maxRecDepth 100000 in
theorem c_L_count (l : Launch) (hfl : l.stackTraces = false) (g : kG) (sa : Nat → Nat) (u : Nat) (ah at9 a0 : Nat → Nat) (ak : Nat → Nat → Nat) (h : HSt) (sg : Nat → Int32) (n : Nat) (hn : n ≤ 60) (hch : Tok sg n) (od sz : Nat) (hod : od < 6) (hsz : sz ≤ 6) (hs : Nat → HSt) (hbo : Hbo h) (hbs : ∀ j, Hbo (hs j)) (o : Nat) (f : Nat → Int64) (what : Int32) : KIX l yL_count wsL_count ({ frames := 7, cells := 1, slots := 6, locals := 111 }) g sa [.ref u, .int what, .ref o] ((wO g o f) ++ ((wU u (ah 0) (a0 0) (at9 0)) ++ ((wH g ah h) ++ ((wT g at9 (sg, (nI n))) ++ ((wK0 g a0 ak ((nI od), (nI sz))) ++ (wHs g ak hs 6)))))) (nI (cdCount what)) (if (cdCount what) = 0 then ((wO g o (vp_updL f 0 (Int32.toInt64 (hC h what.toNatClampNeg)))) ++ ((wU u (ah 0) (a0 0) (at9 0)) ++ ((wH g ah h) ++ ((wT g at9 (sg, (nI n))) ++ ((wK0 g a0 ak ((nI od), (nI sz))) ++ (wHs g ak hs 6)))))) else ((wO g o f) ++ ((wU u (ah 0) (a0 0) (at9 0)) ++ ((wH g ah h) ++ ((wT g at9 (sg, (nI n))) ++ ((wK0 g a0 ak ((nI od), (nI sz))) ++ (wHs g ak hs 6))))))) 1 6 := by
  refine k_beginH (cc := cL_count) (maxL := 4) (ret := (some .int)) (hh := [(0, 9, 12, 13)]) (Qc := fun A => kQi g (nI (cdCount what)) (if (cdCount what) = 0 then ((wO g o (vp_updL f 0 (Int32.toInt64 (hC h what.toNatClampNeg)))) ++ ((wU u (ah 0) (a0 0) (at9 0)) ++ ((wH g ah h) ++ ((wT g at9 (sg, (nI n))) ++ ((wK0 g a0 ak ((nI od), (nI sz))) ++ (wHs g ak hs 6)))))) else ((wO g o f) ++ ((wU u (ah 0) (a0 0) (at9 0)) ++ ((wH g ah h) ++ ((wT g at9 (sg, (nI n))) ++ ((wK0 g a0 ak ((nI od), (nI sz))) ++ (wHs g ak hs 6))))))) A) (by decide) rfl (Nat.le_of_ble_eq_true rfl) ?_
  intro p e s m below meth c A ls hF hr hlocks hT hE hSt hZ hP hD hS hA hl
  obtain ⟨hx, hb, hml, hown, hts⟩ := id hF
  have hown : s.vm.findClass RL = some m.cls := hown
  have hl : lv_has ls 4 [(0, .ref u), (1, .int what), (2, .ref o)] := hl
  have lk13 : (Cond.classLink RL 13 "java/lang/IndexOutOfBoundsException").before _ s = true := hts _ (List.mem_of_getElem? (i := 1) rfl)
  refine lv_aload_n hx hb dL_count_0 rfl (lv_at hl 2 rfl) ?_
  refine lv_iconst (v := (nI 0)) hx hb dL_count_1 (by decide) ?_
  refine lv_aload_n hx hb dL_count_2 rfl (lv_at hl 0 rfl) ?_
  refine lv_iload_n hx hb dL_count_3 rfl (lv_at hl 1 rfl) ?_
  refine k_LVi (As := [.int what]) (r := (hC h what.toNatClampNeg)) (ws1 := ((wO g o f) ++ ((wU u (ah 0) (a0 0) (at9 0)) ++ ((wH g ah h) ++ ((wT g at9 (sg, (nI n))) ++ ((wK0 g a0 ak ((nI od), (nI sz))) ++ (wHs g ak hs 6))))))) hF (c_X3_count l hfl g sa u ah at9 a0 ak h sg n hn hch od sz hod hsz hs hbo hbs what) (cwV 1 hts gL_count_X3_count rfl rfl rfl (by decide +kernel) ⟨Nat.le_of_ble_eq_true rfl, Nat.le_of_ble_eq_true rfl⟩) hE hSt hZ hP hD hS hA List.perm_append_comm List.perm_append_comm 1 rfl rfl rfl rfl hl.1 rfl (Nat.le_of_ble_eq_true rfl) dL_count_4 ⟨Nat.le_of_ble_eq_true rfl, Nat.le_of_ble_eq_true rfl⟩ (fun ce q9 H locs h0 hP hD hS hce hcv hcl => ?_) (fun H locs h0 hP hD hS => ?_)
  ·
    have h1 : (cdCount what) = 1 := by have h9 := le_L_count what; omega
    have hcl : s.vm.findClass "java/lang/IndexOutOfBoundsException" = some ce.cls := by first | exact hcl | (rw [h1] at hcl; exact hcl)
    refine vx_catch (own := RL) (name := "java/lang/IndexOutOfBoundsException") (E := "java/lang/IndexOutOfBoundsException") hown [] ⟨0, 9, 12, 13⟩ [] hT (fun z hz => nomatch hz) rfl (by decide) lk13 (va_Nw.use rfl hSt.2.1.1) hce hcv hcl ?_
    refine W.eq (g2 := F0 m 12 ls [.ref q9]) rfl ?_
    refine lv_astore_n (lv' := [(3, .ref q9), (0, .ref u), (1, .int what), (2, .ref o)]) hx hb dL_count_12 rfl hl (by decide) rfl (fun ls hl => ?_)
    refine lv_iconst (v := (nI 1)) hx hb dL_count_13 (by decide) ?_
    have hP : va_P g.1 vwCl (if (cdCount what) = 0 then ((wO g o (vp_updL f 0 (Int32.toInt64 (hC h what.toNatClampNeg)))) ++ ((wU u (ah 0) (a0 0) (at9 0)) ++ ((wH g ah h) ++ ((wT g at9 (sg, (nI n))) ++ ((wK0 g a0 ak ((nI od), (nI sz))) ++ (wHs g ak hs 6)))))) else ((wO g o f) ++ ((wU u (ah 0) (a0 0) (at9 0)) ++ ((wH g ah h) ++ ((wT g at9 (sg, (nI n))) ++ ((wK0 g a0 ak ((nI od), (nI sz))) ++ (wHs g ak hs 6))))))) H := by rw [if_neg h0]; exact hP
    have hD : va_D A (if (cdCount what) = 0 then ((wO g o (vp_updL f 0 (Int32.toInt64 (hC h what.toNatClampNeg)))) ++ ((wU u (ah 0) (a0 0) (at9 0)) ++ ((wH g ah h) ++ ((wT g at9 (sg, (nI n))) ++ ((wK0 g a0 ak ((nI od), (nI sz))) ++ (wHs g ak hs 6)))))) else ((wO g o f) ++ ((wU u (ah 0) (a0 0) (at9 0)) ++ ((wH g ah h) ++ ((wT g at9 (sg, (nI n))) ++ ((wK0 g a0 ak ((nI od), (nI sz))) ++ (wHs g ak hs 6))))))) := by rw [if_neg h0]; exact hD
    exact k_iret hx hb hr hlocks rfl (by rw [h1]) hP hD hS (Nat.le_of_ble_eq_true rfl) (Nat.le_of_ble_eq_true rfl) dL_count_14
  ·
    refine lv_i2l (v := (Int32.toInt64 (hC h what.toNatClampNeg))) hx hb dL_count_7 rfl ?_
    refine k_last (f := f) (ws1 := ((wO g o (vp_updL f 0 (Int32.toInt64 (hC h what.toNatClampNeg)))) ++ ((wU u (ah 0) (a0 0) (at9 0)) ++ ((wH g ah h) ++ ((wT g at9 (sg, (nI n))) ++ ((wK0 g a0 ak ((nI od), (nI sz))) ++ (wHs g ak hs 6))))))) hx hb hE hP hD hS 0 rfl 0 rfl (by decide) (by decide) rfl dL_count_8 (fun H locs hP hD hS => ?_)
    refine lv_goto (tgt := 15) hx hb dL_count_9 (by decide) ?_
    refine lv_iconst (v := (nI 0)) hx hb dL_count_15 (by decide) ?_
    have hP : va_P g.1 vwCl (if (cdCount what) = 0 then ((wO g o (vp_updL f 0 (Int32.toInt64 (hC h what.toNatClampNeg)))) ++ ((wU u (ah 0) (a0 0) (at9 0)) ++ ((wH g ah h) ++ ((wT g at9 (sg, (nI n))) ++ ((wK0 g a0 ak ((nI od), (nI sz))) ++ (wHs g ak hs 6)))))) else ((wO g o f) ++ ((wU u (ah 0) (a0 0) (at9 0)) ++ ((wH g ah h) ++ ((wT g at9 (sg, (nI n))) ++ ((wK0 g a0 ak ((nI od), (nI sz))) ++ (wHs g ak hs 6))))))) H := by rw [if_pos h0]; exact hP
    have hD : va_D A (if (cdCount what) = 0 then ((wO g o (vp_updL f 0 (Int32.toInt64 (hC h what.toNatClampNeg)))) ++ ((wU u (ah 0) (a0 0) (at9 0)) ++ ((wH g ah h) ++ ((wT g at9 (sg, (nI n))) ++ ((wK0 g a0 ak ((nI od), (nI sz))) ++ (wHs g ak hs 6)))))) else ((wO g o f) ++ ((wU u (ah 0) (a0 0) (at9 0)) ++ ((wH g ah h) ++ ((wT g at9 (sg, (nI n))) ++ ((wK0 g a0 ak ((nI od), (nI sz))) ++ (wHs g ak hs 6))))))) := by rw [if_pos h0]; exact hD
    exact k_iret hx hb hr hlocks rfl (by rw [h0]) hP hD hS (Nat.le_of_ble_eq_true rfl) (Nat.le_of_ble_eq_true rfl) dL_count_16
set_option maxHeartbeats 4000000 in
set_option maxRecDepth 100000 in
theorem c_L_disturbedAfter (l : Launch) (hfl : l.stackTraces = false) (g : kG) (sa : Nat → Nat) (u : Nat) (ah at9 a0 : Nat → Nat) (ak : Nat → Nat → Nat) (h : HSt) (sg : Nat → Int32) (n : Nat) (hn : n ≤ 60) (hch : Tok sg n) (od sz : Nat) (hod : od < 6) (hsz : sz ≤ 6) (hs : Nat → HSt) (hbo : Hbo h) (hbs : ∀ j, Hbo (hs j)) (o : Nat) (f : Nat → Int64) (con mins : Int32) : KIX l yL_disturbedAfter wsL_disturbedAfter ({ frames := 8, cells := 2, slots := 12, locals := 132 }) g sa [.ref u, .int con, .int mins, .ref o] ((wO g o f) ++ ((wU u (ah 0) (a0 0) (at9 0)) ++ ((wH g ah h) ++ ((wT g at9 (sg, (nI n))) ++ ((wK0 g a0 ak ((nI od), (nI sz))) ++ (wHs g ak hs 6)))))) (nI (cdDist con mins)) (if (cdDist con mins) = 0 then ((wO g o (vp_updL f 0 (Int32.toInt64 (nI (Hdist h con.toNatClampNeg mins.toNatClampNeg 8))))) ++ ((wU u (ah 0) (a0 0) (at9 0)) ++ ((wH g ah h) ++ ((wT g at9 (sg, (nI n))) ++ ((wK0 g a0 ak ((nI od), (nI sz))) ++ (wHs g ak hs 6)))))) else ((wO g o f) ++ ((wU u (ah 0) (a0 0) (at9 0)) ++ ((wH g ah h) ++ ((wT g at9 (sg, (nI n))) ++ ((wK0 g a0 ak ((nI od), (nI sz))) ++ (wHs g ak hs 6))))))) 2 12 := by
  refine k_beginH (cc := cL_disturbedAfter) (maxL := 5) (ret := (some .int)) (hh := [(0, 10, 13, 13), (0, 10, 17, 32)]) (Qc := fun A => kQi g (nI (cdDist con mins)) (if (cdDist con mins) = 0 then ((wO g o (vp_updL f 0 (Int32.toInt64 (nI (Hdist h con.toNatClampNeg mins.toNatClampNeg 8))))) ++ ((wU u (ah 0) (a0 0) (at9 0)) ++ ((wH g ah h) ++ ((wT g at9 (sg, (nI n))) ++ ((wK0 g a0 ak ((nI od), (nI sz))) ++ (wHs g ak hs 6)))))) else ((wO g o f) ++ ((wU u (ah 0) (a0 0) (at9 0)) ++ ((wH g ah h) ++ ((wT g at9 (sg, (nI n))) ++ ((wK0 g a0 ak ((nI od), (nI sz))) ++ (wHs g ak hs 6))))))) A) (by decide) rfl (Nat.le_of_ble_eq_true rfl) ?_
  intro p e s m below meth c A ls hF hr hlocks hT hE hSt hZ hP hD hS hA hl
  obtain ⟨hx, hb, hml, hown, hts⟩ := id hF
  have hown : s.vm.findClass RL = some m.cls := hown
  have hl : lv_has ls 5 [(0, .ref u), (1, .int con), (2, .int mins), (3, .ref o)] := hl
  have lk13 : (Cond.classLink RL 13 "java/lang/IndexOutOfBoundsException").before _ s = true := hts _ (List.mem_of_getElem? (i := 1) rfl)
  have lk32 : (Cond.classLink RL 32 "java/lang/IllegalArgumentException").before _ s = true := hts _ (List.mem_of_getElem? (i := 2) rfl)
  refine lv_aload_n hx hb dL_disturbedAfter_0 rfl (lv_at hl 3 rfl) ?_
  refine lv_iconst (v := (nI 0)) hx hb dL_disturbedAfter_1 (by decide) ?_
  refine lv_aload_n hx hb dL_disturbedAfter_2 rfl (lv_at hl 0 rfl) ?_
  refine lv_iload_n hx hb dL_disturbedAfter_3 rfl (lv_at hl 1 rfl) ?_
  refine lv_iload_n hx hb dL_disturbedAfter_4 rfl (lv_at hl 2 rfl) ?_
  refine k_LVi (As := [.int con, .int mins]) (r := (nI (Hdist h con.toNatClampNeg mins.toNatClampNeg 8))) (ws1 := ((wO g o f) ++ ((wU u (ah 0) (a0 0) (at9 0)) ++ ((wH g ah h) ++ ((wT g at9 (sg, (nI n))) ++ ((wK0 g a0 ak ((nI od), (nI sz))) ++ (wHs g ak hs 6))))))) hF (c_X3_disturbedAfter l hfl g sa u ah at9 a0 ak h sg n hn hch od sz hod hsz hs hbo hbs con mins) (cwV 2 hts gL_disturbedAfter_X3_disturbedAfter rfl rfl rfl (by decide +kernel) ⟨Nat.le_of_ble_eq_true rfl, Nat.le_of_ble_eq_true rfl⟩) hE hSt hZ hP hD hS hA List.perm_append_comm List.perm_append_comm 1 rfl rfl rfl rfl hl.1 rfl (Nat.le_of_ble_eq_true rfl) dL_disturbedAfter_5 ⟨Nat.le_of_ble_eq_true rfl, Nat.le_of_ble_eq_true rfl⟩ (fun ce q9 H locs h0 hP hD hS hce hcv hcl => ?_) (fun H locs h0 hP hD hS => ?_)
  ·
    by_cases h1 : (cdDist con mins) = 1
    ·
      have hcl : s.vm.findClass "java/lang/IndexOutOfBoundsException" = some ce.cls := by first | exact hcl | (rw [h1] at hcl; exact hcl)
      refine vx_catch (own := RL) (name := "java/lang/IndexOutOfBoundsException") (E := "java/lang/IndexOutOfBoundsException") hown [] ⟨0, 10, 13, 13⟩ [⟨0, 10, 17, 32⟩] hT (fun z hz => nomatch hz) rfl (by decide) lk13 (va_Nw.use rfl hSt.2.1.1) hce hcv hcl ?_
      refine W.eq (g2 := F0 m 13 ls [.ref q9]) rfl ?_
      refine lv_astore (lv' := [(4, .ref q9), (0, .ref u), (1, .int con), (2, .int mins), (3, .ref o)]) hx hb dL_disturbedAfter_13 hl (by decide) rfl (fun ls hl => ?_)
      refine lv_iconst (v := (nI 1)) hx hb dL_disturbedAfter_15 (by decide) ?_
      have hP : va_P g.1 vwCl (if (cdDist con mins) = 0 then ((wO g o (vp_updL f 0 (Int32.toInt64 (nI (Hdist h con.toNatClampNeg mins.toNatClampNeg 8))))) ++ ((wU u (ah 0) (a0 0) (at9 0)) ++ ((wH g ah h) ++ ((wT g at9 (sg, (nI n))) ++ ((wK0 g a0 ak ((nI od), (nI sz))) ++ (wHs g ak hs 6)))))) else ((wO g o f) ++ ((wU u (ah 0) (a0 0) (at9 0)) ++ ((wH g ah h) ++ ((wT g at9 (sg, (nI n))) ++ ((wK0 g a0 ak ((nI od), (nI sz))) ++ (wHs g ak hs 6))))))) H := by rw [if_neg h0]; exact hP
      have hD : va_D A (if (cdDist con mins) = 0 then ((wO g o (vp_updL f 0 (Int32.toInt64 (nI (Hdist h con.toNatClampNeg mins.toNatClampNeg 8))))) ++ ((wU u (ah 0) (a0 0) (at9 0)) ++ ((wH g ah h) ++ ((wT g at9 (sg, (nI n))) ++ ((wK0 g a0 ak ((nI od), (nI sz))) ++ (wHs g ak hs 6)))))) else ((wO g o f) ++ ((wU u (ah 0) (a0 0) (at9 0)) ++ ((wH g ah h) ++ ((wT g at9 (sg, (nI n))) ++ ((wK0 g a0 ak ((nI od), (nI sz))) ++ (wHs g ak hs 6))))))) := by rw [if_neg h0]; exact hD
      exact k_iret hx hb hr hlocks rfl (by rw [h1]) hP hD hS (Nat.le_of_ble_eq_true rfl) (Nat.le_of_ble_eq_true rfl) dL_disturbedAfter_16
    ·
      have h2 : (cdDist con mins) = 2 := by have h9 := le_L_disturbedAfter con mins; omega
      have hcl : s.vm.findClass "java/lang/IllegalArgumentException" = some ce.cls := by first | exact hcl | (rw [h2] at hcl; exact hcl)
      refine vx_catch (own := RL) (name := "java/lang/IllegalArgumentException") (E := "java/lang/IllegalArgumentException") hown [⟨0, 10, 13, 13⟩] ⟨0, 10, 17, 32⟩ [] hT (fun z hz => by cases List.mem_singleton.mp hz; exact Or.inr ⟨by decide, "java/lang/IndexOutOfBoundsException", lk13, hSt.2.2.2.1⟩) rfl (by decide) lk32 (va_Nw.use rfl hSt.2.1.2.2.1) hce hcv hcl ?_
      refine W.eq (g2 := F0 m 17 ls [.ref q9]) rfl ?_
      refine lv_astore (lv' := [(4, .ref q9), (0, .ref u), (1, .int con), (2, .int mins), (3, .ref o)]) hx hb dL_disturbedAfter_17 hl (by decide) rfl (fun ls hl => ?_)
      refine lv_iconst (v := (nI 2)) hx hb dL_disturbedAfter_19 (by decide) ?_
      have hP : va_P g.1 vwCl (if (cdDist con mins) = 0 then ((wO g o (vp_updL f 0 (Int32.toInt64 (nI (Hdist h con.toNatClampNeg mins.toNatClampNeg 8))))) ++ ((wU u (ah 0) (a0 0) (at9 0)) ++ ((wH g ah h) ++ ((wT g at9 (sg, (nI n))) ++ ((wK0 g a0 ak ((nI od), (nI sz))) ++ (wHs g ak hs 6)))))) else ((wO g o f) ++ ((wU u (ah 0) (a0 0) (at9 0)) ++ ((wH g ah h) ++ ((wT g at9 (sg, (nI n))) ++ ((wK0 g a0 ak ((nI od), (nI sz))) ++ (wHs g ak hs 6))))))) H := by rw [if_neg h0]; exact hP
      have hD : va_D A (if (cdDist con mins) = 0 then ((wO g o (vp_updL f 0 (Int32.toInt64 (nI (Hdist h con.toNatClampNeg mins.toNatClampNeg 8))))) ++ ((wU u (ah 0) (a0 0) (at9 0)) ++ ((wH g ah h) ++ ((wT g at9 (sg, (nI n))) ++ ((wK0 g a0 ak ((nI od), (nI sz))) ++ (wHs g ak hs 6)))))) else ((wO g o f) ++ ((wU u (ah 0) (a0 0) (at9 0)) ++ ((wH g ah h) ++ ((wT g at9 (sg, (nI n))) ++ ((wK0 g a0 ak ((nI od), (nI sz))) ++ (wHs g ak hs 6))))))) := by rw [if_neg h0]; exact hD
      exact k_iret hx hb hr hlocks rfl (by rw [h2]) hP hD hS (Nat.le_of_ble_eq_true rfl) (Nat.le_of_ble_eq_true rfl) dL_disturbedAfter_20
  ·
    refine lv_i2l (v := (Int32.toInt64 (nI (Hdist h con.toNatClampNeg mins.toNatClampNeg 8)))) hx hb dL_disturbedAfter_8 rfl ?_
    refine k_last (f := f) (ws1 := ((wO g o (vp_updL f 0 (Int32.toInt64 (nI (Hdist h con.toNatClampNeg mins.toNatClampNeg 8))))) ++ ((wU u (ah 0) (a0 0) (at9 0)) ++ ((wH g ah h) ++ ((wT g at9 (sg, (nI n))) ++ ((wK0 g a0 ak ((nI od), (nI sz))) ++ (wHs g ak hs 6))))))) hx hb hE hP hD hS 0 rfl 0 rfl (by decide) (by decide) rfl dL_disturbedAfter_9 (fun H locs hP hD hS => ?_)
    refine lv_goto (tgt := 21) hx hb dL_disturbedAfter_10 (by decide) ?_
    refine lv_iconst (v := (nI 0)) hx hb dL_disturbedAfter_21 (by decide) ?_
    have hP : va_P g.1 vwCl (if (cdDist con mins) = 0 then ((wO g o (vp_updL f 0 (Int32.toInt64 (nI (Hdist h con.toNatClampNeg mins.toNatClampNeg 8))))) ++ ((wU u (ah 0) (a0 0) (at9 0)) ++ ((wH g ah h) ++ ((wT g at9 (sg, (nI n))) ++ ((wK0 g a0 ak ((nI od), (nI sz))) ++ (wHs g ak hs 6)))))) else ((wO g o f) ++ ((wU u (ah 0) (a0 0) (at9 0)) ++ ((wH g ah h) ++ ((wT g at9 (sg, (nI n))) ++ ((wK0 g a0 ak ((nI od), (nI sz))) ++ (wHs g ak hs 6))))))) H := by rw [if_pos h0]; exact hP
    have hD : va_D A (if (cdDist con mins) = 0 then ((wO g o (vp_updL f 0 (Int32.toInt64 (nI (Hdist h con.toNatClampNeg mins.toNatClampNeg 8))))) ++ ((wU u (ah 0) (a0 0) (at9 0)) ++ ((wH g ah h) ++ ((wT g at9 (sg, (nI n))) ++ ((wK0 g a0 ak ((nI od), (nI sz))) ++ (wHs g ak hs 6)))))) else ((wO g o f) ++ ((wU u (ah 0) (a0 0) (at9 0)) ++ ((wH g ah h) ++ ((wT g at9 (sg, (nI n))) ++ ((wK0 g a0 ak ((nI od), (nI sz))) ++ (wHs g ak hs 6))))))) := by rw [if_pos h0]; exact hD
    exact k_iret hx hb hr hlocks rfl (by rw [h0]) hP hD hS (Nat.le_of_ble_eq_true rfl) (Nat.le_of_ble_eq_true rfl) dL_disturbedAfter_22
set_option maxHeartbeats 4000000 in
set_option maxRecDepth 100000 in
theorem c_L_append (l : Launch) (hfl : l.stackTraces = false) (g : kG) (sa : Nat → Nat) (u : Nat) (ah at9 a0 : Nat → Nat) (ak : Nat → Nat → Nat) (h : HSt) (sg : Nat → Int32) (n : Nat) (hn : n ≤ 60) (hch : Tok sg n) (od sz : Nat) (hod : od < 6) (hsz : sz ≤ 6) (hs : Nat → HSt) (hbo : Hbo h) (hbs : ∀ j, Hbo (hs j)) (o : Nat) (f : Nat → Int64) (x : Int32) : KIX l yL_append wsL_append ({ frames := 7, cells := 1, slots := 6, locals := 111 }) g sa [.ref u, .int x, .ref o] ((wO g o f) ++ ((wU u (ah 0) (a0 0) (at9 0)) ++ ((wH g ah h) ++ ((wT g at9 (sg, (nI n))) ++ ((wK0 g a0 ak ((nI od), (nI sz))) ++ (wHs g ak hs 6)))))) (nI (cdApp n x)) (if (cdApp n x) = 0 then ((wO g o (vp_updL f 0 (Int32.toInt64 (nI (n + 1))))) ++ ((wU u (ah 0) (a0 0) (at9 0)) ++ ((wH g ah h) ++ ((wT g at9 (upd sg n x, nI (n + 1))) ++ ((wK0 g a0 ak ((nI od), (nI sz))) ++ (wHs g ak hs 6)))))) else ((wO g o f) ++ ((wU u (ah 0) (a0 0) (at9 0)) ++ ((wH g ah h) ++ ((wT g at9 (sg, (nI n))) ++ ((wK0 g a0 ak ((nI od), (nI sz))) ++ (wHs g ak hs 6))))))) 1 6 := by
  refine k_beginH (cc := cL_append) (maxL := 4) (ret := (some .int)) (hh := [(0, 9, 12, 32), (0, 9, 15, 15)]) (Qc := fun A => kQi g (nI (cdApp n x)) (if (cdApp n x) = 0 then ((wO g o (vp_updL f 0 (Int32.toInt64 (nI (n + 1))))) ++ ((wU u (ah 0) (a0 0) (at9 0)) ++ ((wH g ah h) ++ ((wT g at9 (upd sg n x, nI (n + 1))) ++ ((wK0 g a0 ak ((nI od), (nI sz))) ++ (wHs g ak hs 6)))))) else ((wO g o f) ++ ((wU u (ah 0) (a0 0) (at9 0)) ++ ((wH g ah h) ++ ((wT g at9 (sg, (nI n))) ++ ((wK0 g a0 ak ((nI od), (nI sz))) ++ (wHs g ak hs 6))))))) A) (by decide) rfl (Nat.le_of_ble_eq_true rfl) ?_
  intro p e s m below meth c A ls hF hr hlocks hT hE hSt hZ hP hD hS hA hl
  obtain ⟨hx, hb, hml, hown, hts⟩ := id hF
  have hown : s.vm.findClass RL = some m.cls := hown
  have hl : lv_has ls 4 [(0, .ref u), (1, .int x), (2, .ref o)] := hl
  have lk32 : (Cond.classLink RL 32 "java/lang/IllegalArgumentException").before _ s = true := hts _ (List.mem_of_getElem? (i := 1) rfl)
  have lk15 : (Cond.classLink RL 15 "java/lang/IllegalStateException").before _ s = true := hts _ (List.mem_of_getElem? (i := 2) rfl)
  refine lv_aload_n hx hb dL_append_0 rfl (lv_at hl 2 rfl) ?_
  refine lv_iconst (v := (nI 0)) hx hb dL_append_1 (by decide) ?_
  refine lv_aload_n hx hb dL_append_2 rfl (lv_at hl 0 rfl) ?_
  refine lv_iload_n hx hb dL_append_3 rfl (lv_at hl 1 rfl) ?_
  refine k_LVi (As := [.int x]) (r := (nI (n + 1))) (ws1 := ((wO g o f) ++ ((wU u (ah 0) (a0 0) (at9 0)) ++ ((wH g ah h) ++ ((wT g at9 (upd sg n x, nI (n + 1))) ++ ((wK0 g a0 ak ((nI od), (nI sz))) ++ (wHs g ak hs 6))))))) hF (c_X3_append l hfl g sa u ah at9 a0 ak h sg n hn hch od sz hod hsz hs hbo hbs x) (cwV 1 hts gL_append_X3_append rfl rfl rfl (by decide +kernel) ⟨Nat.le_of_ble_eq_true rfl, Nat.le_of_ble_eq_true rfl⟩) hE hSt hZ hP hD hS hA List.perm_append_comm List.perm_append_comm 1 rfl rfl rfl rfl hl.1 rfl (Nat.le_of_ble_eq_true rfl) dL_append_4 ⟨Nat.le_of_ble_eq_true rfl, Nat.le_of_ble_eq_true rfl⟩ (fun ce q9 H locs h0 hP hD hS hce hcv hcl => ?_) (fun H locs h0 hP hD hS => ?_)
  ·
    by_cases h1 : (cdApp n x) = 1
    ·
      have hcl : s.vm.findClass "java/lang/IllegalArgumentException" = some ce.cls := by first | exact hcl | (rw [h1] at hcl; exact hcl)
      refine vx_catch (own := RL) (name := "java/lang/IllegalArgumentException") (E := "java/lang/IllegalArgumentException") hown [] ⟨0, 9, 12, 32⟩ [⟨0, 9, 15, 15⟩] hT (fun z hz => nomatch hz) rfl (by decide) lk32 (va_Nw.use rfl hSt.2.1.2.2.1) hce hcv hcl ?_
      refine W.eq (g2 := F0 m 12 ls [.ref q9]) rfl ?_
      refine lv_astore_n (lv' := [(3, .ref q9), (0, .ref u), (1, .int x), (2, .ref o)]) hx hb dL_append_12 rfl hl (by decide) rfl (fun ls hl => ?_)
      refine lv_iconst (v := (nI 1)) hx hb dL_append_13 (by decide) ?_
      have hP : va_P g.1 vwCl (if (cdApp n x) = 0 then ((wO g o (vp_updL f 0 (Int32.toInt64 (nI (n + 1))))) ++ ((wU u (ah 0) (a0 0) (at9 0)) ++ ((wH g ah h) ++ ((wT g at9 (upd sg n x, nI (n + 1))) ++ ((wK0 g a0 ak ((nI od), (nI sz))) ++ (wHs g ak hs 6)))))) else ((wO g o f) ++ ((wU u (ah 0) (a0 0) (at9 0)) ++ ((wH g ah h) ++ ((wT g at9 (sg, (nI n))) ++ ((wK0 g a0 ak ((nI od), (nI sz))) ++ (wHs g ak hs 6))))))) H := by rw [if_neg h0]; exact hP
      have hD : va_D A (if (cdApp n x) = 0 then ((wO g o (vp_updL f 0 (Int32.toInt64 (nI (n + 1))))) ++ ((wU u (ah 0) (a0 0) (at9 0)) ++ ((wH g ah h) ++ ((wT g at9 (upd sg n x, nI (n + 1))) ++ ((wK0 g a0 ak ((nI od), (nI sz))) ++ (wHs g ak hs 6)))))) else ((wO g o f) ++ ((wU u (ah 0) (a0 0) (at9 0)) ++ ((wH g ah h) ++ ((wT g at9 (sg, (nI n))) ++ ((wK0 g a0 ak ((nI od), (nI sz))) ++ (wHs g ak hs 6))))))) := by rw [if_neg h0]; exact hD
      exact k_iret hx hb hr hlocks rfl (by rw [h1]) hP hD hS (Nat.le_of_ble_eq_true rfl) (Nat.le_of_ble_eq_true rfl) dL_append_14
    ·
      have h2 : (cdApp n x) = 2 := by have h9 := le_L_append n x; omega
      have hcl : s.vm.findClass "java/lang/IllegalStateException" = some ce.cls := by first | exact hcl | (rw [h2] at hcl; exact hcl)
      refine vx_catch (own := RL) (name := "java/lang/IllegalStateException") (E := "java/lang/IllegalStateException") hown [⟨0, 9, 12, 32⟩] ⟨0, 9, 15, 15⟩ [] hT (fun z hz => by cases List.mem_singleton.mp hz; exact Or.inr ⟨by decide, "java/lang/IllegalArgumentException", lk32, hSt.2.2.2.2.1⟩) rfl (by decide) lk15 (va_Nw.use rfl hSt.2.1.2.1) hce hcv hcl ?_
      refine W.eq (g2 := F0 m 15 ls [.ref q9]) rfl ?_
      refine lv_astore_n (lv' := [(3, .ref q9), (0, .ref u), (1, .int x), (2, .ref o)]) hx hb dL_append_15 rfl hl (by decide) rfl (fun ls hl => ?_)
      refine lv_iconst (v := (nI 2)) hx hb dL_append_16 (by decide) ?_
      have hP : va_P g.1 vwCl (if (cdApp n x) = 0 then ((wO g o (vp_updL f 0 (Int32.toInt64 (nI (n + 1))))) ++ ((wU u (ah 0) (a0 0) (at9 0)) ++ ((wH g ah h) ++ ((wT g at9 (upd sg n x, nI (n + 1))) ++ ((wK0 g a0 ak ((nI od), (nI sz))) ++ (wHs g ak hs 6)))))) else ((wO g o f) ++ ((wU u (ah 0) (a0 0) (at9 0)) ++ ((wH g ah h) ++ ((wT g at9 (sg, (nI n))) ++ ((wK0 g a0 ak ((nI od), (nI sz))) ++ (wHs g ak hs 6))))))) H := by rw [if_neg h0]; exact hP
      have hD : va_D A (if (cdApp n x) = 0 then ((wO g o (vp_updL f 0 (Int32.toInt64 (nI (n + 1))))) ++ ((wU u (ah 0) (a0 0) (at9 0)) ++ ((wH g ah h) ++ ((wT g at9 (upd sg n x, nI (n + 1))) ++ ((wK0 g a0 ak ((nI od), (nI sz))) ++ (wHs g ak hs 6)))))) else ((wO g o f) ++ ((wU u (ah 0) (a0 0) (at9 0)) ++ ((wH g ah h) ++ ((wT g at9 (sg, (nI n))) ++ ((wK0 g a0 ak ((nI od), (nI sz))) ++ (wHs g ak hs 6))))))) := by rw [if_neg h0]; exact hD
      exact k_iret hx hb hr hlocks rfl (by rw [h2]) hP hD hS (Nat.le_of_ble_eq_true rfl) (Nat.le_of_ble_eq_true rfl) dL_append_17
  ·
    refine lv_i2l (v := (Int32.toInt64 (nI (n + 1)))) hx hb dL_append_7 rfl ?_
    refine k_last (f := f) (ws1 := ((wO g o (vp_updL f 0 (Int32.toInt64 (nI (n + 1))))) ++ ((wU u (ah 0) (a0 0) (at9 0)) ++ ((wH g ah h) ++ ((wT g at9 (upd sg n x, nI (n + 1))) ++ ((wK0 g a0 ak ((nI od), (nI sz))) ++ (wHs g ak hs 6))))))) hx hb hE hP hD hS 0 rfl 0 rfl (by decide) (by decide) rfl dL_append_8 (fun H locs hP hD hS => ?_)
    refine lv_goto (tgt := 18) hx hb dL_append_9 (by decide) ?_
    refine lv_iconst (v := (nI 0)) hx hb dL_append_18 (by decide) ?_
    have hP : va_P g.1 vwCl (if (cdApp n x) = 0 then ((wO g o (vp_updL f 0 (Int32.toInt64 (nI (n + 1))))) ++ ((wU u (ah 0) (a0 0) (at9 0)) ++ ((wH g ah h) ++ ((wT g at9 (upd sg n x, nI (n + 1))) ++ ((wK0 g a0 ak ((nI od), (nI sz))) ++ (wHs g ak hs 6)))))) else ((wO g o f) ++ ((wU u (ah 0) (a0 0) (at9 0)) ++ ((wH g ah h) ++ ((wT g at9 (sg, (nI n))) ++ ((wK0 g a0 ak ((nI od), (nI sz))) ++ (wHs g ak hs 6))))))) H := by rw [if_pos h0]; exact hP
    have hD : va_D A (if (cdApp n x) = 0 then ((wO g o (vp_updL f 0 (Int32.toInt64 (nI (n + 1))))) ++ ((wU u (ah 0) (a0 0) (at9 0)) ++ ((wH g ah h) ++ ((wT g at9 (upd sg n x, nI (n + 1))) ++ ((wK0 g a0 ak ((nI od), (nI sz))) ++ (wHs g ak hs 6)))))) else ((wO g o f) ++ ((wU u (ah 0) (a0 0) (at9 0)) ++ ((wH g ah h) ++ ((wT g at9 (sg, (nI n))) ++ ((wK0 g a0 ak ((nI od), (nI sz))) ++ (wHs g ak hs 6))))))) := by rw [if_pos h0]; exact hD
    exact k_iret hx hb hr hlocks rfl (by rw [h0]) hP hD hS (Nat.le_of_ble_eq_true rfl) (Nat.le_of_ble_eq_true rfl) dL_append_19
set_option maxHeartbeats 4000000 in
set_option maxRecDepth 100000 in
theorem c_L_run (l : Launch) (hfl : l.stackTraces = false) (g : kG) (sa : Nat → Nat) (u : Nat) (ah at9 a0 : Nat → Nat) (ak : Nat → Nat → Nat) (h : HSt) (sg : Nat → Int32) (n : Nat) (hn : n ≤ 60) (hch : Tok sg n) (od sz : Nat) (hod : od < 6) (hsz : sz ≤ 6) (hs : Nat → HSt) (hbo : Hbo h) (hbs : ∀ j, Hbo (hs j)) (o : Nat) (f : Nat → Int64)  : KIX l yL_run wsL_run ({ frames := 8, cells := 1, slots := 6, locals := 172 }) g sa [.ref u, .ref o] ((wO g o f) ++ ((wU u (ah 0) (a0 0) (at9 0)) ++ ((wH g ah h) ++ ((wT g at9 (sg, (nI n))) ++ ((wK0 g a0 ak ((nI od), (nI sz))) ++ (wHs g ak hs 6)))))) (nI (if Tdone sg n then 0 else 1)) (if (if Tdone sg n then 0 else 1) = 0 then ((wO g o (vp_updL f 0 (Int32.toInt64 (nI ((Ufin sg n 0 n h 0).2))))) ++ ((wU u (ah 0) (a0 0) (at9 0)) ++ ((wH g ah ((Ufin sg n 0 n h 0).1)) ++ ((wT g at9 (sg, nI 0)) ++ ((wK0 g a0 ak (nI (kOd od sz), nI (kSz sz))) ++ (wHs g ak (va_up hs (kJ od sz) h) 6)))))) else ((wO g o f) ++ ((wU u (ah 0) (a0 0) (at9 0)) ++ ((wH g ah h) ++ ((wT g at9 (sg, (nI n))) ++ ((wK0 g a0 ak ((nI od), (nI sz))) ++ (wHs g ak hs 6))))))) 1 6 := by
  refine k_beginH (cc := cL_run) (maxL := 3) (ret := (some .int)) (hh := [(0, 8, 11, 32)]) (Qc := fun A => kQi g (nI (if Tdone sg n then 0 else 1)) (if (if Tdone sg n then 0 else 1) = 0 then ((wO g o (vp_updL f 0 (Int32.toInt64 (nI ((Ufin sg n 0 n h 0).2))))) ++ ((wU u (ah 0) (a0 0) (at9 0)) ++ ((wH g ah ((Ufin sg n 0 n h 0).1)) ++ ((wT g at9 (sg, nI 0)) ++ ((wK0 g a0 ak (nI (kOd od sz), nI (kSz sz))) ++ (wHs g ak (va_up hs (kJ od sz) h) 6)))))) else ((wO g o f) ++ ((wU u (ah 0) (a0 0) (at9 0)) ++ ((wH g ah h) ++ ((wT g at9 (sg, (nI n))) ++ ((wK0 g a0 ak ((nI od), (nI sz))) ++ (wHs g ak hs 6))))))) A) (by decide) rfl (Nat.le_of_ble_eq_true rfl) ?_
  intro p e s m below meth c A ls hF hr hlocks hT hE hSt hZ hP hD hS hA hl
  obtain ⟨hx, hb, hml, hown, hts⟩ := id hF
  have hown : s.vm.findClass RL = some m.cls := hown
  have hl : lv_has ls 3 [(0, .ref u), (1, .ref o)] := hl
  have lk32 : (Cond.classLink RL 32 "java/lang/IllegalArgumentException").before _ s = true := hts _ (List.mem_of_getElem? (i := 1) rfl)
  refine lv_aload_n hx hb dL_run_0 rfl (lv_at hl 1 rfl) ?_
  refine lv_iconst (v := (nI 0)) hx hb dL_run_1 (by decide) ?_
  refine lv_aload_n hx hb dL_run_2 rfl (lv_at hl 0 rfl) ?_
  refine k_LVi (As := []) (r := (nI ((Ufin sg n 0 n h 0).2))) (ws1 := ((wO g o f) ++ ((wU u (ah 0) (a0 0) (at9 0)) ++ ((wH g ah ((Ufin sg n 0 n h 0).1)) ++ ((wT g at9 (sg, nI 0)) ++ ((wK0 g a0 ak (nI (kOd od sz), nI (kSz sz))) ++ (wHs g ak (va_up hs (kJ od sz) h) 6))))))) hF (c_X3_run l hfl g sa u ah at9 a0 ak h sg n hn hch od sz hod hsz hs hbo hbs ) (cwV 0 hts gL_run_X3_run rfl rfl rfl (by decide +kernel) ⟨Nat.le_of_ble_eq_true rfl, Nat.le_of_ble_eq_true rfl⟩) hE hSt hZ hP hD hS hA List.perm_append_comm List.perm_append_comm 1 rfl rfl rfl rfl hl.1 rfl (Nat.le_of_ble_eq_true rfl) dL_run_3 ⟨Nat.le_of_ble_eq_true rfl, Nat.le_of_ble_eq_true rfl⟩ (fun ce q9 H locs h0 hP hD hS hce hcv hcl => ?_) (fun H locs h0 hP hD hS => ?_)
  ·
    have h1 : (if Tdone sg n then 0 else 1) = 1 := by have h9 := le_L_run sg n; omega
    have hcl : s.vm.findClass "java/lang/IllegalArgumentException" = some ce.cls := by first | exact hcl | (rw [h1] at hcl; exact hcl)
    refine vx_catch (own := RL) (name := "java/lang/IllegalArgumentException") (E := "java/lang/IllegalArgumentException") hown [] ⟨0, 8, 11, 32⟩ [] hT (fun z hz => nomatch hz) rfl (by decide) lk32 (va_Nw.use rfl hSt.2.1.2.2.1) hce hcv hcl ?_
    refine W.eq (g2 := F0 m 11 ls [.ref q9]) rfl ?_
    refine lv_astore_n (lv' := [(2, .ref q9), (0, .ref u), (1, .ref o)]) hx hb dL_run_11 rfl hl (by decide) rfl (fun ls hl => ?_)
    refine lv_iconst (v := (nI 1)) hx hb dL_run_12 (by decide) ?_
    have hP : va_P g.1 vwCl (if (if Tdone sg n then 0 else 1) = 0 then ((wO g o (vp_updL f 0 (Int32.toInt64 (nI ((Ufin sg n 0 n h 0).2))))) ++ ((wU u (ah 0) (a0 0) (at9 0)) ++ ((wH g ah ((Ufin sg n 0 n h 0).1)) ++ ((wT g at9 (sg, nI 0)) ++ ((wK0 g a0 ak (nI (kOd od sz), nI (kSz sz))) ++ (wHs g ak (va_up hs (kJ od sz) h) 6)))))) else ((wO g o f) ++ ((wU u (ah 0) (a0 0) (at9 0)) ++ ((wH g ah h) ++ ((wT g at9 (sg, (nI n))) ++ ((wK0 g a0 ak ((nI od), (nI sz))) ++ (wHs g ak hs 6))))))) H := by rw [if_neg h0]; exact hP
    have hD : va_D A (if (if Tdone sg n then 0 else 1) = 0 then ((wO g o (vp_updL f 0 (Int32.toInt64 (nI ((Ufin sg n 0 n h 0).2))))) ++ ((wU u (ah 0) (a0 0) (at9 0)) ++ ((wH g ah ((Ufin sg n 0 n h 0).1)) ++ ((wT g at9 (sg, nI 0)) ++ ((wK0 g a0 ak (nI (kOd od sz), nI (kSz sz))) ++ (wHs g ak (va_up hs (kJ od sz) h) 6)))))) else ((wO g o f) ++ ((wU u (ah 0) (a0 0) (at9 0)) ++ ((wH g ah h) ++ ((wT g at9 (sg, (nI n))) ++ ((wK0 g a0 ak ((nI od), (nI sz))) ++ (wHs g ak hs 6))))))) := by rw [if_neg h0]; exact hD
    exact k_iret hx hb hr hlocks rfl (by rw [h1]) hP hD hS (Nat.le_of_ble_eq_true rfl) (Nat.le_of_ble_eq_true rfl) dL_run_13
  ·
    refine lv_i2l (v := (Int32.toInt64 (nI ((Ufin sg n 0 n h 0).2)))) hx hb dL_run_6 rfl ?_
    refine k_last (f := f) (ws1 := ((wO g o (vp_updL f 0 (Int32.toInt64 (nI ((Ufin sg n 0 n h 0).2))))) ++ ((wU u (ah 0) (a0 0) (at9 0)) ++ ((wH g ah ((Ufin sg n 0 n h 0).1)) ++ ((wT g at9 (sg, nI 0)) ++ ((wK0 g a0 ak (nI (kOd od sz), nI (kSz sz))) ++ (wHs g ak (va_up hs (kJ od sz) h) 6))))))) hx hb hE hP hD hS 0 rfl 0 rfl (by decide) (by decide) rfl dL_run_7 (fun H locs hP hD hS => ?_)
    refine lv_goto (tgt := 14) hx hb dL_run_8 (by decide) ?_
    refine lv_iconst (v := (nI 0)) hx hb dL_run_14 (by decide) ?_
    have hP : va_P g.1 vwCl (if (if Tdone sg n then 0 else 1) = 0 then ((wO g o (vp_updL f 0 (Int32.toInt64 (nI ((Ufin sg n 0 n h 0).2))))) ++ ((wU u (ah 0) (a0 0) (at9 0)) ++ ((wH g ah ((Ufin sg n 0 n h 0).1)) ++ ((wT g at9 (sg, nI 0)) ++ ((wK0 g a0 ak (nI (kOd od sz), nI (kSz sz))) ++ (wHs g ak (va_up hs (kJ od sz) h) 6)))))) else ((wO g o f) ++ ((wU u (ah 0) (a0 0) (at9 0)) ++ ((wH g ah h) ++ ((wT g at9 (sg, (nI n))) ++ ((wK0 g a0 ak ((nI od), (nI sz))) ++ (wHs g ak hs 6))))))) H := by rw [if_pos h0]; exact hP
    have hD : va_D A (if (if Tdone sg n then 0 else 1) = 0 then ((wO g o (vp_updL f 0 (Int32.toInt64 (nI ((Ufin sg n 0 n h 0).2))))) ++ ((wU u (ah 0) (a0 0) (at9 0)) ++ ((wH g ah ((Ufin sg n 0 n h 0).1)) ++ ((wT g at9 (sg, nI 0)) ++ ((wK0 g a0 ak (nI (kOd od sz), nI (kSz sz))) ++ (wHs g ak (va_up hs (kJ od sz) h) 6)))))) else ((wO g o f) ++ ((wU u (ah 0) (a0 0) (at9 0)) ++ ((wH g ah h) ++ ((wT g at9 (sg, (nI n))) ++ ((wK0 g a0 ak ((nI od), (nI sz))) ++ (wHs g ak hs 6))))))) := by rw [if_pos h0]; exact hD
    exact k_iret hx hb hr hlocks rfl (by rw [h0]) hP hD hS (Nat.le_of_ble_eq_true rfl) (Nat.le_of_ble_eq_true rfl) dL_run_15
set_option maxHeartbeats 4000000 in
set_option maxRecDepth 100000 in
theorem c_L_undo (l : Launch) (hfl : l.stackTraces = false) (g : kG) (sa : Nat → Nat) (u : Nat) (ah at9 a0 : Nat → Nat) (ak : Nat → Nat → Nat) (h : HSt) (sg : Nat → Int32) (n : Nat) (hn : n ≤ 60) (hch : Tok sg n) (od sz : Nat) (hod : od < 6) (hsz : sz ≤ 6) (hs : Nat → HSt) (hbo : Hbo h) (hbs : ∀ j, Hbo (hs j)) (o : Nat) (f : Nat → Int64)  : KIX l yL_undo wsL_undo ({ frames := 7, cells := 1, slots := 6, locals := 122 }) g sa [.ref u, .ref o] ((wO g o f) ++ ((wU u (ah 0) (a0 0) (at9 0)) ++ ((wH g ah h) ++ ((wT g at9 (sg, (nI n))) ++ ((wK0 g a0 ak ((nI od), (nI sz))) ++ (wHs g ak hs 6)))))) (nI (if sz = 0 then 1 else 0)) (if (if sz = 0 then 1 else 0) = 0 then ((wO g o (vp_updL f 0 (Int32.toInt64 (nI (sz - 1))))) ++ ((wU u (ah 0) (a0 0) (at9 0)) ++ ((wH g ah (hs ((od + (sz - 1)) % 6))) ++ ((wT g at9 (sg, (nI n))) ++ ((wK0 g a0 ak (nI od, nI (sz - 1))) ++ (wHs g ak hs 6)))))) else ((wO g o f) ++ ((wU u (ah 0) (a0 0) (at9 0)) ++ ((wH g ah h) ++ ((wT g at9 (sg, (nI n))) ++ ((wK0 g a0 ak ((nI od), (nI sz))) ++ (wHs g ak hs 6))))))) 1 6 := by
  refine k_beginH (cc := cL_undo) (maxL := 3) (ret := (some .int)) (hh := [(0, 8, 11, 15)]) (Qc := fun A => kQi g (nI (if sz = 0 then 1 else 0)) (if (if sz = 0 then 1 else 0) = 0 then ((wO g o (vp_updL f 0 (Int32.toInt64 (nI (sz - 1))))) ++ ((wU u (ah 0) (a0 0) (at9 0)) ++ ((wH g ah (hs ((od + (sz - 1)) % 6))) ++ ((wT g at9 (sg, (nI n))) ++ ((wK0 g a0 ak (nI od, nI (sz - 1))) ++ (wHs g ak hs 6)))))) else ((wO g o f) ++ ((wU u (ah 0) (a0 0) (at9 0)) ++ ((wH g ah h) ++ ((wT g at9 (sg, (nI n))) ++ ((wK0 g a0 ak ((nI od), (nI sz))) ++ (wHs g ak hs 6))))))) A) (by decide) rfl (Nat.le_of_ble_eq_true rfl) ?_
  intro p e s m below meth c A ls hF hr hlocks hT hE hSt hZ hP hD hS hA hl
  obtain ⟨hx, hb, hml, hown, hts⟩ := id hF
  have hown : s.vm.findClass RL = some m.cls := hown
  have hl : lv_has ls 3 [(0, .ref u), (1, .ref o)] := hl
  have lk15 : (Cond.classLink RL 15 "java/lang/IllegalStateException").before _ s = true := hts _ (List.mem_of_getElem? (i := 1) rfl)
  refine lv_aload_n hx hb dL_undo_0 rfl (lv_at hl 1 rfl) ?_
  refine lv_iconst (v := (nI 0)) hx hb dL_undo_1 (by decide) ?_
  refine lv_aload_n hx hb dL_undo_2 rfl (lv_at hl 0 rfl) ?_
  refine k_LVi (As := []) (r := (nI (sz - 1))) (ws1 := ((wO g o f) ++ ((wU u (ah 0) (a0 0) (at9 0)) ++ ((wH g ah (hs ((od + (sz - 1)) % 6))) ++ ((wT g at9 (sg, (nI n))) ++ ((wK0 g a0 ak (nI od, nI (sz - 1))) ++ (wHs g ak hs 6))))))) hF (c_X3_undo l hfl g sa u ah at9 a0 ak h sg n hn hch od sz hod hsz hs hbo hbs ) (cwV 0 hts gL_undo_X3_undo rfl rfl rfl (by decide +kernel) ⟨Nat.le_of_ble_eq_true rfl, Nat.le_of_ble_eq_true rfl⟩) hE hSt hZ hP hD hS hA List.perm_append_comm List.perm_append_comm 1 rfl rfl rfl rfl hl.1 rfl (Nat.le_of_ble_eq_true rfl) dL_undo_3 ⟨Nat.le_of_ble_eq_true rfl, Nat.le_of_ble_eq_true rfl⟩ (fun ce q9 H locs h0 hP hD hS hce hcv hcl => ?_) (fun H locs h0 hP hD hS => ?_)
  ·
    have h1 : (if sz = 0 then 1 else 0) = 1 := by have h9 := le_L_undo sz; omega
    have hcl : s.vm.findClass "java/lang/IllegalStateException" = some ce.cls := by first | exact hcl | (rw [h1] at hcl; exact hcl)
    refine vx_catch (own := RL) (name := "java/lang/IllegalStateException") (E := "java/lang/IllegalStateException") hown [] ⟨0, 8, 11, 15⟩ [] hT (fun z hz => nomatch hz) rfl (by decide) lk15 (va_Nw.use rfl hSt.2.1.2.1) hce hcv hcl ?_
    refine W.eq (g2 := F0 m 11 ls [.ref q9]) rfl ?_
    refine lv_astore_n (lv' := [(2, .ref q9), (0, .ref u), (1, .ref o)]) hx hb dL_undo_11 rfl hl (by decide) rfl (fun ls hl => ?_)
    refine lv_iconst (v := (nI 1)) hx hb dL_undo_12 (by decide) ?_
    have hP : va_P g.1 vwCl (if (if sz = 0 then 1 else 0) = 0 then ((wO g o (vp_updL f 0 (Int32.toInt64 (nI (sz - 1))))) ++ ((wU u (ah 0) (a0 0) (at9 0)) ++ ((wH g ah (hs ((od + (sz - 1)) % 6))) ++ ((wT g at9 (sg, (nI n))) ++ ((wK0 g a0 ak (nI od, nI (sz - 1))) ++ (wHs g ak hs 6)))))) else ((wO g o f) ++ ((wU u (ah 0) (a0 0) (at9 0)) ++ ((wH g ah h) ++ ((wT g at9 (sg, (nI n))) ++ ((wK0 g a0 ak ((nI od), (nI sz))) ++ (wHs g ak hs 6))))))) H := by rw [if_neg h0]; exact hP
    have hD : va_D A (if (if sz = 0 then 1 else 0) = 0 then ((wO g o (vp_updL f 0 (Int32.toInt64 (nI (sz - 1))))) ++ ((wU u (ah 0) (a0 0) (at9 0)) ++ ((wH g ah (hs ((od + (sz - 1)) % 6))) ++ ((wT g at9 (sg, (nI n))) ++ ((wK0 g a0 ak (nI od, nI (sz - 1))) ++ (wHs g ak hs 6)))))) else ((wO g o f) ++ ((wU u (ah 0) (a0 0) (at9 0)) ++ ((wH g ah h) ++ ((wT g at9 (sg, (nI n))) ++ ((wK0 g a0 ak ((nI od), (nI sz))) ++ (wHs g ak hs 6))))))) := by rw [if_neg h0]; exact hD
    exact k_iret hx hb hr hlocks rfl (by rw [h1]) hP hD hS (Nat.le_of_ble_eq_true rfl) (Nat.le_of_ble_eq_true rfl) dL_undo_13
  ·
    refine lv_i2l (v := (Int32.toInt64 (nI (sz - 1)))) hx hb dL_undo_6 rfl ?_
    refine k_last (f := f) (ws1 := ((wO g o (vp_updL f 0 (Int32.toInt64 (nI (sz - 1))))) ++ ((wU u (ah 0) (a0 0) (at9 0)) ++ ((wH g ah (hs ((od + (sz - 1)) % 6))) ++ ((wT g at9 (sg, (nI n))) ++ ((wK0 g a0 ak (nI od, nI (sz - 1))) ++ (wHs g ak hs 6))))))) hx hb hE hP hD hS 0 rfl 0 rfl (by decide) (by decide) rfl dL_undo_7 (fun H locs hP hD hS => ?_)
    refine lv_goto (tgt := 14) hx hb dL_undo_8 (by decide) ?_
    refine lv_iconst (v := (nI 0)) hx hb dL_undo_14 (by decide) ?_
    have hP : va_P g.1 vwCl (if (if sz = 0 then 1 else 0) = 0 then ((wO g o (vp_updL f 0 (Int32.toInt64 (nI (sz - 1))))) ++ ((wU u (ah 0) (a0 0) (at9 0)) ++ ((wH g ah (hs ((od + (sz - 1)) % 6))) ++ ((wT g at9 (sg, (nI n))) ++ ((wK0 g a0 ak (nI od, nI (sz - 1))) ++ (wHs g ak hs 6)))))) else ((wO g o f) ++ ((wU u (ah 0) (a0 0) (at9 0)) ++ ((wH g ah h) ++ ((wT g at9 (sg, (nI n))) ++ ((wK0 g a0 ak ((nI od), (nI sz))) ++ (wHs g ak hs 6))))))) H := by rw [if_pos h0]; exact hP
    have hD : va_D A (if (if sz = 0 then 1 else 0) = 0 then ((wO g o (vp_updL f 0 (Int32.toInt64 (nI (sz - 1))))) ++ ((wU u (ah 0) (a0 0) (at9 0)) ++ ((wH g ah (hs ((od + (sz - 1)) % 6))) ++ ((wT g at9 (sg, (nI n))) ++ ((wK0 g a0 ak (nI od, nI (sz - 1))) ++ (wHs g ak hs 6)))))) else ((wO g o f) ++ ((wU u (ah 0) (a0 0) (at9 0)) ++ ((wH g ah h) ++ ((wT g at9 (sg, (nI n))) ++ ((wK0 g a0 ak ((nI od), (nI sz))) ++ (wHs g ak hs 6))))))) := by rw [if_pos h0]; exact hD
    exact k_iret hx hb hr hlocks rfl (by rw [h0]) hP hD hS (Nat.le_of_ble_eq_true rfl) (Nat.le_of_ble_eq_true rfl) dL_undo_15
