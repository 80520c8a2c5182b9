/-! the law's helpers -/
def bL (P : Prop) [Decidable P] : Int64 := if P then 1 else 0
theorem bL_t {P : Prop} [Decidable P] (h : P) : bL P = 1 := if_pos h
theorem bL_f {P : Prop} [Decidable P] (h : ¬ P) : bL P = 0 := if_neg h
theorem le_ckR (x : Int32) : ckR x ≤ 1 := by unfold ckR; (repeat' split) <;> decide
theorem le_ckC (x : Int32) : ckC x ≤ 1 := by unfold ckC; (repeat' split) <;> decide
theorem le_ckM (x : Int32) : ckM x ≤ 1 := by unfold ckM; (repeat' split) <;> decide
theorem le_L_come (h : HSt) (row : Int32) (con : Int32) : (cdCome h row con) ≤ 2 := by unfold cdCome; (repeat' split) <;> decide
theorem le_L_leave (h : HSt) (row : Int32) (con : Int32) : (cdLeave h row con) ≤ 2 := by unfold cdLeave; (repeat' split) <;> decide
theorem le_L_listeners (row : Int32) (con : Int32) : (cdPair row con) ≤ 1 := by unfold cdPair; (repeat' split) <;> decide
theorem le_L_rest (row : Int32) (con : Int32) : (cdPair row con) ≤ 1 := by unfold cdPair; (repeat' split) <;> decide
theorem le_L_minutesToFade (row : Int32) (con : Int32) : (cdPair row con) ≤ 1 := by unfold cdPair; (repeat' split) <;> decide
theorem le_L_setOpen (row : Int32) : (ckR row) ≤ 1 := by unfold ckR; (repeat' split) <;> decide
theorem le_L_isOpen (row : Int32) : (ckR row) ≤ 1 := by unfold ckR; (repeat' split) <;> decide
theorem le_L_setTimes (t1 : Int32) (t2 : Int32) (t3 : Int32) : (cdTimes t1 t2 t3) ≤ 1 := by unfold cdTimes; (repeat' split) <;> decide
theorem le_L_setPresent (w9 : Int32) : (cdPres w9) ≤ 1 := by unfold cdPres; (repeat' split) <;> decide
theorem le_L_rows (con : Int32) : (ckC con) ≤ 1 := by unfold ckC; (repeat' split) <;> decide
theorem le_L_wanted (con : Int32) : (ckC con) ≤ 1 := by unfold ckC; (repeat' split) <;> decide
theorem le_L_play (con : Int32) : (ckC con) ≤ 1 := by unfold ckC; (repeat' split) <;> decide
theorem le_L_pass (mins : Int32) : (ckM mins) ≤ 1 := by unfold ckM; (repeat' split) <;> decide
theorem le_L_count (what : Int32) : (cdCount what) ≤ 1 := by unfold cdCount; (repeat' split) <;> decide
theorem le_L_disturbedAfter (con : Int32) (mins : Int32) : (cdDist con mins) ≤ 2 := by unfold cdDist; (repeat' split) <;> decide
theorem le_L_append (n : Nat) (x : Int32) : (cdApp n x) ≤ 2 := by unfold cdApp; (repeat' split) <;> decide
theorem le_L_run (sg : Nat → Int32) (n : Nat) : (if Tdone sg n then 0 else 1) ≤ 1 := by (repeat' split) <;> decide
theorem le_L_undo (sz : Nat) : (if sz = 0 then 1 else 0) ≤ 1 := by (repeat' split) <;> decide
set_option maxHeartbeats 4000000 in
set_option maxRecDepth 100000 in
theorem c_L_come (l : Launch) (hfl : l.stackTraces = false) (g : kG) (sa : Nat → Nat) (u : Nat) (ah at9 a0 : Nat → Nat) (ak : Nat → Nat → Nat) (h : HSt) (sg : Nat → Int32) (n : Nat) (hn : n ≤ 60) (hch : Tok sg n) (od sz : Nat) (hod : od < 6) (hsz : sz ≤ 6) (hs : Nat → HSt) (hbo : Hbo h) (hbs : ∀ j, Hbo (hs j)) (o : Nat) (f : Nat → Int64) (row con : Int32) : KIX l yL_come wsL_come ({ frames := 8, cells := 3, slots := 18, locals := 133 }) g sa [.ref u, .int row, .int con, .ref o] ((wO g o f) ++ ((wU u (ah 0) (a0 0) (at9 0)) ++ ((wH g ah h) ++ ((wT g at9 (sg, (nI n))) ++ ((wK0 g a0 ak ((nI od), (nI sz))) ++ (wHs g ak hs 6)))))) (nI (cdCome h row con)) (if (cdCome h row con) = 0 then ((wO g o (vp_updL f 0 (Int32.toInt64 (hL (Hseat (pl row con) h) (pl row con))))) ++ ((wU u (ah 0) (a0 0) (at9 0)) ++ ((wH g ah (Hseat (pl row con) h)) ++ ((wT g at9 (sg, (nI n))) ++ ((wK0 g a0 ak (nI (kOd od sz), nI (kSz sz))) ++ (wHs g ak (va_up hs (kJ od sz) h) 6)))))) else ((wO g o f) ++ ((wU u (ah 0) (a0 0) (at9 0)) ++ ((wH g ah h) ++ ((wT g at9 (sg, (nI n))) ++ ((wK0 g a0 ak ((nI od), (nI sz))) ++ (wHs g ak hs 6))))))) 3 18 := by
  refine k_beginH (cc := cL_come) (maxL := 5) (ret := (some .int)) (hh := [(0, 10, 13, 13), (0, 10, 17, 15)]) (Qc := fun A => kQi g (nI (cdCome h row con)) (if (cdCome h row con) = 0 then ((wO g o (vp_updL f 0 (Int32.toInt64 (hL (Hseat (pl row con) h) (pl row con))))) ++ ((wU u (ah 0) (a0 0) (at9 0)) ++ ((wH g ah (Hseat (pl row con) h)) ++ ((wT g at9 (sg, (nI n))) ++ ((wK0 g a0 ak (nI (kOd od sz), nI (kSz sz))) ++ (wHs g ak (va_up hs (kJ od sz) h) 6)))))) else ((wO g o f) ++ ((wU u (ah 0) (a0 0) (at9 0)) ++ ((wH g ah h) ++ ((wT g at9 (sg, (nI n))) ++ ((wK0 g a0 ak ((nI od), (nI sz))) ++ (wHs g ak hs 6))))))) A) (by decide) rfl (Nat.le_of_ble_eq_true rfl) ?_
  intro p e s m below meth c A ls hF hr hlocks hT hE hSt hZ hP hD hS hA hl
  obtain ⟨hx, hb, hml, hown, hts⟩ := id hF
  have hown : s.vm.findClass RL = some m.cls := hown
  have hl : lv_has ls 5 [(0, .ref u), (1, .int row), (2, .int con), (3, .ref o)] := hl
  have lk13 : (Cond.classLink RL 13 "java/lang/IndexOutOfBoundsException").before _ s = true := hts _ (List.mem_of_getElem? (i := 1) rfl)
  have lk15 : (Cond.classLink RL 15 "java/lang/IllegalStateException").before _ s = true := hts _ (List.mem_of_getElem? (i := 2) rfl)
  refine lv_aload_n hx hb dL_come_0 rfl (lv_at hl 3 rfl) ?_
  refine lv_iconst (v := (nI 0)) hx hb dL_come_1 (by decide) ?_
  refine lv_aload_n hx hb dL_come_2 rfl (lv_at hl 0 rfl) ?_
  refine lv_iload_n hx hb dL_come_3 rfl (lv_at hl 1 rfl) ?_
  refine lv_iload_n hx hb dL_come_4 rfl (lv_at hl 2 rfl) ?_
  refine k_LVi (As := [.int row, .int con]) (r := (hL (Hseat (pl row con) h) (pl row con))) (ws1 := ((wO g o f) ++ ((wU u (ah 0) (a0 0) (at9 0)) ++ ((wH g ah (Hseat (pl row con) h)) ++ ((wT g at9 (sg, (nI n))) ++ ((wK0 g a0 ak (nI (kOd od sz), nI (kSz sz))) ++ (wHs g ak (va_up hs (kJ od sz) h) 6))))))) hF (c_X3_come l hfl g sa u ah at9 a0 ak h sg n hn hch od sz hod hsz hs hbo hbs row con) (cwV 2 hts gL_come_X3_come rfl rfl rfl (by decide +kernel) ⟨Nat.le_of_ble_eq_true rfl, Nat.le_of_ble_eq_true rfl⟩) hE hSt hZ hP hD hS hA List.perm_append_comm List.perm_append_comm 1 rfl rfl rfl rfl hl.1 rfl (Nat.le_of_ble_eq_true rfl) dL_come_5 ⟨Nat.le_of_ble_eq_true rfl, Nat.le_of_ble_eq_true rfl⟩ (fun ce q9 H locs h0 hP hD hS hce hcv hcl => ?_) (fun H locs h0 hP hD hS => ?_)
  ·
    by_cases h1 : (cdCome h row con) = 1
    ·
      have hcl : s.vm.findClass "java/lang/IndexOutOfBoundsException" = some ce.cls := by first | exact hcl | (rw [h1] at hcl; exact hcl)
      refine vx_catch (own := RL) (name := "java/lang/IndexOutOfBoundsException") (E := "java/lang/IndexOutOfBoundsException") hown [] ⟨0, 10, 13, 13⟩ [⟨0, 10, 17, 15⟩] hT (fun z hz => nomatch hz) rfl (by decide) lk13 (va_Nw.use rfl hSt.2.1.1) hce hcv hcl ?_
      refine W.eq (g2 := F0 m 13 ls [.ref q9]) rfl ?_
      refine lv_astore (lv' := [(4, .ref q9), (0, .ref u), (1, .int row), (2, .int con), (3, .ref o)]) hx hb dL_come_13 hl (by decide) rfl (fun ls hl => ?_)
      refine lv_iconst (v := (nI 1)) hx hb dL_come_15 (by decide) ?_
      have hP : va_P g.1 vwCl (if (cdCome h row con) = 0 then ((wO g o (vp_updL f 0 (Int32.toInt64 (hL (Hseat (pl row con) h) (pl row con))))) ++ ((wU u (ah 0) (a0 0) (at9 0)) ++ ((wH g ah (Hseat (pl row con) h)) ++ ((wT g at9 (sg, (nI n))) ++ ((wK0 g a0 ak (nI (kOd od sz), nI (kSz sz))) ++ (wHs g ak (va_up hs (kJ od sz) h) 6)))))) else ((wO g o f) ++ ((wU u (ah 0) (a0 0) (at9 0)) ++ ((wH g ah h) ++ ((wT g at9 (sg, (nI n))) ++ ((wK0 g a0 ak ((nI od), (nI sz))) ++ (wHs g ak hs 6))))))) H := by rw [if_neg h0]; exact hP
      have hD : va_D A (if (cdCome h row con) = 0 then ((wO g o (vp_updL f 0 (Int32.toInt64 (hL (Hseat (pl row con) h) (pl row con))))) ++ ((wU u (ah 0) (a0 0) (at9 0)) ++ ((wH g ah (Hseat (pl row con) h)) ++ ((wT g at9 (sg, (nI n))) ++ ((wK0 g a0 ak (nI (kOd od sz), nI (kSz sz))) ++ (wHs g ak (va_up hs (kJ od sz) h) 6)))))) else ((wO g o f) ++ ((wU u (ah 0) (a0 0) (at9 0)) ++ ((wH g ah h) ++ ((wT g at9 (sg, (nI n))) ++ ((wK0 g a0 ak ((nI od), (nI sz))) ++ (wHs g ak hs 6))))))) := by rw [if_neg h0]; exact hD
      exact k_iret hx hb hr hlocks rfl (by rw [h1]) hP hD hS (Nat.le_of_ble_eq_true rfl) (Nat.le_of_ble_eq_true rfl) dL_come_16
    ·
      have h2 : (cdCome h row con) = 2 := by have h9 := le_L_come h row con; omega
      have hcl : s.vm.findClass "java/lang/IllegalStateException" = some ce.cls := by first | exact hcl | (rw [h2] at hcl; exact hcl)
      refine vx_catch (own := RL) (name := "java/lang/IllegalStateException") (E := "java/lang/IllegalStateException") hown [⟨0, 10, 13, 13⟩] ⟨0, 10, 17, 15⟩ [] hT (fun z hz => by cases List.mem_singleton.mp hz; exact Or.inr ⟨by decide, "java/lang/IndexOutOfBoundsException", lk13, hSt.2.2.1⟩) rfl (by decide) lk15 (va_Nw.use rfl hSt.2.1.2.1) hce hcv hcl ?_
      refine W.eq (g2 := F0 m 17 ls [.ref q9]) rfl ?_
      refine lv_astore (lv' := [(4, .ref q9), (0, .ref u), (1, .int row), (2, .int con), (3, .ref o)]) hx hb dL_come_17 hl (by decide) rfl (fun ls hl => ?_)
      refine lv_iconst (v := (nI 2)) hx hb dL_come_19 (by decide) ?_
      have hP : va_P g.1 vwCl (if (cdCome h row con) = 0 then ((wO g o (vp_updL f 0 (Int32.toInt64 (hL (Hseat (pl row con) h) (pl row con))))) ++ ((wU u (ah 0) (a0 0) (at9 0)) ++ ((wH g ah (Hseat (pl row con) h)) ++ ((wT g at9 (sg, (nI n))) ++ ((wK0 g a0 ak (nI (kOd od sz), nI (kSz sz))) ++ (wHs g ak (va_up hs (kJ od sz) h) 6)))))) else ((wO g o f) ++ ((wU u (ah 0) (a0 0) (at9 0)) ++ ((wH g ah h) ++ ((wT g at9 (sg, (nI n))) ++ ((wK0 g a0 ak ((nI od), (nI sz))) ++ (wHs g ak hs 6))))))) H := by rw [if_neg h0]; exact hP
      have hD : va_D A (if (cdCome h row con) = 0 then ((wO g o (vp_updL f 0 (Int32.toInt64 (hL (Hseat (pl row con) h) (pl row con))))) ++ ((wU u (ah 0) (a0 0) (at9 0)) ++ ((wH g ah (Hseat (pl row con) h)) ++ ((wT g at9 (sg, (nI n))) ++ ((wK0 g a0 ak (nI (kOd od sz), nI (kSz sz))) ++ (wHs g ak (va_up hs (kJ od sz) h) 6)))))) else ((wO g o f) ++ ((wU u (ah 0) (a0 0) (at9 0)) ++ ((wH g ah h) ++ ((wT g at9 (sg, (nI n))) ++ ((wK0 g a0 ak ((nI od), (nI sz))) ++ (wHs g ak hs 6))))))) := by rw [if_neg h0]; exact hD
      exact k_iret hx hb hr hlocks rfl (by rw [h2]) hP hD hS (Nat.le_of_ble_eq_true rfl) (Nat.le_of_ble_eq_true rfl) dL_come_20
  ·
    refine lv_i2l (v := (Int32.toInt64 (hL (Hseat (pl row con) h) (pl row con)))) hx hb dL_come_8 rfl ?_
    refine k_last (f := f) (ws1 := ((wO g o (vp_updL f 0 (Int32.toInt64 (hL (Hseat (pl row con) h) (pl row con))))) ++ ((wU u (ah 0) (a0 0) (at9 0)) ++ ((wH g ah (Hseat (pl row con) h)) ++ ((wT g at9 (sg, (nI n))) ++ ((wK0 g a0 ak (nI (kOd od sz), nI (kSz sz))) ++ (wHs g ak (va_up hs (kJ od sz) h) 6))))))) hx hb hE hP hD hS 0 rfl 0 rfl (by decide) (by decide) rfl dL_come_9 (fun H locs hP hD hS => ?_)
    refine lv_goto (tgt := 21) hx hb dL_come_10 (by decide) ?_
    refine lv_iconst (v := (nI 0)) hx hb dL_come_21 (by decide) ?_
    have hP : va_P g.1 vwCl (if (cdCome h row con) = 0 then ((wO g o (vp_updL f 0 (Int32.toInt64 (hL (Hseat (pl row con) h) (pl row con))))) ++ ((wU u (ah 0) (a0 0) (at9 0)) ++ ((wH g ah (Hseat (pl row con) h)) ++ ((wT g at9 (sg, (nI n))) ++ ((wK0 g a0 ak (nI (kOd od sz), nI (kSz sz))) ++ (wHs g ak (va_up hs (kJ od sz) h) 6)))))) else ((wO g o f) ++ ((wU u (ah 0) (a0 0) (at9 0)) ++ ((wH g ah h) ++ ((wT g at9 (sg, (nI n))) ++ ((wK0 g a0 ak ((nI od), (nI sz))) ++ (wHs g ak hs 6))))))) H := by rw [if_pos h0]; exact hP
    have hD : va_D A (if (cdCome h row con) = 0 then ((wO g o (vp_updL f 0 (Int32.toInt64 (hL (Hseat (pl row con) h) (pl row con))))) ++ ((wU u (ah 0) (a0 0) (at9 0)) ++ ((wH g ah (Hseat (pl row con) h)) ++ ((wT g at9 (sg, (nI n))) ++ ((wK0 g a0 ak (nI (kOd od sz), nI (kSz sz))) ++ (wHs g ak (va_up hs (kJ od sz) h) 6)))))) else ((wO g o f) ++ ((wU u (ah 0) (a0 0) (at9 0)) ++ ((wH g ah h) ++ ((wT g at9 (sg, (nI n))) ++ ((wK0 g a0 ak ((nI od), (nI sz))) ++ (wHs g ak hs 6))))))) := by rw [if_pos h0]; exact hD
    exact k_iret hx hb hr hlocks rfl (by rw [h0]) hP hD hS (Nat.le_of_ble_eq_true rfl) (Nat.le_of_ble_eq_true rfl) dL_come_22
