/-! the usher's methods: which exception (0: none), and the answers -/
def EI (_ : Nat) : String := xI
def EA (_ : Nat) : String := xA
def ES (_ : Nat) : String := xS
def EIS (k : Nat) : String := if k = 1 then xI else xS
def EIA (k : Nat) : String := if k = 1 then xI else xA
def EAS (k : Nat) : String := if k = 1 then xA else xS
theorem pm_5_1 {α : Type} (b0 b1 b2 b3 b4 : List α) : ((b0 ++ (b1 ++ (b2 ++ (b3 ++ b4))))).Perm (b1 ++ (b0 ++ (b2 ++ (b3 ++ b4)))) := by
  classical exact List.perm_iff_count.mpr (fun x => by simp only [List.count_append]; omega)
theorem pm_5_341 {α : Type} (b0 b1 b2 b3 b4 : List α) : ((b0 ++ (b1 ++ (b2 ++ (b3 ++ b4))))).Perm ((b3 ++ (b4 ++ b1)) ++ (b0 ++ b2)) := by
  classical exact List.perm_iff_count.mpr (fun x => by simp only [List.count_append]; omega)
set_option maxHeartbeats 4000000 in
set_option maxRecDepth 100000 in
theorem c_X3_isRow (l : Launch) (g : kG) (x : Int32) : KI l yX3_isRow wsX3_isRow ({ frames := 0, cells := 0, slots := 0, locals := 0 }) g [.int x] [] (bI (ckR x = 0)) [] 0 0 := by
  refine k_begin (cc := cX3_isRow) (maxL := 1) (ret := (some .boolean)) (Qc := fun A => kQi g (bI (ckR x = 0)) [] A) (by decide) rfl (Nat.le_of_ble_eq_true rfl) ?_
  intro p e s m below meth c A ls hF hr hlocks hin hE hP hD hS hA hl
  obtain ⟨hx, hb, hml, hown, hts⟩ := id hF
  have hown : s.vm.findClass RX3 = some m.cls := hown
  have hl : lv_has ls 1 [(0, .int x)] := hl
  refine lv_iload_n hx hb dX3_isRow_0 rfl (lv_at hl 0 rfl) ?_
  refine lv_if_lt (tgt := 14) hx hb dX3_isRow_1 (by decide) (fun c1 => ?_) (fun c1 => ?_)
  ·
    refine lv_iconst (v := (nI 0)) hx hb dX3_isRow_14 (by decide) ?_
    have hP : va_P g.1 vwCl [] _ := hP
    have hD : va_D A [] := hD
    exact k_iret hx hb hr hlocks rfl (ckR_n1 c1) hP hD hS (Nat.le_of_ble_eq_true rfl) (Nat.le_of_ble_eq_true rfl) dX3_isRow_15
  ·
    refine lv_iload_n hx hb dX3_isRow_4 rfl (lv_at hl 0 rfl) ?_
    refine lv_bipush (v := (nI 8)) hx hb dX3_isRow_5 (by decide) ?_
    refine lv_icmp_ge (tgt := 14) hx hb dX3_isRow_7 (by decide) (fun c2 => ?_) (fun c2 => ?_)
    ·
      refine lv_iconst (v := (nI 0)) hx hb dX3_isRow_14 (by decide) ?_
      have hP : va_P g.1 vwCl [] _ := hP
      have hD : va_D A [] := hD
      exact k_iret hx hb hr hlocks rfl (ckR_n2 c1 c2) hP hD hS (Nat.le_of_ble_eq_true rfl) (Nat.le_of_ble_eq_true rfl) dX3_isRow_15
    ·
      refine lv_iconst (v := (nI 1)) hx hb dX3_isRow_10 (by decide) ?_
      refine lv_goto (tgt := 15) hx hb dX3_isRow_11 (by decide) ?_
      have hP : va_P g.1 vwCl [] _ := hP
      have hD : va_D A [] := hD
      exact k_iret hx hb hr hlocks rfl (ckR_y c1 c2) hP hD hS (Nat.le_of_ble_eq_true rfl) (Nat.le_of_ble_eq_true rfl) dX3_isRow_15
set_option maxHeartbeats 4000000 in
set_option maxRecDepth 100000 in
theorem c_X3_isConcert (l : Launch) (g : kG) (x : Int32) : KI l yX3_isConcert wsX3_isConcert ({ frames := 0, cells := 0, slots := 0, locals := 0 }) g [.int x] [] (bI (ckC x = 0)) [] 0 0 := by
  refine k_begin (cc := cX3_isConcert) (maxL := 1) (ret := (some .boolean)) (Qc := fun A => kQi g (bI (ckC x = 0)) [] A) (by decide) rfl (Nat.le_of_ble_eq_true rfl) ?_
  intro p e s m below meth c A ls hF hr hlocks hin hE hP hD hS hA hl
  obtain ⟨hx, hb, hml, hown, hts⟩ := id hF
  have hown : s.vm.findClass RX3 = some m.cls := hown
  have hl : lv_has ls 1 [(0, .int x)] := hl
  refine lv_iload_n hx hb dX3_isConcert_0 rfl (lv_at hl 0 rfl) ?_
  refine lv_if_lt (tgt := 14) hx hb dX3_isConcert_1 (by decide) (fun c1 => ?_) (fun c1 => ?_)
  ·
    refine lv_iconst (v := (nI 0)) hx hb dX3_isConcert_14 (by decide) ?_
    have hP : va_P g.1 vwCl [] _ := hP
    have hD : va_D A [] := hD
    exact k_iret hx hb hr hlocks rfl (ckC_n1 c1) hP hD hS (Nat.le_of_ble_eq_true rfl) (Nat.le_of_ble_eq_true rfl) dX3_isConcert_15
  ·
    refine lv_iload_n hx hb dX3_isConcert_4 rfl (lv_at hl 0 rfl) ?_
    refine lv_bipush (v := (nI 6)) hx hb dX3_isConcert_5 (by decide) ?_
    refine lv_icmp_ge (tgt := 14) hx hb dX3_isConcert_7 (by decide) (fun c2 => ?_) (fun c2 => ?_)
    ·
      refine lv_iconst (v := (nI 0)) hx hb dX3_isConcert_14 (by decide) ?_
      have hP : va_P g.1 vwCl [] _ := hP
      have hD : va_D A [] := hD
      exact k_iret hx hb hr hlocks rfl (ckC_n2 c1 c2) hP hD hS (Nat.le_of_ble_eq_true rfl) (Nat.le_of_ble_eq_true rfl) dX3_isConcert_15
    ·
      refine lv_iconst (v := (nI 1)) hx hb dX3_isConcert_10 (by decide) ?_
      refine lv_goto (tgt := 15) hx hb dX3_isConcert_11 (by decide) ?_
      have hP : va_P g.1 vwCl [] _ := hP
      have hD : va_D A [] := hD
      exact k_iret hx hb hr hlocks rfl (ckC_y c1 c2) hP hD hS (Nat.le_of_ble_eq_true rfl) (Nat.le_of_ble_eq_true rfl) dX3_isConcert_15
set_option maxHeartbeats 4000000 in
set_option maxRecDepth 100000 in
theorem c_X3_checkRow (l : Launch) (hfl : l.stackTraces = false) (g : kG) (sa : Nat → Nat) (x : Int32) : KXV l yX3_checkRow wsX3_checkRow ({ frames := 6, cells := 1, slots := 6, locals := 90 }) g sa [.int x] [] (ckR x) EI [] 1 6 := by
  refine k_beginX (cc := cX3_checkRow) (maxL := 1) (ret := none) (Qc := fun A => kQxv g (ckR x) [] A) (XC := fun A => kXx g (ckR x) EI [] A) (by decide) rfl (Nat.le_of_ble_eq_true rfl) ?_
  intro p e s m below meth c A ls hF hr hlocks hT hE hSt hZ hP hD hS hA hl
  obtain ⟨hx, hb, hml, hown, hts⟩ := id hF
  have hown : s.vm.findClass RX3 = some m.cls := hown
  have hl : lv_has ls 1 [(0, .int x)] := hl
  have tcl101 : (Cond.classLink RX3 101 "java/lang/IndexOutOfBoundsException").before _ s = true := hts _ (List.mem_of_getElem? (i := 1) rfl)
  have tin101 : (Cond.initialized "java/lang/IndexOutOfBoundsException").before _ s = true := hts _ (List.mem_of_getElem? (i := 2) rfl)
  have tat105 : ∀ w ∈ vx_atS RX3 105 "java/lang/IndexOutOfBoundsException" ["java/lang/RuntimeException", "java/lang/Exception"], w.before _ s = true := vx_hat (B := [.castable "java/lang/IndexOutOfBoundsException" "java/lang/IndexOutOfBoundsException", .declares (Bundle.initS "java/lang/RuntimeException"), .declares (Bundle.initS "java/lang/Exception"), .declares (Bundle.initS Bundle.tN)]) (fun w h => hts w ((fun _ h => List.mem_cons_of_mem _ (List.mem_append_right _ (h))) w h)) (by decide +kernel) (vx_c (va_Nw.use rfl hSt.2.1.1) (vx_c (va_Nw.use rfl hSt.2.1.2.2.2.1) (vx_c (va_Nw.use rfl hSt.2.1.2.2.2.2.1) (vx_c (va_Nw.use rfl hSt.2.1.2.2.2.2.2) vx_n))))
  refine lv_iload_n hx hb dX3_checkRow_0 rfl (lv_at hl 0 rfl) ?_
  refine k_Si (w0 := []) (w1 := []) (As := [.int x]) (r := (bI (ckR x = 0))) hF (c_X3_isRow l g x) (va_cwS 1 hts gX3_checkRow_X3_isRow rfl rfl rfl (by decide +kernel) ⟨Nat.le_of_ble_eq_true rfl, Nat.le_of_ble_eq_true rfl⟩) hE hP hD hS hA (List.Perm.refl _) (List.Perm.refl _) rfl hl.1 rfl (Nat.le_of_ble_eq_true rfl) dX3_checkRow_1 ⟨Nat.le_of_ble_eq_true rfl, Nat.le_of_ble_eq_true rfl⟩ (fun H locs hP hD hS => ?_)
  have hP : va_P g.1 vwCl [] _ := hP
  have hD : va_D A [] := hD
  refine k_ifneB (tgt := 17) hx hb dX3_checkRow_4 (by decide) (fun c1 => ?_) (fun c1 => ?_)
  ·
    have hcode : (ckR x) = 0 := c1
    have hP : va_P g.1 vwCl [] _ := hP
    have hD : va_D A [] := hD
    exact k_xvret hx hb hr hlocks hcode hP hD hS (Nat.le_of_ble_eq_true rfl) (Nat.le_of_ble_eq_true rfl) dX3_checkRow_17
  ·
    have hcode : (ckR x) = 1 := (ckR_1 c1)
    exact k_throw (i := 11) (cls := "java/lang/IndexOutOfBoundsException") hx hb hfl hown (by decide) tcl101 tin101 hSt rfl tat105 (by decide +kernel) hZ hP hD hS hA (hl.1.trans hml.symm) dX3_checkRow_7 dX3_checkRow_10 dX3_checkRow_11 dX3_checkRow_13 dX3_checkRow_16 hT (Nat.le_of_ble_eq_true rfl) (Nat.le_of_ble_eq_true rfl) (Nat.le_of_ble_eq_true rfl) (Nat.le_of_ble_eq_true rfl) hlocks (Nat.le_of_ble_eq_true rfl) (Nat.le_of_ble_eq_true rfl) (by rw [hcode]; decide) (by rw [hcode]; rfl)
set_option maxHeartbeats 4000000 in
set_option maxRecDepth 100000 in
theorem c_X3_checkConcert (l : Launch) (hfl : l.stackTraces = false) (g : kG) (sa : Nat → Nat) (x : Int32) : KXV l yX3_checkConcert wsX3_checkConcert ({ frames := 6, cells := 1, slots := 6, locals := 90 }) g sa [.int x] [] (ckC x) EI [] 1 6 := by
  refine k_beginX (cc := cX3_checkConcert) (maxL := 1) (ret := none) (Qc := fun A => kQxv g (ckC x) [] A) (XC := fun A => kXx g (ckC x) EI [] A) (by decide) rfl (Nat.le_of_ble_eq_true rfl) ?_
  intro p e s m below meth c A ls hF hr hlocks hT hE hSt hZ hP hD hS hA hl
  obtain ⟨hx, hb, hml, hown, hts⟩ := id hF
  have hown : s.vm.findClass RX3 = some m.cls := hown
  have hl : lv_has ls 1 [(0, .int x)] := hl
  have tcl101 : (Cond.classLink RX3 101 "java/lang/IndexOutOfBoundsException").before _ s = true := hts _ (List.mem_of_getElem? (i := 1) rfl)
  have tin101 : (Cond.initialized "java/lang/IndexOutOfBoundsException").before _ s = true := hts _ (List.mem_of_getElem? (i := 2) rfl)
  have tat105 : ∀ w ∈ vx_atS RX3 105 "java/lang/IndexOutOfBoundsException" ["java/lang/RuntimeException", "java/lang/Exception"], w.before _ s = true := vx_hat (B := [.castable "java/lang/IndexOutOfBoundsException" "java/lang/IndexOutOfBoundsException", .declares (Bundle.initS "java/lang/RuntimeException"), .declares (Bundle.initS "java/lang/Exception"), .declares (Bundle.initS Bundle.tN)]) (fun w h => hts w ((fun _ h => List.mem_cons_of_mem _ (List.mem_append_right _ (h))) w h)) (by decide +kernel) (vx_c (va_Nw.use rfl hSt.2.1.1) (vx_c (va_Nw.use rfl hSt.2.1.2.2.2.1) (vx_c (va_Nw.use rfl hSt.2.1.2.2.2.2.1) (vx_c (va_Nw.use rfl hSt.2.1.2.2.2.2.2) vx_n))))
  refine lv_iload_n hx hb dX3_checkConcert_0 rfl (lv_at hl 0 rfl) ?_
  refine k_Si (w0 := []) (w1 := []) (As := [.int x]) (r := (bI (ckC x = 0))) hF (c_X3_isConcert l g x) (va_cwS 1 hts gX3_checkConcert_X3_isConcert rfl rfl rfl (by decide +kernel) ⟨Nat.le_of_ble_eq_true rfl, Nat.le_of_ble_eq_true rfl⟩) hE hP hD hS hA (List.Perm.refl _) (List.Perm.refl _) rfl hl.1 rfl (Nat.le_of_ble_eq_true rfl) dX3_checkConcert_1 ⟨Nat.le_of_ble_eq_true rfl, Nat.le_of_ble_eq_true rfl⟩ (fun H locs hP hD hS => ?_)
  have hP : va_P g.1 vwCl [] _ := hP
  have hD : va_D A [] := hD
  refine k_ifneB (tgt := 17) hx hb dX3_checkConcert_4 (by decide) (fun c1 => ?_) (fun c1 => ?_)
  ·
    have hcode : (ckC x) = 0 := c1
    have hP : va_P g.1 vwCl [] _ := hP
    have hD : va_D A [] := hD
    exact k_xvret hx hb hr hlocks hcode hP hD hS (Nat.le_of_ble_eq_true rfl) (Nat.le_of_ble_eq_true rfl) dX3_checkConcert_17
  ·
    have hcode : (ckC x) = 1 := (ckC_1 c1)
    exact k_throw (i := 12) (cls := "java/lang/IndexOutOfBoundsException") hx hb hfl hown (by decide) tcl101 tin101 hSt rfl tat105 (by decide +kernel) hZ hP hD hS hA (hl.1.trans hml.symm) dX3_checkConcert_7 dX3_checkConcert_10 dX3_checkConcert_11 dX3_checkConcert_13 dX3_checkConcert_16 hT (Nat.le_of_ble_eq_true rfl) (Nat.le_of_ble_eq_true rfl) (Nat.le_of_ble_eq_true rfl) (Nat.le_of_ble_eq_true rfl) hlocks (Nat.le_of_ble_eq_true rfl) (Nat.le_of_ble_eq_true rfl) (by rw [hcode]; decide) (by rw [hcode]; rfl)
set_option maxHeartbeats 4000000 in
set_option maxRecDepth 100000 in
theorem c_X3_checkMinutes (l : Launch) (hfl : l.stackTraces = false) (g : kG) (sa : Nat → Nat) (x : Int32) : KXV l yX3_checkMinutes wsX3_checkMinutes ({ frames := 6, cells := 1, slots := 6, locals := 90 }) g sa [.int x] [] (ckM x) EA [] 1 6 := by
  refine k_beginX (cc := cX3_checkMinutes) (maxL := 1) (ret := none) (Qc := fun A => kQxv g (ckM x) [] A) (XC := fun A => kXx g (ckM x) EA [] A) (by decide) rfl (Nat.le_of_ble_eq_true rfl) ?_
  intro p e s m below meth c A ls hF hr hlocks hT hE hSt hZ hP hD hS hA hl
  obtain ⟨hx, hb, hml, hown, hts⟩ := id hF
  have hown : s.vm.findClass RX3 = some m.cls := hown
  have hl : lv_has ls 1 [(0, .int x)] := hl
  have tcl82 : (Cond.classLink RX3 82 "java/lang/IllegalArgumentException").before _ s = true := hts _ (List.mem_of_getElem? (i := 1) rfl)
  have tin82 : (Cond.initialized "java/lang/IllegalArgumentException").before _ s = true := hts _ (List.mem_of_getElem? (i := 2) rfl)
  have tat86 : ∀ w ∈ vx_atS RX3 86 "java/lang/IllegalArgumentException" ["java/lang/RuntimeException", "java/lang/Exception"], w.before _ s = true := vx_hat (B := [.castable "java/lang/IllegalArgumentException" "java/lang/IllegalArgumentException", .declares (Bundle.initS "java/lang/RuntimeException"), .declares (Bundle.initS "java/lang/Exception"), .declares (Bundle.initS Bundle.tN)]) (fun w h => hts w ((fun _ h => List.mem_cons_of_mem _ (List.mem_append_right _ (h))) w h)) (by decide +kernel) (vx_c (va_Nw.use rfl hSt.2.1.2.2.1) (vx_c (va_Nw.use rfl hSt.2.1.2.2.2.1) (vx_c (va_Nw.use rfl hSt.2.1.2.2.2.2.1) (vx_c (va_Nw.use rfl hSt.2.1.2.2.2.2.2) vx_n))))
  refine lv_iload_n hx hb dX3_checkMinutes_0 rfl (lv_at hl 0 rfl) ?_
  refine lv_iconst (v := (nI 1)) hx hb dX3_checkMinutes_1 (by decide) ?_
  refine lv_icmp_lt (tgt := 11) hx hb dX3_checkMinutes_2 (by decide) (fun c1 => ?_) (fun c1 => ?_)
  ·
    have hcode : (ckM x) = 1 := (by first | (simp only [ckM, if_pos c1, if_neg (not_not_intro c1)]; done) | (simp only [ckM, if_pos c1, if_neg (not_not_intro c1)]; rfl) | rfl | (simp [ckM, if_pos c1, if_neg (not_not_intro c1)]; done))
    exact k_throw (i := 13) (cls := "java/lang/IllegalArgumentException") hx hb hfl hown (by decide) tcl82 tin82 hSt rfl tat86 (by decide +kernel) hZ hP hD hS hA (hl.1.trans hml.symm) dX3_checkMinutes_11 dX3_checkMinutes_14 dX3_checkMinutes_15 dX3_checkMinutes_17 dX3_checkMinutes_20 hT (Nat.le_of_ble_eq_true rfl) (Nat.le_of_ble_eq_true rfl) (Nat.le_of_ble_eq_true rfl) (Nat.le_of_ble_eq_true rfl) hlocks (Nat.le_of_ble_eq_true rfl) (Nat.le_of_ble_eq_true rfl) (by rw [hcode]; decide) (by rw [hcode]; rfl)
  ·
    refine lv_iload_n hx hb dX3_checkMinutes_5 rfl (lv_at hl 0 rfl) ?_
    refine lv_bipush (v := (nI 60)) hx hb dX3_checkMinutes_6 (by decide) ?_
    refine lv_icmp_le (tgt := 21) hx hb dX3_checkMinutes_8 (by decide) (fun c2 => ?_) (fun c2 => ?_)
    ·
      have hcode : (ckM x) = 0 := (by first | (simp only [ckM, if_neg c1, if_pos c1, if_pos c2, if_neg (not_not_intro c2)]; done) | (simp only [ckM, if_neg c1, if_pos c1, if_pos c2, if_neg (not_not_intro c2)]; rfl) | rfl | (simp [ckM, if_neg c1, if_pos c1, if_pos c2, if_neg (not_not_intro c2)]; done))
      have hP : va_P g.1 vwCl [] _ := hP
      have hD : va_D A [] := hD
      exact k_xvret hx hb hr hlocks hcode hP hD hS (Nat.le_of_ble_eq_true rfl) (Nat.le_of_ble_eq_true rfl) dX3_checkMinutes_21
    ·
      have hcode : (ckM x) = 1 := (by first | (simp only [ckM, if_neg c1, if_pos c1, if_neg c2, if_pos c2]; done) | (simp only [ckM, if_neg c1, if_pos c1, if_neg c2, if_pos c2]; rfl) | rfl | (simp [ckM, if_neg c1, if_pos c1, if_neg c2, if_pos c2]; done))
      exact k_throw (i := 13) (cls := "java/lang/IllegalArgumentException") hx hb hfl hown (by decide) tcl82 tin82 hSt rfl tat86 (by decide +kernel) hZ hP hD hS hA (hl.1.trans hml.symm) dX3_checkMinutes_11 dX3_checkMinutes_14 dX3_checkMinutes_15 dX3_checkMinutes_17 dX3_checkMinutes_20 hT (Nat.le_of_ble_eq_true rfl) (Nat.le_of_ble_eq_true rfl) (Nat.le_of_ble_eq_true rfl) (Nat.le_of_ble_eq_true rfl) hlocks (Nat.le_of_ble_eq_true rfl) (Nat.le_of_ble_eq_true rfl) (by rw [hcode]; decide) (by rw [hcode]; rfl)
set_option maxHeartbeats 4000000 in
set_option maxRecDepth 100000 in
theorem c_X3_come (l : Launch) (hfl : l.stackTraces = false) (g : kG) (sa : Nat → Nat) (u : Nat) (ah at9 a0 : Nat → Nat) (ak : Nat → Nat → Nat) (h : HSt) (sg : Nat → Int32) (n : Nat) (hn : n ≤ 60) (hch : Tok sg n) (od sz : Nat) (hod : od < 6) (hsz : sz ≤ 6) (hs : Nat → HSt) (hbo : Hbo h) (hbs : ∀ j, Hbo (hs j)) (row con : Int32) : KXI l yX3_come wsX3_come ({ frames := 7, cells := 3, slots := 18, locals := 110 }) g sa [.ref u, .int row, .int con] ((wU u (ah 0) (a0 0) (at9 0)) ++ ((wH g ah h) ++ ((wT g at9 (sg, (nI n))) ++ ((wK0 g a0 ak ((nI od), (nI sz))) ++ (wHs g ak hs 6))))) (cdCome h row con) EIS (hL (Hseat (pl row con) h) (pl row con)) ((wU u (ah 0) (a0 0) (at9 0)) ++ ((wH g ah (Hseat (pl row con) h)) ++ ((wT g at9 (sg, (nI n))) ++ ((wK0 g a0 ak (nI (kOd od sz), nI (kSz sz))) ++ (wHs g ak (va_up hs (kJ od sz) h) 6))))) 3 18 := by
  refine k_beginX (cc := cX3_come) (maxL := 4) (ret := (some .int)) (Qc := fun A => kQxi g (cdCome h row con) (hL (Hseat (pl row con) h) (pl row con)) ((wU u (ah 0) (a0 0) (at9 0)) ++ ((wH g ah (Hseat (pl row con) h)) ++ ((wT g at9 (sg, (nI n))) ++ ((wK0 g a0 ak (nI (kOd od sz), nI (kSz sz))) ++ (wHs g ak (va_up hs (kJ od sz) h) 6))))) A) (XC := fun A => kXx g (cdCome h row con) EIS ((wU u (ah 0) (a0 0) (at9 0)) ++ ((wH g ah h) ++ ((wT g at9 (sg, (nI n))) ++ ((wK0 g a0 ak ((nI od), (nI sz))) ++ (wHs g ak hs 6))))) A) (by decide) rfl (Nat.le_of_ble_eq_true rfl) ?_
  intro p e s m below meth c A ls hF hr hlocks hT hE hSt hZ hP hD hS hA hl
  obtain ⟨hx, hb, hml, hown, hts⟩ := id hF
  have hown : s.vm.findClass RX3 = some m.cls := hown
  have hl : lv_has ls 4 [(0, .ref u), (1, .int row), (2, .int con)] := hl
  have hiX3 : ∀ w ∈ wsX30, w ∈ wsX3_come := fun _ h => List.mem_cons_of_mem _ (List.mem_append_left _ (List.mem_append_left _ (List.mem_append_left _ (List.mem_append_left _ (List.mem_append_right _ (h))))))
  have hiX1 : ∀ w ∈ wsX10, w ∈ wsX3_come := fun _ h => List.mem_cons_of_mem _ (List.mem_append_left _ (List.mem_append_left _ (List.mem_append_left _ (List.mem_append_right _ (h)))))
  have f12 : (Cond.fieldLink RX3 12 "ConcertUsher" "hall" "LConcertUsher$Hall;").before _ s = true := hts _ (List.mem_of_getElem? (i := 3) rfl)
  have f19 : (Cond.fieldLink RX3 19 "ConcertUsher" "history" "LConcertUsher$History;").before _ s = true := hts _ (List.mem_of_getElem? (i := 4) rfl)
  have f59 : (Cond.fieldLink RX3 59 "ConcertUsher$Hall" "listeners" "[I").before _ s = true := hts _ (List.mem_of_getElem? (i := 5) rfl)
  have tcl45 : (Cond.classLink RX3 45 "java/lang/IllegalStateException").before _ s = true := hts _ (List.mem_of_getElem? (i := 1) rfl)
  have tin45 : (Cond.initialized "java/lang/IllegalStateException").before _ s = true := hts _ (List.mem_of_getElem? (i := 2) rfl)
  have tat49 : ∀ w ∈ vx_atS RX3 49 "java/lang/IllegalStateException" ["java/lang/RuntimeException", "java/lang/Exception"], w.before _ s = true := vx_hat (B := [.castable "java/lang/IllegalStateException" "java/lang/IllegalStateException", .declares (Bundle.initS "java/lang/RuntimeException"), .declares (Bundle.initS "java/lang/Exception"), .declares (Bundle.initS Bundle.tN)]) (fun w h => hts w ((fun _ h => List.mem_cons_of_mem _ (List.mem_append_left _ (List.mem_append_right _ (h)))) w h)) (by decide +kernel) (vx_c (va_Nw.use rfl hSt.2.1.2.1) (vx_c (va_Nw.use rfl hSt.2.1.2.2.2.1) (vx_c (va_Nw.use rfl hSt.2.1.2.2.2.2.1) (vx_c (va_Nw.use rfl hSt.2.1.2.2.2.2.2) vx_n))))
  refine lv_iload_n hx hb dX3_come_0 rfl (lv_at hl 1 rfl) ?_
  refine k_XSv (As := [.int row]) (w0 := []) (wr := ((wU u (ah 0) (a0 0) (at9 0)) ++ ((wH g ah h) ++ ((wT g at9 (sg, (nI n))) ++ ((wK0 g a0 ak ((nI od), (nI sz))) ++ (wHs g ak hs 6)))))) hF (c_X3_checkRow l hfl g sa row) (va_cwS 1 hts gX3_come_X3_checkRow rfl rfl rfl (by decide +kernel) ⟨Nat.le_of_ble_eq_true rfl, Nat.le_of_ble_eq_true rfl⟩) hE hSt hZ hP hD hS hA (List.Perm.refl _) rfl hl.1 rfl (Nat.le_of_ble_eq_true rfl) dX3_come_1 ⟨Nat.le_of_ble_eq_true rfl, Nat.le_of_ble_eq_true rfl⟩ hT hlocks (Nat.le_of_ble_eq_true rfl) (Nat.le_of_ble_eq_true rfl) (fun h9 => by have h8 : (cdCome h row con) = 1 := (by first | rfl | (simp only [cdCome, if_neg h9]; done) | (simp only [cdCome, if_neg h9]; rfl) | (simp [cdCome, if_neg h9]; done)); exact ⟨by rw [h8]; decide, by rw [h8]; rfl⟩) (fun H locs hk1 hP hD hS => ?_)
  obtain ⟨k2, hk3, hk1e⟩ := ckR_ok hk1
  have hk1c : row.toNatClampNeg = k2 := cl_eq hk1e (by omega)
  refine lv_iload_n hx hb dX3_come_4 rfl (lv_at hl 2 rfl) ?_
  refine k_XSv (As := [.int con]) (w0 := []) (wr := ((wU u (ah 0) (a0 0) (at9 0)) ++ ((wH g ah h) ++ ((wT g at9 (sg, (nI n))) ++ ((wK0 g a0 ak ((nI od), (nI sz))) ++ (wHs g ak hs 6)))))) hF (c_X3_checkConcert l hfl g sa con) (va_cwS 1 hts gX3_come_X3_checkConcert rfl rfl rfl (by decide +kernel) ⟨Nat.le_of_ble_eq_true rfl, Nat.le_of_ble_eq_true rfl⟩) hE hSt hZ hP hD hS hA (List.Perm.refl _) rfl hl.1 rfl (Nat.le_of_ble_eq_true rfl) dX3_come_5 ⟨Nat.le_of_ble_eq_true rfl, Nat.le_of_ble_eq_true rfl⟩ hT hlocks (Nat.le_of_ble_eq_true rfl) (Nat.le_of_ble_eq_true rfl) (fun h9 => by have h8 : (cdCome h row con) = 1 := (by first | (simp only [cdCome, if_neg h9, if_pos hk1, if_neg (not_not_intro hk1), hk1c]; done) | (simp only [cdCome, if_neg h9, if_pos hk1, if_neg (not_not_intro hk1), hk1c]; rfl) | rfl | (simp [cdCome, if_neg h9, if_pos hk1, if_neg (not_not_intro hk1), hk1c]; done)); exact ⟨by rw [h8]; decide, by rw [h8]; rfl⟩) (fun H locs hk4 hP hD hS => ?_)
  obtain ⟨k5, hk6, hk4e⟩ := ckC_ok hk4
  have hpl : pl row con = k2 * 6 + k5 := pl_eq (by omega) (by omega) hk1e hk4e
  refine lv_iload_n hx hb dX3_come_8 rfl (lv_at hl 1 rfl) ?_
  refine k_top hk1e ?_
  refine lv_iload_n hx hb dX3_come_9 rfl (lv_at hl 2 rfl) ?_
  refine k_top hk4e ?_
  refine k_Si (w0 := []) (w1 := []) (As := [.int (nI k2), .int (nI k5)]) (r := (nI (k2 * 6 + k5))) hF (c_X3_placeOf l g k2 k5) (va_cwS 2 hts gX3_come_X3_placeOf rfl rfl rfl (by decide +kernel) ⟨Nat.le_of_ble_eq_true rfl, Nat.le_of_ble_eq_true rfl⟩) hE hP hD hS hA (List.Perm.refl _) (List.Perm.refl _) rfl hl.1 rfl (Nat.le_of_ble_eq_true rfl) dX3_come_10 ⟨Nat.le_of_ble_eq_true rfl, Nat.le_of_ble_eq_true rfl⟩ (fun H locs hP hD hS => ?_)
  have hP : va_P g.1 vwCl ((wU u (ah 0) (a0 0) (at9 0)) ++ ((wH g ah h) ++ ((wT g at9 (sg, (nI n))) ++ ((wK0 g a0 ak ((nI od), (nI sz))) ++ (wHs g ak hs 6))))) _ := hP
  have hD : va_D A ((wU u (ah 0) (a0 0) (at9 0)) ++ ((wH g ah h) ++ ((wT g at9 (sg, (nI n))) ++ ((wK0 g a0 ak ((nI od), (nI sz))) ++ (wHs g ak hs 6))))) := hD
  refine lv_istore_n (lv' := [(3, .int (nI (k2 * 6 + k5))), (0, .ref u), (1, .int row), (2, .int con)]) hx hb dX3_come_13 rfl hl (by decide) rfl (fun ls hl => ?_)
  refine lv_aload_n hx hb dX3_come_14 rfl (lv_at hl 1 rfl) ?_
  refine va_get (D := g.1) (ci := 3) (v := .ref (ah 0)) (C := RX3) (T := TX3) (N := 3) hx hb hts hiX3 hown hE.1 hP 0 rfl rfl 0 (by decide) f12 (fun _ h9 => h9) rfl dX3_come_15 ?_
  refine lv_iload_n hx hb dX3_come_18 rfl (lv_at hl 0 rfl) ?_
  refine k_Vi (As := [.int (nI (k2 * 6 + k5))]) (r := (bI (¬ nI 9 ≤ ((hL h) (k2 * 6 + k5))))) hF (c_X1_hasRoom l g ah h (k2 * 6 + k5) (by omega)) (cwV 1 hts gX3_come_X1_hasRoom rfl rfl rfl (by decide +kernel) ⟨Nat.le_of_ble_eq_true rfl, Nat.le_of_ble_eq_true rfl⟩) hE hP hD hS hA (pm_5_1 _ _ _ _ _) ((pm_5_1 _ _ _ _ _).symm) 1 rfl rfl rfl rfl hl.1 rfl (Nat.le_of_ble_eq_true rfl) dX3_come_19 ⟨Nat.le_of_ble_eq_true rfl, Nat.le_of_ble_eq_true rfl⟩ (fun H locs hP hD hS => ?_)
  have hP : va_P g.1 vwCl ((wU u (ah 0) (a0 0) (at9 0)) ++ ((wH g ah h) ++ ((wT g at9 (sg, (nI n))) ++ ((wK0 g a0 ak ((nI od), (nI sz))) ++ (wHs g ak hs 6))))) _ := hP
  have hD : va_D A ((wU u (ah 0) (a0 0) (at9 0)) ++ ((wH g ah h) ++ ((wT g at9 (sg, (nI n))) ++ ((wK0 g a0 ak ((nI od), (nI sz))) ++ (wHs g ak hs 6))))) := hD
  refine k_ifneB (tgt := 35) hx hb dX3_come_22 (by decide) (fun c7 => ?_) (fun c7 => ?_)
  ·
    refine lv_aload_n hx hb dX3_come_35 rfl (lv_at hl 1 rfl) ?_
    refine va_get (D := g.1) (ci := 3) (v := .ref (a0 0)) (C := RX3) (T := TX3) (N := 3) hx hb hts hiX3 hown hE.1 hP 0 rfl rfl 1 (by decide) f19 (fun _ h9 => h9) rfl dX3_come_36 ?_
    refine lv_aload_n hx hb dX3_come_39 rfl (lv_at hl 1 rfl) ?_
    refine va_get (D := g.1) (ci := 3) (v := .ref (ah 0)) (C := RX3) (T := TX3) (N := 3) hx hb hts hiX3 hown hE.1 hP 0 rfl rfl 0 (by decide) f12 (fun _ h9 => h9) rfl dX3_come_40 ?_
    refine k_Vv (As := [.ref (ah 0)]) hF (c_X2_keep l g a0 ak ah od sz (by omega) (by omega) hs h hbo) (cwV 1 hts gX3_come_X2_keep rfl rfl rfl (by decide +kernel) ⟨Nat.le_of_ble_eq_true rfl, Nat.le_of_ble_eq_true rfl⟩) hE hP hD hS hA (pm_5_341 _ _ _ _ _) ((pm_5_341 _ _ _ _ _).symm) 7 rfl rfl rfl rfl hl.1 rfl (Nat.le_of_ble_eq_true rfl) dX3_come_43 ⟨Nat.le_of_ble_eq_true rfl, Nat.le_of_ble_eq_true rfl⟩ (fun H locs hP hD hS => ?_)
    have hP : va_P g.1 vwCl ((wU u (ah 0) (a0 0) (at9 0)) ++ ((wH g ah h) ++ ((wT g at9 (sg, (nI n))) ++ ((wK0 g a0 ak ((nI (kOd od sz)), (nI (kSz sz)))) ++ (wHs g ak (va_up hs (kJ od sz) h) 6))))) _ := hP
    have hD : va_D A ((wU u (ah 0) (a0 0) (at9 0)) ++ ((wH g ah h) ++ ((wT g at9 (sg, (nI n))) ++ ((wK0 g a0 ak ((nI (kOd od sz)), (nI (kSz sz)))) ++ (wHs g ak (va_up hs (kJ od sz) h) 6))))) := hD
    refine lv_aload_n hx hb dX3_come_46 rfl (lv_at hl 1 rfl) ?_
    refine va_get (D := g.1) (ci := 3) (v := .ref (ah 0)) (C := RX3) (T := TX3) (N := 3) hx hb hts hiX3 hown hE.1 hP 0 rfl rfl 0 (by decide) f12 (fun _ h9 => h9) rfl dX3_come_47 ?_
    refine lv_iload_n hx hb dX3_come_50 rfl (lv_at hl 0 rfl) ?_
    refine k_Vv (As := [.int (nI (k2 * 6 + k5))]) hF (c_X1_seat l g ah h (k2 * 6 + k5) (by omega)) (cwV 1 hts gX3_come_X1_seat rfl rfl rfl (by decide +kernel) ⟨Nat.le_of_ble_eq_true rfl, Nat.le_of_ble_eq_true rfl⟩) hE hP hD hS hA (pm_5_1 _ _ _ _ _) ((pm_5_1 _ _ _ _ _).symm) 1 rfl rfl rfl rfl hl.1 rfl (Nat.le_of_ble_eq_true rfl) dX3_come_51 ⟨Nat.le_of_ble_eq_true rfl, Nat.le_of_ble_eq_true rfl⟩ (fun H locs hP hD hS => ?_)
    have hP : va_P g.1 vwCl ((wU u (ah 0) (a0 0) (at9 0)) ++ ((wH g ah (Hseat (k2 * 6 + k5) h)) ++ ((wT g at9 (sg, (nI n))) ++ ((wK0 g a0 ak ((nI (kOd od sz)), (nI (kSz sz)))) ++ (wHs g ak (va_up hs (kJ od sz) h) 6))))) _ := hP
    have hD : va_D A ((wU u (ah 0) (a0 0) (at9 0)) ++ ((wH g ah (Hseat (k2 * 6 + k5) h)) ++ ((wT g at9 (sg, (nI n))) ++ ((wK0 g a0 ak ((nI (kOd od sz)), (nI (kSz sz)))) ++ (wHs g ak (va_up hs (kJ od sz) h) 6))))) := hD
    obtain ⟨z8, ez8⟩ : ∃ x : HSt, (Hseat (k2 * 6 + k5) h) = x := ⟨_, rfl⟩
    rw [ez8] at hP hD
    refine lv_aload_n hx hb dX3_come_54 rfl (lv_at hl 1 rfl) ?_
    refine va_get (D := g.1) (ci := 3) (v := .ref (ah 0)) (C := RX3) (T := TX3) (N := 3) hx hb hts hiX3 hown hE.1 hP 0 rfl rfl 0 (by decide) f12 (fun _ h9 => h9) rfl dX3_come_55 ?_
    refine va_get (D := g.1) (ci := 1) (v := .ref (ah 1)) (C := RX1) (T := TX1) (N := 12) hx hb hts hiX1 hown hE.1 hP 1 rfl rfl 0 (by decide) f59 (fun _ h9 => h9) rfl dX3_come_58 ?_
    refine lv_iload_n hx hb dX3_come_61 rfl (lv_at hl 0 rfl) ?_
    refine k_iald (f := (hL z8)) hx hb hE hP 2 rfl (k2 * 6 + k5) rfl (by omega) (by decide) dX3_come_62 ?_
    have hcode : (cdCome h row con) = 0 := (by first | (subst ez8; first | (simp only [cdCome, if_pos hk1, if_neg (not_not_intro hk1), if_pos hk4, if_neg (not_not_intro hk4), if_pos c7, if_neg (not_not_intro c7), hk1c, hpl]; done) | (simp only [cdCome, if_pos hk1, if_neg (not_not_intro hk1), if_pos hk4, if_neg (not_not_intro hk4), if_pos c7, if_neg (not_not_intro c7), hk1c, hpl]; rfl) | rfl | (simp [cdCome, if_pos hk1, if_neg (not_not_intro hk1), if_pos hk4, if_neg (not_not_intro hk4), if_pos c7, if_neg (not_not_intro c7), hk1c, hpl]; done)) | (subst ez8; first | (simp only [cdCome, if_pos hk1, if_neg (not_not_intro hk1), if_pos hk4, if_neg (not_not_intro hk4), if_pos c7, if_neg (not_not_intro c7)]; done) | (simp only [cdCome, if_pos hk1, if_neg (not_not_intro hk1), if_pos hk4, if_neg (not_not_intro hk4), if_pos c7, if_neg (not_not_intro c7)]; rfl) | rfl | (simp [cdCome, if_pos hk1, if_neg (not_not_intro hk1), if_pos hk4, if_neg (not_not_intro hk4), if_pos c7, if_neg (not_not_intro c7)]; done)))
    have e9 : (Hseat (pl row con) h) = z8 := (by subst ez8; first | (simp only [if_pos hk1, if_neg (not_not_intro hk1), if_pos hk4, if_neg (not_not_intro hk4), if_pos c7, if_neg (not_not_intro c7), hk1c, hpl]; done) | (simp only [if_pos hk1, if_neg (not_not_intro hk1), if_pos hk4, if_neg (not_not_intro hk4), if_pos c7, if_neg (not_not_intro c7), hk1c, hpl]; rfl) | rfl | (simp [if_pos hk1, if_neg (not_not_intro hk1), if_pos hk4, if_neg (not_not_intro hk4), if_pos c7, if_neg (not_not_intro c7), hk1c, hpl]; done))
    have e10 : (nI (kOd od sz), nI (kSz sz)) = ((nI (kOd od sz)), (nI (kSz sz))) := (by subst ez8; first | (simp only [if_pos hk1, if_neg (not_not_intro hk1), if_pos hk4, if_neg (not_not_intro hk4), if_pos c7, if_neg (not_not_intro c7), hk1c, hpl]; done) | (simp only [if_pos hk1, if_neg (not_not_intro hk1), if_pos hk4, if_neg (not_not_intro hk4), if_pos c7, if_neg (not_not_intro c7), hk1c, hpl]; rfl) | rfl | (simp [if_pos hk1, if_neg (not_not_intro hk1), if_pos hk4, if_neg (not_not_intro hk4), if_pos c7, if_neg (not_not_intro c7), hk1c, hpl]; done))
    have hP : va_P g.1 vwCl ((wU u (ah 0) (a0 0) (at9 0)) ++ ((wH g ah (Hseat (pl row con) h)) ++ ((wT g at9 (sg, (nI n))) ++ ((wK0 g a0 ak (nI (kOd od sz), nI (kSz sz))) ++ (wHs g ak (va_up hs (kJ od sz) h) 6))))) H := by rw [e9, e10]; exact hP
    have hD : va_D A ((wU u (ah 0) (a0 0) (at9 0)) ++ ((wH g ah (Hseat (pl row con) h)) ++ ((wT g at9 (sg, (nI n))) ++ ((wK0 g a0 ak (nI (kOd od sz), nI (kSz sz))) ++ (wHs g ak (va_up hs (kJ od sz) h) 6))))) := by rw [e9, e10]; exact hD
    exact k_xiret hx hb hr hlocks rfl hcode (by subst ez8; first | (simp only [bI, if_pos hk1, if_neg (not_not_intro hk1), if_pos hk4, if_neg (not_not_intro hk4), if_pos c7, if_neg (not_not_intro c7), hk1c, hpl]; done) | (simp only [bI, if_pos hk1, if_neg (not_not_intro hk1), if_pos hk4, if_neg (not_not_intro hk4), if_pos c7, if_neg (not_not_intro c7), hk1c, hpl]; rfl) | rfl | (simp [bI, if_pos hk1, if_neg (not_not_intro hk1), if_pos hk4, if_neg (not_not_intro hk4), if_pos c7, if_neg (not_not_intro c7), hk1c, hpl]; done)) hP hD hS (Nat.le_of_ble_eq_true rfl) (Nat.le_of_ble_eq_true rfl) dX3_come_63
  ·
    have hcode : (cdCome h row con) = 2 := (by first | (first | (simp only [cdCome, if_pos hk1, if_neg (not_not_intro hk1), if_pos hk4, if_neg (not_not_intro hk4), if_neg c7, if_pos c7, hk1c, hpl]; done) | (simp only [cdCome, if_pos hk1, if_neg (not_not_intro hk1), if_pos hk4, if_neg (not_not_intro hk4), if_neg c7, if_pos c7, hk1c, hpl]; rfl) | rfl | (simp [cdCome, if_pos hk1, if_neg (not_not_intro hk1), if_pos hk4, if_neg (not_not_intro hk4), if_neg c7, if_pos c7, hk1c, hpl]; done)) | (first | (simp only [cdCome, if_pos hk1, if_neg (not_not_intro hk1), if_pos hk4, if_neg (not_not_intro hk4), if_neg c7, if_pos c7]; done) | (simp only [cdCome, if_pos hk1, if_neg (not_not_intro hk1), if_pos hk4, if_neg (not_not_intro hk4), if_neg c7, if_pos c7]; rfl) | rfl | (simp [cdCome, if_pos hk1, if_neg (not_not_intro hk1), if_pos hk4, if_neg (not_not_intro hk4), if_neg c7, if_pos c7]; done)))
    exact k_throw (i := 0) (cls := "java/lang/IllegalStateException") hx hb hfl hown (by decide) tcl45 tin45 hSt rfl tat49 (by decide +kernel) hZ hP hD hS hA (hl.1.trans hml.symm) dX3_come_25 dX3_come_28 dX3_come_29 dX3_come_31 dX3_come_34 hT (Nat.le_of_ble_eq_true rfl) (Nat.le_of_ble_eq_true rfl) (Nat.le_of_ble_eq_true rfl) (Nat.le_of_ble_eq_true rfl) hlocks (Nat.le_of_ble_eq_true rfl) (Nat.le_of_ble_eq_true rfl) (by rw [hcode]; decide) (by rw [hcode]; rfl)
set_option maxHeartbeats 4000000 in
set_option maxRecDepth 100000 in
theorem c_X3_leave (l : Launch) (hfl : l.stackTraces = false) (g : kG) (sa : Nat → Nat) (u : Nat) (ah at9 a0 : Nat → Nat) (ak : Nat → Nat → Nat) (h : HSt) (sg : Nat → Int32) (n : Nat) (hn : n ≤ 60) (hch : Tok sg n) (od sz : Nat) (hod : od < 6) (hsz : sz ≤ 6) (hs : Nat → HSt) (hbo : Hbo h) (hbs : ∀ j, Hbo (hs j)) (row con : Int32) (b : Nat) (hb2 : b < 2) : KXI l yX3_leave wsX3_leave ({ frames := 7, cells := 3, slots := 18, locals := 110 }) g sa [.ref u, .int row, .int con, .int (nI b)] ((wU u (ah 0) (a0 0) (at9 0)) ++ ((wH g ah h) ++ ((wT g at9 (sg, (nI n))) ++ ((wK0 g a0 ak ((nI od), (nI sz))) ++ (wHs g ak hs 6))))) (cdLeave h row con) EIS (hL (Hunseat (pl row con) b h) (pl row con)) ((wU u (ah 0) (a0 0) (at9 0)) ++ ((wH g ah (Hunseat (pl row con) b h)) ++ ((wT g at9 (sg, (nI n))) ++ ((wK0 g a0 ak (nI (kOd od sz), nI (kSz sz))) ++ (wHs g ak (va_up hs (kJ od sz) h) 6))))) 3 18 := by
  refine k_beginX (cc := cX3_leave) (maxL := 5) (ret := (some .int)) (Qc := fun A => kQxi g (cdLeave h row con) (hL (Hunseat (pl row con) b h) (pl row con)) ((wU u (ah 0) (a0 0) (at9 0)) ++ ((wH g ah (Hunseat (pl row con) b h)) ++ ((wT g at9 (sg, (nI n))) ++ ((wK0 g a0 ak (nI (kOd od sz), nI (kSz sz))) ++ (wHs g ak (va_up hs (kJ od sz) h) 6))))) A) (XC := fun A => kXx g (cdLeave h row con) EIS ((wU u (ah 0) (a0 0) (at9 0)) ++ ((wH g ah h) ++ ((wT g at9 (sg, (nI n))) ++ ((wK0 g a0 ak ((nI od), (nI sz))) ++ (wHs g ak hs 6))))) A) (by decide) rfl (Nat.le_of_ble_eq_true rfl) ?_
  intro p e s m below meth c A ls hF hr hlocks hT hE hSt hZ hP hD hS hA hl
  obtain ⟨hx, hb, hml, hown, hts⟩ := id hF
  have hown : s.vm.findClass RX3 = some m.cls := hown
  have hl : lv_has ls 5 [(0, .ref u), (1, .int row), (2, .int con), (3, .int (nI b))] := hl
  have hiX3 : ∀ w ∈ wsX30, w ∈ wsX3_leave := fun _ h => List.mem_cons_of_mem _ (List.mem_append_left _ (List.mem_append_left _ (List.mem_append_left _ (List.mem_append_left _ (List.mem_append_right _ (h))))))
  have hiX1 : ∀ w ∈ wsX10, w ∈ wsX3_leave := fun _ h => List.mem_cons_of_mem _ (List.mem_append_left _ (List.mem_append_left _ (List.mem_append_left _ (List.mem_append_right _ (h)))))
  have f12 : (Cond.fieldLink RX3 12 "ConcertUsher" "hall" "LConcertUsher$Hall;").before _ s = true := hts _ (List.mem_of_getElem? (i := 3) rfl)
  have f19 : (Cond.fieldLink RX3 19 "ConcertUsher" "history" "LConcertUsher$History;").before _ s = true := hts _ (List.mem_of_getElem? (i := 4) rfl)
  have f59 : (Cond.fieldLink RX3 59 "ConcertUsher$Hall" "listeners" "[I").before _ s = true := hts _ (List.mem_of_getElem? (i := 5) rfl)
  have tcl45 : (Cond.classLink RX3 45 "java/lang/IllegalStateException").before _ s = true := hts _ (List.mem_of_getElem? (i := 1) rfl)
  have tin45 : (Cond.initialized "java/lang/IllegalStateException").before _ s = true := hts _ (List.mem_of_getElem? (i := 2) rfl)
  have tat49 : ∀ w ∈ vx_atS RX3 49 "java/lang/IllegalStateException" ["java/lang/RuntimeException", "java/lang/Exception"], w.before _ s = true := vx_hat (B := [.castable "java/lang/IllegalStateException" "java/lang/IllegalStateException", .declares (Bundle.initS "java/lang/RuntimeException"), .declares (Bundle.initS "java/lang/Exception"), .declares (Bundle.initS Bundle.tN)]) (fun w h => hts w ((fun _ h => List.mem_cons_of_mem _ (List.mem_append_left _ (List.mem_append_right _ (h)))) w h)) (by decide +kernel) (vx_c (va_Nw.use rfl hSt.2.1.2.1) (vx_c (va_Nw.use rfl hSt.2.1.2.2.2.1) (vx_c (va_Nw.use rfl hSt.2.1.2.2.2.2.1) (vx_c (va_Nw.use rfl hSt.2.1.2.2.2.2.2) vx_n))))
  refine lv_iload_n hx hb dX3_leave_0 rfl (lv_at hl 1 rfl) ?_
  refine k_XSv (As := [.int row]) (w0 := []) (wr := ((wU u (ah 0) (a0 0) (at9 0)) ++ ((wH g ah h) ++ ((wT g at9 (sg, (nI n))) ++ ((wK0 g a0 ak ((nI od), (nI sz))) ++ (wHs g ak hs 6)))))) hF (c_X3_checkRow l hfl g sa row) (va_cwS 1 hts gX3_leave_X3_checkRow rfl rfl rfl (by decide +kernel) ⟨Nat.le_of_ble_eq_true rfl, Nat.le_of_ble_eq_true rfl⟩) hE hSt hZ hP hD hS hA (List.Perm.refl _) rfl hl.1 rfl (Nat.le_of_ble_eq_true rfl) dX3_leave_1 ⟨Nat.le_of_ble_eq_true rfl, Nat.le_of_ble_eq_true rfl⟩ hT hlocks (Nat.le_of_ble_eq_true rfl) (Nat.le_of_ble_eq_true rfl) (fun h9 => by have h8 : (cdLeave h row con) = 1 := (by first | rfl | (simp only [cdLeave, if_neg h9]; done) | (simp only [cdLeave, if_neg h9]; rfl) | (simp [cdLeave, if_neg h9]; done)); exact ⟨by rw [h8]; decide, by rw [h8]; rfl⟩) (fun H locs hk1 hP hD hS => ?_)
  obtain ⟨k2, hk3, hk1e⟩ := ckR_ok hk1
  have hk1c : row.toNatClampNeg = k2 := cl_eq hk1e (by omega)
  refine lv_iload_n hx hb dX3_leave_4 rfl (lv_at hl 2 rfl) ?_
  refine k_XSv (As := [.int con]) (w0 := []) (wr := ((wU u (ah 0) (a0 0) (at9 0)) ++ ((wH g ah h) ++ ((wT g at9 (sg, (nI n))) ++ ((wK0 g a0 ak ((nI od), (nI sz))) ++ (wHs g ak hs 6)))))) hF (c_X3_checkConcert l hfl g sa con) (va_cwS 1 hts gX3_leave_X3_checkConcert rfl rfl rfl (by decide +kernel) ⟨Nat.le_of_ble_eq_true rfl, Nat.le_of_ble_eq_true rfl⟩) hE hSt hZ hP hD hS hA (List.Perm.refl _) rfl hl.1 rfl (Nat.le_of_ble_eq_true rfl) dX3_leave_5 ⟨Nat.le_of_ble_eq_true rfl, Nat.le_of_ble_eq_true rfl⟩ hT hlocks (Nat.le_of_ble_eq_true rfl) (Nat.le_of_ble_eq_true rfl) (fun h9 => by have h8 : (cdLeave h row con) = 1 := (by first | (simp only [cdLeave, if_neg h9, if_pos hk1, if_neg (not_not_intro hk1), hk1c]; done) | (simp only [cdLeave, if_neg h9, if_pos hk1, if_neg (not_not_intro hk1), hk1c]; rfl) | rfl | (simp [cdLeave, if_neg h9, if_pos hk1, if_neg (not_not_intro hk1), hk1c]; done)); exact ⟨by rw [h8]; decide, by rw [h8]; rfl⟩) (fun H locs hk4 hP hD hS => ?_)
  obtain ⟨k5, hk6, hk4e⟩ := ckC_ok hk4
  have hpl : pl row con = k2 * 6 + k5 := pl_eq (by omega) (by omega) hk1e hk4e
  refine lv_iload_n hx hb dX3_leave_8 rfl (lv_at hl 1 rfl) ?_
  refine k_top hk1e ?_
  refine lv_iload_n hx hb dX3_leave_9 rfl (lv_at hl 2 rfl) ?_
  refine k_top hk4e ?_
  refine k_Si (w0 := []) (w1 := []) (As := [.int (nI k2), .int (nI k5)]) (r := (nI (k2 * 6 + k5))) hF (c_X3_placeOf l g k2 k5) (va_cwS 2 hts gX3_leave_X3_placeOf rfl rfl rfl (by decide +kernel) ⟨Nat.le_of_ble_eq_true rfl, Nat.le_of_ble_eq_true rfl⟩) hE hP hD hS hA (List.Perm.refl _) (List.Perm.refl _) rfl hl.1 rfl (Nat.le_of_ble_eq_true rfl) dX3_leave_10 ⟨Nat.le_of_ble_eq_true rfl, Nat.le_of_ble_eq_true rfl⟩ (fun H locs hP hD hS => ?_)
  have hP : va_P g.1 vwCl ((wU u (ah 0) (a0 0) (at9 0)) ++ ((wH g ah h) ++ ((wT g at9 (sg, (nI n))) ++ ((wK0 g a0 ak ((nI od), (nI sz))) ++ (wHs g ak hs 6))))) _ := hP
  have hD : va_D A ((wU u (ah 0) (a0 0) (at9 0)) ++ ((wH g ah h) ++ ((wT g at9 (sg, (nI n))) ++ ((wK0 g a0 ak ((nI od), (nI sz))) ++ (wHs g ak hs 6))))) := hD
  refine lv_istore (lv' := [(4, .int (nI (k2 * 6 + k5))), (0, .ref u), (1, .int row), (2, .int con), (3, .int (nI b))]) hx hb dX3_leave_13 hl (by decide) rfl (fun ls hl => ?_)
  refine lv_aload_n hx hb dX3_leave_15 rfl (lv_at hl 1 rfl) ?_
  refine va_get (D := g.1) (ci := 3) (v := .ref (ah 0)) (C := RX3) (T := TX3) (N := 3) hx hb hts hiX3 hown hE.1 hP 0 rfl rfl 0 (by decide) f12 (fun _ h9 => h9) rfl dX3_leave_16 ?_
  refine lv_iload hx hb dX3_leave_19 (lv_at hl 0 rfl) ?_
  refine k_Vi (As := [.int (nI (k2 * 6 + k5))]) (r := (bI (¬ ((hL h) (k2 * 6 + k5)) ≤ 0))) hF (c_X1_isWantedAt l g ah h (k2 * 6 + k5) (by omega)) (cwV 1 hts gX3_leave_X1_isWantedAt rfl rfl rfl (by decide +kernel) ⟨Nat.le_of_ble_eq_true rfl, Nat.le_of_ble_eq_true rfl⟩) hE hP hD hS hA (pm_5_1 _ _ _ _ _) ((pm_5_1 _ _ _ _ _).symm) 1 rfl rfl rfl rfl hl.1 rfl (Nat.le_of_ble_eq_true rfl) dX3_leave_21 ⟨Nat.le_of_ble_eq_true rfl, Nat.le_of_ble_eq_true rfl⟩ (fun H locs hP hD hS => ?_)
  have hP : va_P g.1 vwCl ((wU u (ah 0) (a0 0) (at9 0)) ++ ((wH g ah h) ++ ((wT g at9 (sg, (nI n))) ++ ((wK0 g a0 ak ((nI od), (nI sz))) ++ (wHs g ak hs 6))))) _ := hP
  have hD : va_D A ((wU u (ah 0) (a0 0) (at9 0)) ++ ((wH g ah h) ++ ((wT g at9 (sg, (nI n))) ++ ((wK0 g a0 ak ((nI od), (nI sz))) ++ (wHs g ak hs 6))))) := hD
  refine k_ifneB (tgt := 37) hx hb dX3_leave_24 (by decide) (fun c7 => ?_) (fun c7 => ?_)
  ·
    refine lv_aload_n hx hb dX3_leave_37 rfl (lv_at hl 1 rfl) ?_
    refine va_get (D := g.1) (ci := 3) (v := .ref (a0 0)) (C := RX3) (T := TX3) (N := 3) hx hb hts hiX3 hown hE.1 hP 0 rfl rfl 1 (by decide) f19 (fun _ h9 => h9) rfl dX3_leave_38 ?_
    refine lv_aload_n hx hb dX3_leave_41 rfl (lv_at hl 1 rfl) ?_
    refine va_get (D := g.1) (ci := 3) (v := .ref (ah 0)) (C := RX3) (T := TX3) (N := 3) hx hb hts hiX3 hown hE.1 hP 0 rfl rfl 0 (by decide) f12 (fun _ h9 => h9) rfl dX3_leave_42 ?_
    refine k_Vv (As := [.ref (ah 0)]) hF (c_X2_keep l g a0 ak ah od sz (by omega) (by omega) hs h hbo) (cwV 1 hts gX3_leave_X2_keep rfl rfl rfl (by decide +kernel) ⟨Nat.le_of_ble_eq_true rfl, Nat.le_of_ble_eq_true rfl⟩) hE hP hD hS hA (pm_5_341 _ _ _ _ _) ((pm_5_341 _ _ _ _ _).symm) 7 rfl rfl rfl rfl hl.1 rfl (Nat.le_of_ble_eq_true rfl) dX3_leave_45 ⟨Nat.le_of_ble_eq_true rfl, Nat.le_of_ble_eq_true rfl⟩ (fun H locs hP hD hS => ?_)
    have hP : va_P g.1 vwCl ((wU u (ah 0) (a0 0) (at9 0)) ++ ((wH g ah h) ++ ((wT g at9 (sg, (nI n))) ++ ((wK0 g a0 ak ((nI (kOd od sz)), (nI (kSz sz)))) ++ (wHs g ak (va_up hs (kJ od sz) h) 6))))) _ := hP
    have hD : va_D A ((wU u (ah 0) (a0 0) (at9 0)) ++ ((wH g ah h) ++ ((wT g at9 (sg, (nI n))) ++ ((wK0 g a0 ak ((nI (kOd od sz)), (nI (kSz sz)))) ++ (wHs g ak (va_up hs (kJ od sz) h) 6))))) := hD
    refine lv_aload_n hx hb dX3_leave_48 rfl (lv_at hl 1 rfl) ?_
    refine va_get (D := g.1) (ci := 3) (v := .ref (ah 0)) (C := RX3) (T := TX3) (N := 3) hx hb hts hiX3 hown hE.1 hP 0 rfl rfl 0 (by decide) f12 (fun _ h9 => h9) rfl dX3_leave_49 ?_
    refine lv_iload hx hb dX3_leave_52 (lv_at hl 0 rfl) ?_
    refine lv_iload_n hx hb dX3_leave_54 rfl (lv_at hl 4 rfl) ?_
    refine k_Vv (As := [.int (nI (k2 * 6 + k5)), .int (nI b)]) hF (c_X1_unseat l g ah h (k2 * 6 + k5) (by omega) b (by omega)) (cwV 2 hts gX3_leave_X1_unseat rfl rfl rfl (by decide +kernel) ⟨Nat.le_of_ble_eq_true rfl, Nat.le_of_ble_eq_true rfl⟩) hE hP hD hS hA (pm_5_1 _ _ _ _ _) ((pm_5_1 _ _ _ _ _).symm) 1 rfl rfl rfl rfl hl.1 rfl (Nat.le_of_ble_eq_true rfl) dX3_leave_55 ⟨Nat.le_of_ble_eq_true rfl, Nat.le_of_ble_eq_true rfl⟩ (fun H locs hP hD hS => ?_)
    have hP : va_P g.1 vwCl ((wU u (ah 0) (a0 0) (at9 0)) ++ ((wH g ah (Hunseat (k2 * 6 + k5) b h)) ++ ((wT g at9 (sg, (nI n))) ++ ((wK0 g a0 ak ((nI (kOd od sz)), (nI (kSz sz)))) ++ (wHs g ak (va_up hs (kJ od sz) h) 6))))) _ := hP
    have hD : va_D A ((wU u (ah 0) (a0 0) (at9 0)) ++ ((wH g ah (Hunseat (k2 * 6 + k5) b h)) ++ ((wT g at9 (sg, (nI n))) ++ ((wK0 g a0 ak ((nI (kOd od sz)), (nI (kSz sz)))) ++ (wHs g ak (va_up hs (kJ od sz) h) 6))))) := hD
    obtain ⟨z8, ez8⟩ : ∃ x : HSt, (Hunseat (k2 * 6 + k5) b h) = x := ⟨_, rfl⟩
    rw [ez8] at hP hD
    refine lv_aload_n hx hb dX3_leave_58 rfl (lv_at hl 1 rfl) ?_
    refine va_get (D := g.1) (ci := 3) (v := .ref (ah 0)) (C := RX3) (T := TX3) (N := 3) hx hb hts hiX3 hown hE.1 hP 0 rfl rfl 0 (by decide) f12 (fun _ h9 => h9) rfl dX3_leave_59 ?_
    refine va_get (D := g.1) (ci := 1) (v := .ref (ah 1)) (C := RX1) (T := TX1) (N := 12) hx hb hts hiX1 hown hE.1 hP 1 rfl rfl 0 (by decide) f59 (fun _ h9 => h9) rfl dX3_leave_62 ?_
    refine lv_iload hx hb dX3_leave_65 (lv_at hl 0 rfl) ?_
    refine k_iald (f := (hL z8)) hx hb hE hP 2 rfl (k2 * 6 + k5) rfl (by omega) (by decide) dX3_leave_67 ?_
    have hcode : (cdLeave h row con) = 0 := (by first | (subst ez8; first | (simp only [cdLeave, if_pos hk1, if_neg (not_not_intro hk1), if_pos hk4, if_neg (not_not_intro hk4), if_pos c7, if_neg (not_not_intro c7), hk1c, hpl]; done) | (simp only [cdLeave, if_pos hk1, if_neg (not_not_intro hk1), if_pos hk4, if_neg (not_not_intro hk4), if_pos c7, if_neg (not_not_intro c7), hk1c, hpl]; rfl) | rfl | (simp [cdLeave, if_pos hk1, if_neg (not_not_intro hk1), if_pos hk4, if_neg (not_not_intro hk4), if_pos c7, if_neg (not_not_intro c7), hk1c, hpl]; done)) | (subst ez8; first | (simp only [cdLeave, if_pos hk1, if_neg (not_not_intro hk1), if_pos hk4, if_neg (not_not_intro hk4), if_pos c7, if_neg (not_not_intro c7)]; done) | (simp only [cdLeave, if_pos hk1, if_neg (not_not_intro hk1), if_pos hk4, if_neg (not_not_intro hk4), if_pos c7, if_neg (not_not_intro c7)]; rfl) | rfl | (simp [cdLeave, if_pos hk1, if_neg (not_not_intro hk1), if_pos hk4, if_neg (not_not_intro hk4), if_pos c7, if_neg (not_not_intro c7)]; done)))
    have e9 : (Hunseat (pl row con) b h) = z8 := (by subst ez8; first | (simp only [if_pos hk1, if_neg (not_not_intro hk1), if_pos hk4, if_neg (not_not_intro hk4), if_pos c7, if_neg (not_not_intro c7), hk1c, hpl]; done) | (simp only [if_pos hk1, if_neg (not_not_intro hk1), if_pos hk4, if_neg (not_not_intro hk4), if_pos c7, if_neg (not_not_intro c7), hk1c, hpl]; rfl) | rfl | (simp [if_pos hk1, if_neg (not_not_intro hk1), if_pos hk4, if_neg (not_not_intro hk4), if_pos c7, if_neg (not_not_intro c7), hk1c, hpl]; done))
    have e10 : (nI (kOd od sz), nI (kSz sz)) = ((nI (kOd od sz)), (nI (kSz sz))) := (by subst ez8; first | (simp only [if_pos hk1, if_neg (not_not_intro hk1), if_pos hk4, if_neg (not_not_intro hk4), if_pos c7, if_neg (not_not_intro c7), hk1c, hpl]; done) | (simp only [if_pos hk1, if_neg (not_not_intro hk1), if_pos hk4, if_neg (not_not_intro hk4), if_pos c7, if_neg (not_not_intro c7), hk1c, hpl]; rfl) | rfl | (simp [if_pos hk1, if_neg (not_not_intro hk1), if_pos hk4, if_neg (not_not_intro hk4), if_pos c7, if_neg (not_not_intro c7), hk1c, hpl]; done))
    have hP : va_P g.1 vwCl ((wU u (ah 0) (a0 0) (at9 0)) ++ ((wH g ah (Hunseat (pl row con) b h)) ++ ((wT g at9 (sg, (nI n))) ++ ((wK0 g a0 ak (nI (kOd od sz), nI (kSz sz))) ++ (wHs g ak (va_up hs (kJ od sz) h) 6))))) H := by rw [e9, e10]; exact hP
    have hD : va_D A ((wU u (ah 0) (a0 0) (at9 0)) ++ ((wH g ah (Hunseat (pl row con) b h)) ++ ((wT g at9 (sg, (nI n))) ++ ((wK0 g a0 ak (nI (kOd od sz), nI (kSz sz))) ++ (wHs g ak (va_up hs (kJ od sz) h) 6))))) := by rw [e9, e10]; exact hD
    exact k_xiret hx hb hr hlocks rfl hcode (by subst ez8; first | (simp only [bI, if_pos hk1, if_neg (not_not_intro hk1), if_pos hk4, if_neg (not_not_intro hk4), if_pos c7, if_neg (not_not_intro c7), hk1c, hpl]; done) | (simp only [bI, if_pos hk1, if_neg (not_not_intro hk1), if_pos hk4, if_neg (not_not_intro hk4), if_pos c7, if_neg (not_not_intro c7), hk1c, hpl]; rfl) | rfl | (simp [bI, if_pos hk1, if_neg (not_not_intro hk1), if_pos hk4, if_neg (not_not_intro hk4), if_pos c7, if_neg (not_not_intro c7), hk1c, hpl]; done)) hP hD hS (Nat.le_of_ble_eq_true rfl) (Nat.le_of_ble_eq_true rfl) dX3_leave_68
  ·
    have hcode : (cdLeave h row con) = 2 := (by first | (first | (simp only [cdLeave, if_pos hk1, if_neg (not_not_intro hk1), if_pos hk4, if_neg (not_not_intro hk4), if_neg c7, if_pos c7, hk1c, hpl]; done) | (simp only [cdLeave, if_pos hk1, if_neg (not_not_intro hk1), if_pos hk4, if_neg (not_not_intro hk4), if_neg c7, if_pos c7, hk1c, hpl]; rfl) | rfl | (simp [cdLeave, if_pos hk1, if_neg (not_not_intro hk1), if_pos hk4, if_neg (not_not_intro hk4), if_neg c7, if_pos c7, hk1c, hpl]; done)) | (first | (simp only [cdLeave, if_pos hk1, if_neg (not_not_intro hk1), if_pos hk4, if_neg (not_not_intro hk4), if_neg c7, if_pos c7]; done) | (simp only [cdLeave, if_pos hk1, if_neg (not_not_intro hk1), if_pos hk4, if_neg (not_not_intro hk4), if_neg c7, if_pos c7]; rfl) | rfl | (simp [cdLeave, if_pos hk1, if_neg (not_not_intro hk1), if_pos hk4, if_neg (not_not_intro hk4), if_neg c7, if_pos c7]; done)))
    exact k_throw (i := 1) (cls := "java/lang/IllegalStateException") hx hb hfl hown (by decide) tcl45 tin45 hSt rfl tat49 (by decide +kernel) hZ hP hD hS hA (hl.1.trans hml.symm) dX3_leave_27 dX3_leave_30 dX3_leave_31 dX3_leave_33 dX3_leave_36 hT (Nat.le_of_ble_eq_true rfl) (Nat.le_of_ble_eq_true rfl) (Nat.le_of_ble_eq_true rfl) (Nat.le_of_ble_eq_true rfl) hlocks (Nat.le_of_ble_eq_true rfl) (Nat.le_of_ble_eq_true rfl) (by rw [hcode]; decide) (by rw [hcode]; rfl)
set_option maxHeartbeats 4000000 in
set_option maxRecDepth 100000 in
theorem c_X3_listeners (l : Launch) (hfl : l.stackTraces = false) (g : kG) (sa : Nat → Nat) (u : Nat) (ah at9 a0 : Nat → Nat) (ak : Nat → Nat → Nat) (h : HSt) (sg : Nat → Int32) (n : Nat) (hn : n ≤ 60) (hch : Tok sg n) (od sz : Nat) (hod : od < 6) (hsz : sz ≤ 6) (hs : Nat → HSt) (hbo : Hbo h) (hbs : ∀ j, Hbo (hs j)) (row con : Int32) : KXI l yX3_listeners wsX3_listeners ({ frames := 7, cells := 2, slots := 12, locals := 110 }) g sa [.ref u, .int row, .int con] ((wU u (ah 0) (a0 0) (at9 0)) ++ ((wH g ah h) ++ ((wT g at9 (sg, (nI n))) ++ ((wK0 g a0 ak ((nI od), (nI sz))) ++ (wHs g ak hs 6))))) (cdPair row con) EI (hL h (pl row con)) ((wU u (ah 0) (a0 0) (at9 0)) ++ ((wH g ah h) ++ ((wT g at9 (sg, (nI n))) ++ ((wK0 g a0 ak ((nI od), (nI sz))) ++ (wHs g ak hs 6))))) 2 12 := by
  refine k_beginX (cc := cX3_listeners) (maxL := 3) (ret := (some .int)) (Qc := fun A => kQxi g (cdPair row con) (hL h (pl row con)) ((wU u (ah 0) (a0 0) (at9 0)) ++ ((wH g ah h) ++ ((wT g at9 (sg, (nI n))) ++ ((wK0 g a0 ak ((nI od), (nI sz))) ++ (wHs g ak hs 6))))) A) (XC := fun A => kXx g (cdPair row con) EI ((wU u (ah 0) (a0 0) (at9 0)) ++ ((wH g ah h) ++ ((wT g at9 (sg, (nI n))) ++ ((wK0 g a0 ak ((nI od), (nI sz))) ++ (wHs g ak hs 6))))) A) (by decide) rfl (Nat.le_of_ble_eq_true rfl) ?_
  intro p e s m below meth c A ls hF hr hlocks hT hE hSt hZ hP hD hS hA hl
  obtain ⟨hx, hb, hml, hown, hts⟩ := id hF
  have hown : s.vm.findClass RX3 = some m.cls := hown
  have hl : lv_has ls 3 [(0, .ref u), (1, .int row), (2, .int con)] := hl
  have hiX3 : ∀ w ∈ wsX30, w ∈ wsX3_listeners := fun _ h => List.mem_cons_of_mem _ (List.mem_append_left _ (List.mem_append_left _ (List.mem_append_right _ (h))))
  have hiX1 : ∀ w ∈ wsX10, w ∈ wsX3_listeners := fun _ h => List.mem_cons_of_mem _ (List.mem_append_left _ (List.mem_append_right _ (h)))
  have f12 : (Cond.fieldLink RX3 12 "ConcertUsher" "hall" "LConcertUsher$Hall;").before _ s = true := hts _ (List.mem_of_getElem? (i := 1) rfl)
  have f59 : (Cond.fieldLink RX3 59 "ConcertUsher$Hall" "listeners" "[I").before _ s = true := hts _ (List.mem_of_getElem? (i := 2) rfl)
  refine lv_iload_n hx hb dX3_listeners_0 rfl (lv_at hl 1 rfl) ?_
  refine k_XSv (As := [.int row]) (w0 := []) (wr := ((wU u (ah 0) (a0 0) (at9 0)) ++ ((wH g ah h) ++ ((wT g at9 (sg, (nI n))) ++ ((wK0 g a0 ak ((nI od), (nI sz))) ++ (wHs g ak hs 6)))))) hF (c_X3_checkRow l hfl g sa row) (va_cwS 1 hts gX3_listeners_X3_checkRow rfl rfl rfl (by decide +kernel) ⟨Nat.le_of_ble_eq_true rfl, Nat.le_of_ble_eq_true rfl⟩) hE hSt hZ hP hD hS hA (List.Perm.refl _) rfl hl.1 rfl (Nat.le_of_ble_eq_true rfl) dX3_listeners_1 ⟨Nat.le_of_ble_eq_true rfl, Nat.le_of_ble_eq_true rfl⟩ hT hlocks (Nat.le_of_ble_eq_true rfl) (Nat.le_of_ble_eq_true rfl) (fun h9 => by have h8 : (cdPair row con) = 1 := (by first | rfl | (simp only [cdPair, if_neg h9]; done) | (simp only [cdPair, if_neg h9]; rfl) | (simp [cdPair, if_neg h9]; done)); exact ⟨by rw [h8]; decide, by rw [h8]; rfl⟩) (fun H locs hk1 hP hD hS => ?_)
  obtain ⟨k2, hk3, hk1e⟩ := ckR_ok hk1
  have hk1c : row.toNatClampNeg = k2 := cl_eq hk1e (by omega)
  refine lv_iload_n hx hb dX3_listeners_4 rfl (lv_at hl 2 rfl) ?_
  refine k_XSv (As := [.int con]) (w0 := []) (wr := ((wU u (ah 0) (a0 0) (at9 0)) ++ ((wH g ah h) ++ ((wT g at9 (sg, (nI n))) ++ ((wK0 g a0 ak ((nI od), (nI sz))) ++ (wHs g ak hs 6)))))) hF (c_X3_checkConcert l hfl g sa con) (va_cwS 1 hts gX3_listeners_X3_checkConcert rfl rfl rfl (by decide +kernel) ⟨Nat.le_of_ble_eq_true rfl, Nat.le_of_ble_eq_true rfl⟩) hE hSt hZ hP hD hS hA (List.Perm.refl _) rfl hl.1 rfl (Nat.le_of_ble_eq_true rfl) dX3_listeners_5 ⟨Nat.le_of_ble_eq_true rfl, Nat.le_of_ble_eq_true rfl⟩ hT hlocks (Nat.le_of_ble_eq_true rfl) (Nat.le_of_ble_eq_true rfl) (fun h9 => by have h8 : (cdPair row con) = 1 := (by first | (simp only [cdPair, if_neg h9, if_pos hk1, if_neg (not_not_intro hk1), hk1c]; done) | (simp only [cdPair, if_neg h9, if_pos hk1, if_neg (not_not_intro hk1), hk1c]; rfl) | rfl | (simp [cdPair, if_neg h9, if_pos hk1, if_neg (not_not_intro hk1), hk1c]; done)); exact ⟨by rw [h8]; decide, by rw [h8]; rfl⟩) (fun H locs hk4 hP hD hS => ?_)
  obtain ⟨k5, hk6, hk4e⟩ := ckC_ok hk4
  have hpl : pl row con = k2 * 6 + k5 := pl_eq (by omega) (by omega) hk1e hk4e
  refine lv_aload_n hx hb dX3_listeners_8 rfl (lv_at hl 0 rfl) ?_
  refine va_get (D := g.1) (ci := 3) (v := .ref (ah 0)) (C := RX3) (T := TX3) (N := 3) hx hb hts hiX3 hown hE.1 hP 0 rfl rfl 0 (by decide) f12 (fun _ h9 => h9) rfl dX3_listeners_9 ?_
  refine va_get (D := g.1) (ci := 1) (v := .ref (ah 1)) (C := RX1) (T := TX1) (N := 12) hx hb hts hiX1 hown hE.1 hP 1 rfl rfl 0 (by decide) f59 (fun _ h9 => h9) rfl dX3_listeners_12 ?_
  refine lv_iload_n hx hb dX3_listeners_15 rfl (lv_at hl 1 rfl) ?_
  refine k_top hk1e ?_
  refine lv_iload_n hx hb dX3_listeners_16 rfl (lv_at hl 2 rfl) ?_
  refine k_top hk4e ?_
  refine k_Si (w0 := []) (w1 := []) (As := [.int (nI k2), .int (nI k5)]) (r := (nI (k2 * 6 + k5))) hF (c_X3_placeOf l g k2 k5) (va_cwS 2 hts gX3_listeners_X3_placeOf rfl rfl rfl (by decide +kernel) ⟨Nat.le_of_ble_eq_true rfl, Nat.le_of_ble_eq_true rfl⟩) hE hP hD hS hA (List.Perm.refl _) (List.Perm.refl _) rfl hl.1 rfl (Nat.le_of_ble_eq_true rfl) dX3_listeners_17 ⟨Nat.le_of_ble_eq_true rfl, Nat.le_of_ble_eq_true rfl⟩ (fun H locs hP hD hS => ?_)
  have hP : va_P g.1 vwCl ((wU u (ah 0) (a0 0) (at9 0)) ++ ((wH g ah h) ++ ((wT g at9 (sg, (nI n))) ++ ((wK0 g a0 ak ((nI od), (nI sz))) ++ (wHs g ak hs 6))))) _ := hP
  have hD : va_D A ((wU u (ah 0) (a0 0) (at9 0)) ++ ((wH g ah h) ++ ((wT g at9 (sg, (nI n))) ++ ((wK0 g a0 ak ((nI od), (nI sz))) ++ (wHs g ak hs 6))))) := hD
  refine k_iald (f := (hL h)) hx hb hE hP 2 rfl (k2 * 6 + k5) rfl (by omega) (by decide) dX3_listeners_20 ?_
  have hcode : (cdPair row con) = 0 := (by first | (first | (simp only [cdPair, if_pos hk1, if_neg (not_not_intro hk1), if_pos hk4, if_neg (not_not_intro hk4), hk1c, hpl]; done) | (simp only [cdPair, if_pos hk1, if_neg (not_not_intro hk1), if_pos hk4, if_neg (not_not_intro hk4), hk1c, hpl]; rfl) | rfl | (simp [cdPair, if_pos hk1, if_neg (not_not_intro hk1), if_pos hk4, if_neg (not_not_intro hk4), hk1c, hpl]; done)) | (first | (simp only [cdPair, if_pos hk1, if_neg (not_not_intro hk1), if_pos hk4, if_neg (not_not_intro hk4)]; done) | (simp only [cdPair, if_pos hk1, if_neg (not_not_intro hk1), if_pos hk4, if_neg (not_not_intro hk4)]; rfl) | rfl | (simp [cdPair, if_pos hk1, if_neg (not_not_intro hk1), if_pos hk4, if_neg (not_not_intro hk4)]; done)))
  have hP : va_P g.1 vwCl ((wU u (ah 0) (a0 0) (at9 0)) ++ ((wH g ah h) ++ ((wT g at9 (sg, (nI n))) ++ ((wK0 g a0 ak ((nI od), (nI sz))) ++ (wHs g ak hs 6))))) _ := hP
  have hD : va_D A ((wU u (ah 0) (a0 0) (at9 0)) ++ ((wH g ah h) ++ ((wT g at9 (sg, (nI n))) ++ ((wK0 g a0 ak ((nI od), (nI sz))) ++ (wHs g ak hs 6))))) := hD
  exact k_xiret hx hb hr hlocks rfl hcode (by first | (simp only [bI, if_pos hk1, if_neg (not_not_intro hk1), if_pos hk4, if_neg (not_not_intro hk4), hk1c, hpl]; done) | (simp only [bI, if_pos hk1, if_neg (not_not_intro hk1), if_pos hk4, if_neg (not_not_intro hk4), hk1c, hpl]; rfl) | rfl | (simp [bI, if_pos hk1, if_neg (not_not_intro hk1), if_pos hk4, if_neg (not_not_intro hk4), hk1c, hpl]; done)) hP hD hS (Nat.le_of_ble_eq_true rfl) (Nat.le_of_ble_eq_true rfl) dX3_listeners_21
set_option maxHeartbeats 4000000 in
set_option maxRecDepth 100000 in
theorem c_X3_rest (l : Launch) (hfl : l.stackTraces = false) (g : kG) (sa : Nat → Nat) (u : Nat) (ah at9 a0 : Nat → Nat) (ak : Nat → Nat → Nat) (h : HSt) (sg : Nat → Int32) (n : Nat) (hn : n ≤ 60) (hch : Tok sg n) (od sz : Nat) (hod : od < 6) (hsz : sz ≤ 6) (hs : Nat → HSt) (hbo : Hbo h) (hbs : ∀ j, Hbo (hs j)) (row con : Int32) : KXI l yX3_rest wsX3_rest ({ frames := 7, cells := 2, slots := 12, locals := 110 }) g sa [.ref u, .int row, .int con] ((wU u (ah 0) (a0 0) (at9 0)) ++ ((wH g ah h) ++ ((wT g at9 (sg, (nI n))) ++ ((wK0 g a0 ak ((nI od), (nI sz))) ++ (wHs g ak hs 6))))) (cdPair row con) EI (hR h (pl row con)) ((wU u (ah 0) (a0 0) (at9 0)) ++ ((wH g ah h) ++ ((wT g at9 (sg, (nI n))) ++ ((wK0 g a0 ak ((nI od), (nI sz))) ++ (wHs g ak hs 6))))) 2 12 := by
  refine k_beginX (cc := cX3_rest) (maxL := 3) (ret := (some .int)) (Qc := fun A => kQxi g (cdPair row con) (hR h (pl row con)) ((wU u (ah 0) (a0 0) (at9 0)) ++ ((wH g ah h) ++ ((wT g at9 (sg, (nI n))) ++ ((wK0 g a0 ak ((nI od), (nI sz))) ++ (wHs g ak hs 6))))) A) (XC := fun A => kXx g (cdPair row con) EI ((wU u (ah 0) (a0 0) (at9 0)) ++ ((wH g ah h) ++ ((wT g at9 (sg, (nI n))) ++ ((wK0 g a0 ak ((nI od), (nI sz))) ++ (wHs g ak hs 6))))) A) (by decide) rfl (Nat.le_of_ble_eq_true rfl) ?_
  intro p e s m below meth c A ls hF hr hlocks hT hE hSt hZ hP hD hS hA hl
  obtain ⟨hx, hb, hml, hown, hts⟩ := id hF
  have hown : s.vm.findClass RX3 = some m.cls := hown
  have hl : lv_has ls 3 [(0, .ref u), (1, .int row), (2, .int con)] := hl
  have hiX3 : ∀ w ∈ wsX30, w ∈ wsX3_rest := fun _ h => List.mem_cons_of_mem _ (List.mem_append_left _ (List.mem_append_left _ (List.mem_append_right _ (h))))
  have hiX1 : ∀ w ∈ wsX10, w ∈ wsX3_rest := fun _ h => List.mem_cons_of_mem _ (List.mem_append_left _ (List.mem_append_right _ (h)))
  have f12 : (Cond.fieldLink RX3 12 "ConcertUsher" "hall" "LConcertUsher$Hall;").before _ s = true := hts _ (List.mem_of_getElem? (i := 1) rfl)
  have f116 : (Cond.fieldLink RX3 116 "ConcertUsher$Hall" "rests" "[I").before _ s = true := hts _ (List.mem_of_getElem? (i := 2) rfl)
  refine lv_iload_n hx hb dX3_rest_0 rfl (lv_at hl 1 rfl) ?_
  refine k_XSv (As := [.int row]) (w0 := []) (wr := ((wU u (ah 0) (a0 0) (at9 0)) ++ ((wH g ah h) ++ ((wT g at9 (sg, (nI n))) ++ ((wK0 g a0 ak ((nI od), (nI sz))) ++ (wHs g ak hs 6)))))) hF (c_X3_checkRow l hfl g sa row) (va_cwS 1 hts gX3_rest_X3_checkRow rfl rfl rfl (by decide +kernel) ⟨Nat.le_of_ble_eq_true rfl, Nat.le_of_ble_eq_true rfl⟩) hE hSt hZ hP hD hS hA (List.Perm.refl _) rfl hl.1 rfl (Nat.le_of_ble_eq_true rfl) dX3_rest_1 ⟨Nat.le_of_ble_eq_true rfl, Nat.le_of_ble_eq_true rfl⟩ hT hlocks (Nat.le_of_ble_eq_true rfl) (Nat.le_of_ble_eq_true rfl) (fun h9 => by have h8 : (cdPair row con) = 1 := (by first | rfl | (simp only [cdPair, if_neg h9]; done) | (simp only [cdPair, if_neg h9]; rfl) | (simp [cdPair, if_neg h9]; done)); exact ⟨by rw [h8]; decide, by rw [h8]; rfl⟩) (fun H locs hk1 hP hD hS => ?_)
  obtain ⟨k2, hk3, hk1e⟩ := ckR_ok hk1
  have hk1c : row.toNatClampNeg = k2 := cl_eq hk1e (by omega)
  refine lv_iload_n hx hb dX3_rest_4 rfl (lv_at hl 2 rfl) ?_
  refine k_XSv (As := [.int con]) (w0 := []) (wr := ((wU u (ah 0) (a0 0) (at9 0)) ++ ((wH g ah h) ++ ((wT g at9 (sg, (nI n))) ++ ((wK0 g a0 ak ((nI od), (nI sz))) ++ (wHs g ak hs 6)))))) hF (c_X3_checkConcert l hfl g sa con) (va_cwS 1 hts gX3_rest_X3_checkConcert rfl rfl rfl (by decide +kernel) ⟨Nat.le_of_ble_eq_true rfl, Nat.le_of_ble_eq_true rfl⟩) hE hSt hZ hP hD hS hA (List.Perm.refl _) rfl hl.1 rfl (Nat.le_of_ble_eq_true rfl) dX3_rest_5 ⟨Nat.le_of_ble_eq_true rfl, Nat.le_of_ble_eq_true rfl⟩ hT hlocks (Nat.le_of_ble_eq_true rfl) (Nat.le_of_ble_eq_true rfl) (fun h9 => by have h8 : (cdPair row con) = 1 := (by first | (simp only [cdPair, if_neg h9, if_pos hk1, if_neg (not_not_intro hk1), hk1c]; done) | (simp only [cdPair, if_neg h9, if_pos hk1, if_neg (not_not_intro hk1), hk1c]; rfl) | rfl | (simp [cdPair, if_neg h9, if_pos hk1, if_neg (not_not_intro hk1), hk1c]; done)); exact ⟨by rw [h8]; decide, by rw [h8]; rfl⟩) (fun H locs hk4 hP hD hS => ?_)
  obtain ⟨k5, hk6, hk4e⟩ := ckC_ok hk4
  have hpl : pl row con = k2 * 6 + k5 := pl_eq (by omega) (by omega) hk1e hk4e
  refine lv_aload_n hx hb dX3_rest_8 rfl (lv_at hl 0 rfl) ?_
  refine va_get (D := g.1) (ci := 3) (v := .ref (ah 0)) (C := RX3) (T := TX3) (N := 3) hx hb hts hiX3 hown hE.1 hP 0 rfl rfl 0 (by decide) f12 (fun _ h9 => h9) rfl dX3_rest_9 ?_
  refine va_get (D := g.1) (ci := 1) (v := .ref (ah 2)) (C := RX1) (T := TX1) (N := 12) hx hb hts hiX1 hown hE.1 hP 1 rfl rfl 1 (by decide) f116 (fun _ h9 => h9) rfl dX3_rest_12 ?_
  refine lv_iload_n hx hb dX3_rest_15 rfl (lv_at hl 1 rfl) ?_
  refine k_top hk1e ?_
  refine lv_iload_n hx hb dX3_rest_16 rfl (lv_at hl 2 rfl) ?_
  refine k_top hk4e ?_
  refine k_Si (w0 := []) (w1 := []) (As := [.int (nI k2), .int (nI k5)]) (r := (nI (k2 * 6 + k5))) hF (c_X3_placeOf l g k2 k5) (va_cwS 2 hts gX3_rest_X3_placeOf rfl rfl rfl (by decide +kernel) ⟨Nat.le_of_ble_eq_true rfl, Nat.le_of_ble_eq_true rfl⟩) hE hP hD hS hA (List.Perm.refl _) (List.Perm.refl _) rfl hl.1 rfl (Nat.le_of_ble_eq_true rfl) dX3_rest_17 ⟨Nat.le_of_ble_eq_true rfl, Nat.le_of_ble_eq_true rfl⟩ (fun H locs hP hD hS => ?_)
  have hP : va_P g.1 vwCl ((wU u (ah 0) (a0 0) (at9 0)) ++ ((wH g ah h) ++ ((wT g at9 (sg, (nI n))) ++ ((wK0 g a0 ak ((nI od), (nI sz))) ++ (wHs g ak hs 6))))) _ := hP
  have hD : va_D A ((wU u (ah 0) (a0 0) (at9 0)) ++ ((wH g ah h) ++ ((wT g at9 (sg, (nI n))) ++ ((wK0 g a0 ak ((nI od), (nI sz))) ++ (wHs g ak hs 6))))) := hD
  refine k_iald (f := (hR h)) hx hb hE hP 3 rfl (k2 * 6 + k5) rfl (by omega) (by decide) dX3_rest_20 ?_
  have hcode : (cdPair row con) = 0 := (by first | (first | (simp only [cdPair, if_pos hk1, if_neg (not_not_intro hk1), if_pos hk4, if_neg (not_not_intro hk4), hk1c, hpl]; done) | (simp only [cdPair, if_pos hk1, if_neg (not_not_intro hk1), if_pos hk4, if_neg (not_not_intro hk4), hk1c, hpl]; rfl) | rfl | (simp [cdPair, if_pos hk1, if_neg (not_not_intro hk1), if_pos hk4, if_neg (not_not_intro hk4), hk1c, hpl]; done)) | (first | (simp only [cdPair, if_pos hk1, if_neg (not_not_intro hk1), if_pos hk4, if_neg (not_not_intro hk4)]; done) | (simp only [cdPair, if_pos hk1, if_neg (not_not_intro hk1), if_pos hk4, if_neg (not_not_intro hk4)]; rfl) | rfl | (simp [cdPair, if_pos hk1, if_neg (not_not_intro hk1), if_pos hk4, if_neg (not_not_intro hk4)]; done)))
  have hP : va_P g.1 vwCl ((wU u (ah 0) (a0 0) (at9 0)) ++ ((wH g ah h) ++ ((wT g at9 (sg, (nI n))) ++ ((wK0 g a0 ak ((nI od), (nI sz))) ++ (wHs g ak hs 6))))) _ := hP
  have hD : va_D A ((wU u (ah 0) (a0 0) (at9 0)) ++ ((wH g ah h) ++ ((wT g at9 (sg, (nI n))) ++ ((wK0 g a0 ak ((nI od), (nI sz))) ++ (wHs g ak hs 6))))) := hD
  exact k_xiret hx hb hr hlocks rfl hcode (by first | (simp only [bI, if_pos hk1, if_neg (not_not_intro hk1), if_pos hk4, if_neg (not_not_intro hk4), hk1c, hpl]; done) | (simp only [bI, if_pos hk1, if_neg (not_not_intro hk1), if_pos hk4, if_neg (not_not_intro hk4), hk1c, hpl]; rfl) | rfl | (simp [bI, if_pos hk1, if_neg (not_not_intro hk1), if_pos hk4, if_neg (not_not_intro hk4), hk1c, hpl]; done)) hP hD hS (Nat.le_of_ble_eq_true rfl) (Nat.le_of_ble_eq_true rfl) dX3_rest_21
set_option maxHeartbeats 4000000 in
set_option maxRecDepth 100000 in
theorem c_X3_minutesToFade (l : Launch) (hfl : l.stackTraces = false) (g : kG) (sa : Nat → Nat) (u : Nat) (ah at9 a0 : Nat → Nat) (ak : Nat → Nat → Nat) (h : HSt) (sg : Nat → Int32) (n : Nat) (hn : n ≤ 60) (hch : Tok sg n) (od sz : Nat) (hod : od < 6) (hsz : sz ≤ 6) (hs : Nat → HSt) (hbo : Hbo h) (hbs : ∀ j, Hbo (hs j)) (row con : Int32) : KXI l yX3_minutesToFade wsX3_minutesToFade ({ frames := 7, cells := 2, slots := 12, locals := 110 }) g sa [.ref u, .int row, .int con] ((wU u (ah 0) (a0 0) (at9 0)) ++ ((wH g ah h) ++ ((wT g at9 (sg, (nI n))) ++ ((wK0 g a0 ak ((nI od), (nI sz))) ++ (wHs g ak hs 6))))) (cdPair row con) EI (HfadesIn (pl row con) h) ((wU u (ah 0) (a0 0) (at9 0)) ++ ((wH g ah h) ++ ((wT g at9 (sg, (nI n))) ++ ((wK0 g a0 ak ((nI od), (nI sz))) ++ (wHs g ak hs 6))))) 2 12 := by
  refine k_beginX (cc := cX3_minutesToFade) (maxL := 3) (ret := (some .int)) (Qc := fun A => kQxi g (cdPair row con) (HfadesIn (pl row con) h) ((wU u (ah 0) (a0 0) (at9 0)) ++ ((wH g ah h) ++ ((wT g at9 (sg, (nI n))) ++ ((wK0 g a0 ak ((nI od), (nI sz))) ++ (wHs g ak hs 6))))) A) (XC := fun A => kXx g (cdPair row con) EI ((wU u (ah 0) (a0 0) (at9 0)) ++ ((wH g ah h) ++ ((wT g at9 (sg, (nI n))) ++ ((wK0 g a0 ak ((nI od), (nI sz))) ++ (wHs g ak hs 6))))) A) (by decide) rfl (Nat.le_of_ble_eq_true rfl) ?_
  intro p e s m below meth c A ls hF hr hlocks hT hE hSt hZ hP hD hS hA hl
  obtain ⟨hx, hb, hml, hown, hts⟩ := id hF
  have hown : s.vm.findClass RX3 = some m.cls := hown
  have hl : lv_has ls 3 [(0, .ref u), (1, .int row), (2, .int con)] := hl
  have hiX3 : ∀ w ∈ wsX30, w ∈ wsX3_minutesToFade := fun _ h => List.mem_cons_of_mem _ (List.mem_append_left _ (List.mem_append_left _ (List.mem_append_right _ (h))))
  have f12 : (Cond.fieldLink RX3 12 "ConcertUsher" "hall" "LConcertUsher$Hall;").before _ s = true := hts _ (List.mem_of_getElem? (i := 1) rfl)
  refine lv_iload_n hx hb dX3_minutesToFade_0 rfl (lv_at hl 1 rfl) ?_
  refine k_XSv (As := [.int row]) (w0 := []) (wr := ((wU u (ah 0) (a0 0) (at9 0)) ++ ((wH g ah h) ++ ((wT g at9 (sg, (nI n))) ++ ((wK0 g a0 ak ((nI od), (nI sz))) ++ (wHs g ak hs 6)))))) hF (c_X3_checkRow l hfl g sa row) (va_cwS 1 hts gX3_minutesToFade_X3_checkRow rfl rfl rfl (by decide +kernel) ⟨Nat.le_of_ble_eq_true rfl, Nat.le_of_ble_eq_true rfl⟩) hE hSt hZ hP hD hS hA (List.Perm.refl _) rfl hl.1 rfl (Nat.le_of_ble_eq_true rfl) dX3_minutesToFade_1 ⟨Nat.le_of_ble_eq_true rfl, Nat.le_of_ble_eq_true rfl⟩ hT hlocks (Nat.le_of_ble_eq_true rfl) (Nat.le_of_ble_eq_true rfl) (fun h9 => by have h8 : (cdPair row con) = 1 := (by first | rfl | (simp only [cdPair, if_neg h9]; done) | (simp only [cdPair, if_neg h9]; rfl) | (simp [cdPair, if_neg h9]; done)); exact ⟨by rw [h8]; decide, by rw [h8]; rfl⟩) (fun H locs hk1 hP hD hS => ?_)
  obtain ⟨k2, hk3, hk1e⟩ := ckR_ok hk1
  have hk1c : row.toNatClampNeg = k2 := cl_eq hk1e (by omega)
  refine lv_iload_n hx hb dX3_minutesToFade_4 rfl (lv_at hl 2 rfl) ?_
  refine k_XSv (As := [.int con]) (w0 := []) (wr := ((wU u (ah 0) (a0 0) (at9 0)) ++ ((wH g ah h) ++ ((wT g at9 (sg, (nI n))) ++ ((wK0 g a0 ak ((nI od), (nI sz))) ++ (wHs g ak hs 6)))))) hF (c_X3_checkConcert l hfl g sa con) (va_cwS 1 hts gX3_minutesToFade_X3_checkConcert rfl rfl rfl (by decide +kernel) ⟨Nat.le_of_ble_eq_true rfl, Nat.le_of_ble_eq_true rfl⟩) hE hSt hZ hP hD hS hA (List.Perm.refl _) rfl hl.1 rfl (Nat.le_of_ble_eq_true rfl) dX3_minutesToFade_5 ⟨Nat.le_of_ble_eq_true rfl, Nat.le_of_ble_eq_true rfl⟩ hT hlocks (Nat.le_of_ble_eq_true rfl) (Nat.le_of_ble_eq_true rfl) (fun h9 => by have h8 : (cdPair row con) = 1 := (by first | (simp only [cdPair, if_neg h9, if_pos hk1, if_neg (not_not_intro hk1), hk1c]; done) | (simp only [cdPair, if_neg h9, if_pos hk1, if_neg (not_not_intro hk1), hk1c]; rfl) | rfl | (simp [cdPair, if_neg h9, if_pos hk1, if_neg (not_not_intro hk1), hk1c]; done)); exact ⟨by rw [h8]; decide, by rw [h8]; rfl⟩) (fun H locs hk4 hP hD hS => ?_)
  obtain ⟨k5, hk6, hk4e⟩ := ckC_ok hk4
  have hpl : pl row con = k2 * 6 + k5 := pl_eq (by omega) (by omega) hk1e hk4e
  refine lv_aload_n hx hb dX3_minutesToFade_8 rfl (lv_at hl 0 rfl) ?_
  refine va_get (D := g.1) (ci := 3) (v := .ref (ah 0)) (C := RX3) (T := TX3) (N := 3) hx hb hts hiX3 hown hE.1 hP 0 rfl rfl 0 (by decide) f12 (fun _ h9 => h9) rfl dX3_minutesToFade_9 ?_
  refine lv_iload_n hx hb dX3_minutesToFade_12 rfl (lv_at hl 1 rfl) ?_
  refine k_top hk1e ?_
  refine lv_iload_n hx hb dX3_minutesToFade_13 rfl (lv_at hl 2 rfl) ?_
  refine k_top hk4e ?_
  refine k_Si (w0 := []) (w1 := []) (As := [.int (nI k2), .int (nI k5)]) (r := (nI (k2 * 6 + k5))) hF (c_X3_placeOf l g k2 k5) (va_cwS 2 hts gX3_minutesToFade_X3_placeOf rfl rfl rfl (by decide +kernel) ⟨Nat.le_of_ble_eq_true rfl, Nat.le_of_ble_eq_true rfl⟩) hE hP hD hS hA (List.Perm.refl _) (List.Perm.refl _) rfl hl.1 rfl (Nat.le_of_ble_eq_true rfl) dX3_minutesToFade_14 ⟨Nat.le_of_ble_eq_true rfl, Nat.le_of_ble_eq_true rfl⟩ (fun H locs hP hD hS => ?_)
  have hP : va_P g.1 vwCl ((wU u (ah 0) (a0 0) (at9 0)) ++ ((wH g ah h) ++ ((wT g at9 (sg, (nI n))) ++ ((wK0 g a0 ak ((nI od), (nI sz))) ++ (wHs g ak hs 6))))) _ := hP
  have hD : va_D A ((wU u (ah 0) (a0 0) (at9 0)) ++ ((wH g ah h) ++ ((wT g at9 (sg, (nI n))) ++ ((wK0 g a0 ak ((nI od), (nI sz))) ++ (wHs g ak hs 6))))) := hD
  refine k_Vi (As := [.int (nI (k2 * 6 + k5))]) (r := (HfadesIn (k2 * 6 + k5) h)) hF (c_X1_fadesIn l g ah h (k2 * 6 + k5) (by omega)) (cwV 1 hts gX3_minutesToFade_X1_fadesIn rfl rfl rfl (by decide +kernel) ⟨Nat.le_of_ble_eq_true rfl, Nat.le_of_ble_eq_true rfl⟩) hE hP hD hS hA (pm_5_1 _ _ _ _ _) ((pm_5_1 _ _ _ _ _).symm) 1 rfl rfl rfl rfl hl.1 rfl (Nat.le_of_ble_eq_true rfl) dX3_minutesToFade_17 ⟨Nat.le_of_ble_eq_true rfl, Nat.le_of_ble_eq_true rfl⟩ (fun H locs hP hD hS => ?_)
  have hP : va_P g.1 vwCl ((wU u (ah 0) (a0 0) (at9 0)) ++ ((wH g ah h) ++ ((wT g at9 (sg, (nI n))) ++ ((wK0 g a0 ak ((nI od), (nI sz))) ++ (wHs g ak hs 6))))) _ := hP
  have hD : va_D A ((wU u (ah 0) (a0 0) (at9 0)) ++ ((wH g ah h) ++ ((wT g at9 (sg, (nI n))) ++ ((wK0 g a0 ak ((nI od), (nI sz))) ++ (wHs g ak hs 6))))) := hD
  have hcode : (cdPair row con) = 0 := (by first | (first | (simp only [cdPair, if_pos hk1, if_neg (not_not_intro hk1), if_pos hk4, if_neg (not_not_intro hk4), hk1c, hpl]; done) | (simp only [cdPair, if_pos hk1, if_neg (not_not_intro hk1), if_pos hk4, if_neg (not_not_intro hk4), hk1c, hpl]; rfl) | rfl | (simp [cdPair, if_pos hk1, if_neg (not_not_intro hk1), if_pos hk4, if_neg (not_not_intro hk4), hk1c, hpl]; done)) | (first | (simp only [cdPair, if_pos hk1, if_neg (not_not_intro hk1), if_pos hk4, if_neg (not_not_intro hk4)]; done) | (simp only [cdPair, if_pos hk1, if_neg (not_not_intro hk1), if_pos hk4, if_neg (not_not_intro hk4)]; rfl) | rfl | (simp [cdPair, if_pos hk1, if_neg (not_not_intro hk1), if_pos hk4, if_neg (not_not_intro hk4)]; done)))
  have hP : va_P g.1 vwCl ((wU u (ah 0) (a0 0) (at9 0)) ++ ((wH g ah h) ++ ((wT g at9 (sg, (nI n))) ++ ((wK0 g a0 ak ((nI od), (nI sz))) ++ (wHs g ak hs 6))))) _ := hP
  have hD : va_D A ((wU u (ah 0) (a0 0) (at9 0)) ++ ((wH g ah h) ++ ((wT g at9 (sg, (nI n))) ++ ((wK0 g a0 ak ((nI od), (nI sz))) ++ (wHs g ak hs 6))))) := hD
  exact k_xiret hx hb hr hlocks rfl hcode (by first | (simp only [bI, if_pos hk1, if_neg (not_not_intro hk1), if_pos hk4, if_neg (not_not_intro hk4), hk1c, hpl]; done) | (simp only [bI, if_pos hk1, if_neg (not_not_intro hk1), if_pos hk4, if_neg (not_not_intro hk4), hk1c, hpl]; rfl) | rfl | (simp [bI, if_pos hk1, if_neg (not_not_intro hk1), if_pos hk4, if_neg (not_not_intro hk4), hk1c, hpl]; done)) hP hD hS (Nat.le_of_ble_eq_true rfl) (Nat.le_of_ble_eq_true rfl) dX3_minutesToFade_20
set_option maxHeartbeats 4000000 in
set_option maxRecDepth 100000 in
theorem c_X3_setOpen (l : Launch) (hfl : l.stackTraces = false) (g : kG) (sa : Nat → Nat) (u : Nat) (ah at9 a0 : Nat → Nat) (ak : Nat → Nat → Nat) (h : HSt) (sg : Nat → Int32) (n : Nat) (hn : n ≤ 60) (hch : Tok sg n) (od sz : Nat) (hod : od < 6) (hsz : sz ≤ 6) (hs : Nat → HSt) (hbo : Hbo h) (hbs : ∀ j, Hbo (hs j)) (row : Int32) (b : Nat) (hb2 : b < 2) : KXI l yX3_setOpen wsX3_setOpen ({ frames := 7, cells := 1, slots := 6, locals := 110 }) g sa [.ref u, .int row, .int (nI b)] ((wU u (ah 0) (a0 0) (at9 0)) ++ ((wH g ah h) ++ ((wT g at9 (sg, (nI n))) ++ ((wK0 g a0 ak ((nI od), (nI sz))) ++ (wHs g ak hs 6))))) (ckR row) EI (bI (Hopen h row.toNatClampNeg)) ((wU u (ah 0) (a0 0) (at9 0)) ++ ((wH g ah (UOpen row b h)) ++ ((wT g at9 (sg, (nI n))) ++ ((wK0 g a0 ak (nI (kOd od sz), nI (kSz sz))) ++ (wHs g ak (va_up hs (kJ od sz) h) 6))))) 1 6 := by
  refine k_beginX (cc := cX3_setOpen) (maxL := 4) (ret := (some .boolean)) (Qc := fun A => kQxi g (ckR row) (bI (Hopen h row.toNatClampNeg)) ((wU u (ah 0) (a0 0) (at9 0)) ++ ((wH g ah (UOpen row b h)) ++ ((wT g at9 (sg, (nI n))) ++ ((wK0 g a0 ak (nI (kOd od sz), nI (kSz sz))) ++ (wHs g ak (va_up hs (kJ od sz) h) 6))))) A) (XC := fun A => kXx g (ckR row) EI ((wU u (ah 0) (a0 0) (at9 0)) ++ ((wH g ah h) ++ ((wT g at9 (sg, (nI n))) ++ ((wK0 g a0 ak ((nI od), (nI sz))) ++ (wHs g ak hs 6))))) A) (by decide) rfl (Nat.le_of_ble_eq_true rfl) ?_
  intro p e s m below meth c A ls hF hr hlocks hT hE hSt hZ hP hD hS hA hl
  obtain ⟨hx, hb, hml, hown, hts⟩ := id hF
  have hown : s.vm.findClass RX3 = some m.cls := hown
  have hl : lv_has ls 4 [(0, .ref u), (1, .int row), (2, .int (nI b))] := hl
  have hiX3 : ∀ w ∈ wsX30, w ∈ wsX3_setOpen := fun _ h => List.mem_cons_of_mem _ (List.mem_append_left _ (List.mem_append_left _ (List.mem_append_left _ (List.mem_append_right _ (h)))))
  have f19 : (Cond.fieldLink RX3 19 "ConcertUsher" "history" "LConcertUsher$History;").before _ s = true := hts _ (List.mem_of_getElem? (i := 1) rfl)
  have f12 : (Cond.fieldLink RX3 12 "ConcertUsher" "hall" "LConcertUsher$Hall;").before _ s = true := hts _ (List.mem_of_getElem? (i := 2) rfl)
  refine lv_iload_n hx hb dX3_setOpen_0 rfl (lv_at hl 1 rfl) ?_
  refine k_XSv (As := [.int row]) (w0 := []) (wr := ((wU u (ah 0) (a0 0) (at9 0)) ++ ((wH g ah h) ++ ((wT g at9 (sg, (nI n))) ++ ((wK0 g a0 ak ((nI od), (nI sz))) ++ (wHs g ak hs 6)))))) hF (c_X3_checkRow l hfl g sa row) (va_cwS 1 hts gX3_setOpen_X3_checkRow rfl rfl rfl (by decide +kernel) ⟨Nat.le_of_ble_eq_true rfl, Nat.le_of_ble_eq_true rfl⟩) hE hSt hZ hP hD hS hA (List.Perm.refl _) rfl hl.1 rfl (Nat.le_of_ble_eq_true rfl) dX3_setOpen_1 ⟨Nat.le_of_ble_eq_true rfl, Nat.le_of_ble_eq_true rfl⟩ hT hlocks (Nat.le_of_ble_eq_true rfl) (Nat.le_of_ble_eq_true rfl) (fun h9 => ⟨h9, rfl⟩) (fun H locs hk1 hP hD hS => ?_)
  obtain ⟨k2, hk3, hk1e⟩ := ckR_ok hk1
  have hk1c : row.toNatClampNeg = k2 := cl_eq hk1e (by omega)
  refine lv_aload_n hx hb dX3_setOpen_4 rfl (lv_at hl 0 rfl) ?_
  refine va_get (D := g.1) (ci := 3) (v := .ref (a0 0)) (C := RX3) (T := TX3) (N := 3) hx hb hts hiX3 hown hE.1 hP 0 rfl rfl 1 (by decide) f19 (fun _ h9 => h9) rfl dX3_setOpen_5 ?_
  refine lv_aload_n hx hb dX3_setOpen_8 rfl (lv_at hl 0 rfl) ?_
  refine va_get (D := g.1) (ci := 3) (v := .ref (ah 0)) (C := RX3) (T := TX3) (N := 3) hx hb hts hiX3 hown hE.1 hP 0 rfl rfl 0 (by decide) f12 (fun _ h9 => h9) rfl dX3_setOpen_9 ?_
  refine k_Vv (As := [.ref (ah 0)]) hF (c_X2_keep l g a0 ak ah od sz (by omega) (by omega) hs h hbo) (cwV 1 hts gX3_setOpen_X2_keep rfl rfl rfl (by decide +kernel) ⟨Nat.le_of_ble_eq_true rfl, Nat.le_of_ble_eq_true rfl⟩) hE hP hD hS hA (pm_5_341 _ _ _ _ _) ((pm_5_341 _ _ _ _ _).symm) 7 rfl rfl rfl rfl hl.1 rfl (Nat.le_of_ble_eq_true rfl) dX3_setOpen_12 ⟨Nat.le_of_ble_eq_true rfl, Nat.le_of_ble_eq_true rfl⟩ (fun H locs hP hD hS => ?_)
  have hP : va_P g.1 vwCl ((wU u (ah 0) (a0 0) (at9 0)) ++ ((wH g ah h) ++ ((wT g at9 (sg, (nI n))) ++ ((wK0 g a0 ak ((nI (kOd od sz)), (nI (kSz sz)))) ++ (wHs g ak (va_up hs (kJ od sz) h) 6))))) _ := hP
  have hD : va_D A ((wU u (ah 0) (a0 0) (at9 0)) ++ ((wH g ah h) ++ ((wT g at9 (sg, (nI n))) ++ ((wK0 g a0 ak ((nI (kOd od sz)), (nI (kSz sz)))) ++ (wHs g ak (va_up hs (kJ od sz) h) 6))))) := hD
  refine lv_aload_n hx hb dX3_setOpen_15 rfl (lv_at hl 0 rfl) ?_
  refine va_get (D := g.1) (ci := 3) (v := .ref (ah 0)) (C := RX3) (T := TX3) (N := 3) hx hb hts hiX3 hown hE.1 hP 0 rfl rfl 0 (by decide) f12 (fun _ h9 => h9) rfl dX3_setOpen_16 ?_
  refine lv_iload_n hx hb dX3_setOpen_19 rfl (lv_at hl 1 rfl) ?_
  refine k_top hk1e ?_
  refine k_Vi (As := [.int (nI k2)]) (r := (bI (Hopen h k2))) hF (c_X1_isRowOpen l g ah h k2 (by omega)) (cwV 1 hts gX3_setOpen_X1_isRowOpen rfl rfl rfl (by decide +kernel) ⟨Nat.le_of_ble_eq_true rfl, Nat.le_of_ble_eq_true rfl⟩) hE hP hD hS hA (pm_5_1 _ _ _ _ _) ((pm_5_1 _ _ _ _ _).symm) 1 rfl rfl rfl rfl hl.1 rfl (Nat.le_of_ble_eq_true rfl) dX3_setOpen_20 ⟨Nat.le_of_ble_eq_true rfl, Nat.le_of_ble_eq_true rfl⟩ (fun H locs hP hD hS => ?_)
  have hP : va_P g.1 vwCl ((wU u (ah 0) (a0 0) (at9 0)) ++ ((wH g ah h) ++ ((wT g at9 (sg, (nI n))) ++ ((wK0 g a0 ak ((nI (kOd od sz)), (nI (kSz sz)))) ++ (wHs g ak (va_up hs (kJ od sz) h) 6))))) _ := hP
  have hD : va_D A ((wU u (ah 0) (a0 0) (at9 0)) ++ ((wH g ah h) ++ ((wT g at9 (sg, (nI n))) ++ ((wK0 g a0 ak ((nI (kOd od sz)), (nI (kSz sz)))) ++ (wHs g ak (va_up hs (kJ od sz) h) 6))))) := hD
  refine lv_istore_n (lv' := [(3, .int (bI (Hopen h k2))), (0, .ref u), (1, .int row), (2, .int (nI b))]) hx hb dX3_setOpen_23 rfl hl (by decide) rfl (fun ls hl => ?_)
  refine lv_iload_n hx hb dX3_setOpen_24 rfl (lv_at hl 0 rfl) ?_
  refine lv_iload_n hx hb dX3_setOpen_25 rfl (lv_at hl 3 rfl) ?_
  refine lv_icmp_eq (tgt := 37) hx hb dX3_setOpen_26 (by decide) (fun c4 => ?_) (fun c4 => ?_)
  ·
    refine lv_iload_n hx hb dX3_setOpen_37 rfl (lv_at hl 0 rfl) ?_
    have hcode : (ckR row) = 0 := hk1
    have e5 : (UOpen row b h) = h := (by first | (simp only [UOpen, if_pos hk1, if_neg (not_not_intro hk1), if_pos c4, if_neg (not_not_intro c4), hk1c]; done) | (simp only [UOpen, if_pos hk1, if_neg (not_not_intro hk1), if_pos c4, if_neg (not_not_intro c4), hk1c]; rfl) | rfl | (simp [UOpen, if_pos hk1, if_neg (not_not_intro hk1), if_pos c4, if_neg (not_not_intro c4), hk1c]; done))
    have e6 : (nI (kOd od sz), nI (kSz sz)) = ((nI (kOd od sz)), (nI (kSz sz))) := (by first | (simp only [UOpen, if_pos hk1, if_neg (not_not_intro hk1), if_pos c4, if_neg (not_not_intro c4), hk1c]; done) | (simp only [UOpen, if_pos hk1, if_neg (not_not_intro hk1), if_pos c4, if_neg (not_not_intro c4), hk1c]; rfl) | rfl | (simp [UOpen, if_pos hk1, if_neg (not_not_intro hk1), if_pos c4, if_neg (not_not_intro c4), hk1c]; done))
    have hP : va_P g.1 vwCl ((wU u (ah 0) (a0 0) (at9 0)) ++ ((wH g ah (UOpen row b h)) ++ ((wT g at9 (sg, (nI n))) ++ ((wK0 g a0 ak (nI (kOd od sz), nI (kSz sz))) ++ (wHs g ak (va_up hs (kJ od sz) h) 6))))) H := by rw [e5, e6]; exact hP
    have hD : va_D A ((wU u (ah 0) (a0 0) (at9 0)) ++ ((wH g ah (UOpen row b h)) ++ ((wT g at9 (sg, (nI n))) ++ ((wK0 g a0 ak (nI (kOd od sz), nI (kSz sz))) ++ (wHs g ak (va_up hs (kJ od sz) h) 6))))) := by rw [e5, e6]; exact hD
    exact k_xiret hx hb hr hlocks bI_nar hcode (by first | (simp only [UOpen, bI, if_pos hk1, if_neg (not_not_intro hk1), if_pos c4, if_neg (not_not_intro c4), hk1c]; done) | (simp only [UOpen, bI, if_pos hk1, if_neg (not_not_intro hk1), if_pos c4, if_neg (not_not_intro c4), hk1c]; rfl) | rfl | (simp [UOpen, bI, if_pos hk1, if_neg (not_not_intro hk1), if_pos c4, if_neg (not_not_intro c4), hk1c]; done)) hP hD hS (Nat.le_of_ble_eq_true rfl) (Nat.le_of_ble_eq_true rfl) dX3_setOpen_38
  ·
    refine lv_aload_n hx hb dX3_setOpen_29 rfl (lv_at hl 1 rfl) ?_
    refine va_get (D := g.1) (ci := 3) (v := .ref (ah 0)) (C := RX3) (T := TX3) (N := 3) hx hb hts hiX3 hown hE.1 hP 0 rfl rfl 0 (by decide) f12 (fun _ h9 => h9) rfl dX3_setOpen_30 ?_
    refine lv_iload_n hx hb dX3_setOpen_33 rfl (lv_at hl 2 rfl) ?_
    refine k_top hk1e ?_
    refine k_Vv (As := [.int (nI k2)]) hF (c_X1_turnRow l g ah h k2 (by omega)) (cwV 1 hts gX3_setOpen_X1_turnRow rfl rfl rfl (by decide +kernel) ⟨Nat.le_of_ble_eq_true rfl, Nat.le_of_ble_eq_true rfl⟩) hE hP hD hS hA (pm_5_1 _ _ _ _ _) ((pm_5_1 _ _ _ _ _).symm) 1 rfl rfl rfl rfl hl.1 rfl (Nat.le_of_ble_eq_true rfl) dX3_setOpen_34 ⟨Nat.le_of_ble_eq_true rfl, Nat.le_of_ble_eq_true rfl⟩ (fun H locs hP hD hS => ?_)
    have hP : va_P g.1 vwCl ((wU u (ah 0) (a0 0) (at9 0)) ++ ((wH g ah (Hturn k2 h)) ++ ((wT g at9 (sg, (nI n))) ++ ((wK0 g a0 ak ((nI (kOd od sz)), (nI (kSz sz)))) ++ (wHs g ak (va_up hs (kJ od sz) h) 6))))) _ := hP
    have hD : va_D A ((wU u (ah 0) (a0 0) (at9 0)) ++ ((wH g ah (Hturn k2 h)) ++ ((wT g at9 (sg, (nI n))) ++ ((wK0 g a0 ak ((nI (kOd od sz)), (nI (kSz sz)))) ++ (wHs g ak (va_up hs (kJ od sz) h) 6))))) := hD
    obtain ⟨z7, ez7⟩ : ∃ x : HSt, (Hturn k2 h) = x := ⟨_, rfl⟩
    rw [ez7] at hP hD
    refine lv_iload_n hx hb dX3_setOpen_37 rfl (lv_at hl 0 rfl) ?_
    have hcode : (ckR row) = 0 := hk1
    have e8 : (UOpen row b h) = z7 := (by subst ez7; first | (simp only [UOpen, if_pos hk1, if_neg (not_not_intro hk1), if_neg c4, if_pos c4, hk1c]; done) | (simp only [UOpen, if_pos hk1, if_neg (not_not_intro hk1), if_neg c4, if_pos c4, hk1c]; rfl) | rfl | (simp [UOpen, if_pos hk1, if_neg (not_not_intro hk1), if_neg c4, if_pos c4, hk1c]; done))
    have e9 : (nI (kOd od sz), nI (kSz sz)) = ((nI (kOd od sz)), (nI (kSz sz))) := (by subst ez7; first | (simp only [UOpen, if_pos hk1, if_neg (not_not_intro hk1), if_neg c4, if_pos c4, hk1c]; done) | (simp only [UOpen, if_pos hk1, if_neg (not_not_intro hk1), if_neg c4, if_pos c4, hk1c]; rfl) | rfl | (simp [UOpen, if_pos hk1, if_neg (not_not_intro hk1), if_neg c4, if_pos c4, hk1c]; done))
    have hP : va_P g.1 vwCl ((wU u (ah 0) (a0 0) (at9 0)) ++ ((wH g ah (UOpen row b h)) ++ ((wT g at9 (sg, (nI n))) ++ ((wK0 g a0 ak (nI (kOd od sz), nI (kSz sz))) ++ (wHs g ak (va_up hs (kJ od sz) h) 6))))) H := by rw [e8, e9]; exact hP
    have hD : va_D A ((wU u (ah 0) (a0 0) (at9 0)) ++ ((wH g ah (UOpen row b h)) ++ ((wT g at9 (sg, (nI n))) ++ ((wK0 g a0 ak (nI (kOd od sz), nI (kSz sz))) ++ (wHs g ak (va_up hs (kJ od sz) h) 6))))) := by rw [e8, e9]; exact hD
    exact k_xiret hx hb hr hlocks bI_nar hcode (by subst ez7; first | (simp only [UOpen, bI, if_pos hk1, if_neg (not_not_intro hk1), if_neg c4, if_pos c4, hk1c]; done) | (simp only [UOpen, bI, if_pos hk1, if_neg (not_not_intro hk1), if_neg c4, if_pos c4, hk1c]; rfl) | rfl | (simp [UOpen, bI, if_pos hk1, if_neg (not_not_intro hk1), if_neg c4, if_pos c4, hk1c]; done)) hP hD hS (Nat.le_of_ble_eq_true rfl) (Nat.le_of_ble_eq_true rfl) dX3_setOpen_38
set_option maxHeartbeats 4000000 in
set_option maxRecDepth 100000 in
theorem c_X3_isOpen (l : Launch) (hfl : l.stackTraces = false) (g : kG) (sa : Nat → Nat) (u : Nat) (ah at9 a0 : Nat → Nat) (ak : Nat → Nat → Nat) (h : HSt) (sg : Nat → Int32) (n : Nat) (hn : n ≤ 60) (hch : Tok sg n) (od sz : Nat) (hod : od < 6) (hsz : sz ≤ 6) (hs : Nat → HSt) (hbo : Hbo h) (hbs : ∀ j, Hbo (hs j)) (row : Int32) : KXI l yX3_isOpen wsX3_isOpen ({ frames := 7, cells := 1, slots := 6, locals := 110 }) g sa [.ref u, .int row] ((wU u (ah 0) (a0 0) (at9 0)) ++ ((wH g ah h) ++ ((wT g at9 (sg, (nI n))) ++ ((wK0 g a0 ak ((nI od), (nI sz))) ++ (wHs g ak hs 6))))) (ckR row) EI (bI (Hopen h row.toNatClampNeg)) ((wU u (ah 0) (a0 0) (at9 0)) ++ ((wH g ah h) ++ ((wT g at9 (sg, (nI n))) ++ ((wK0 g a0 ak ((nI od), (nI sz))) ++ (wHs g ak hs 6))))) 1 6 := by
  refine k_beginX (cc := cX3_isOpen) (maxL := 2) (ret := (some .boolean)) (Qc := fun A => kQxi g (ckR row) (bI (Hopen h row.toNatClampNeg)) ((wU u (ah 0) (a0 0) (at9 0)) ++ ((wH g ah h) ++ ((wT g at9 (sg, (nI n))) ++ ((wK0 g a0 ak ((nI od), (nI sz))) ++ (wHs g ak hs 6))))) A) (XC := fun A => kXx g (ckR row) EI ((wU u (ah 0) (a0 0) (at9 0)) ++ ((wH g ah h) ++ ((wT g at9 (sg, (nI n))) ++ ((wK0 g a0 ak ((nI od), (nI sz))) ++ (wHs g ak hs 6))))) A) (by decide) rfl (Nat.le_of_ble_eq_true rfl) ?_
  intro p e s m below meth c A ls hF hr hlocks hT hE hSt hZ hP hD hS hA hl
  obtain ⟨hx, hb, hml, hown, hts⟩ := id hF
  have hown : s.vm.findClass RX3 = some m.cls := hown
  have hl : lv_has ls 2 [(0, .ref u), (1, .int row)] := hl
  have hiX3 : ∀ w ∈ wsX30, w ∈ wsX3_isOpen := fun _ h => List.mem_cons_of_mem _ (List.mem_append_left _ (List.mem_append_left _ (List.mem_append_right _ (h))))
  have f12 : (Cond.fieldLink RX3 12 "ConcertUsher" "hall" "LConcertUsher$Hall;").before _ s = true := hts _ (List.mem_of_getElem? (i := 1) rfl)
  refine lv_iload_n hx hb dX3_isOpen_0 rfl (lv_at hl 1 rfl) ?_
  refine k_XSv (As := [.int row]) (w0 := []) (wr := ((wU u (ah 0) (a0 0) (at9 0)) ++ ((wH g ah h) ++ ((wT g at9 (sg, (nI n))) ++ ((wK0 g a0 ak ((nI od), (nI sz))) ++ (wHs g ak hs 6)))))) hF (c_X3_checkRow l hfl g sa row) (va_cwS 1 hts gX3_isOpen_X3_checkRow rfl rfl rfl (by decide +kernel) ⟨Nat.le_of_ble_eq_true rfl, Nat.le_of_ble_eq_true rfl⟩) hE hSt hZ hP hD hS hA (List.Perm.refl _) rfl hl.1 rfl (Nat.le_of_ble_eq_true rfl) dX3_isOpen_1 ⟨Nat.le_of_ble_eq_true rfl, Nat.le_of_ble_eq_true rfl⟩ hT hlocks (Nat.le_of_ble_eq_true rfl) (Nat.le_of_ble_eq_true rfl) (fun h9 => ⟨h9, rfl⟩) (fun H locs hk1 hP hD hS => ?_)
  obtain ⟨k2, hk3, hk1e⟩ := ckR_ok hk1
  have hk1c : row.toNatClampNeg = k2 := cl_eq hk1e (by omega)
  refine lv_aload_n hx hb dX3_isOpen_4 rfl (lv_at hl 0 rfl) ?_
  refine va_get (D := g.1) (ci := 3) (v := .ref (ah 0)) (C := RX3) (T := TX3) (N := 3) hx hb hts hiX3 hown hE.1 hP 0 rfl rfl 0 (by decide) f12 (fun _ h9 => h9) rfl dX3_isOpen_5 ?_
  refine lv_iload_n hx hb dX3_isOpen_8 rfl (lv_at hl 1 rfl) ?_
  refine k_top hk1e ?_
  refine k_Vi (As := [.int (nI k2)]) (r := (bI (Hopen h k2))) hF (c_X1_isRowOpen l g ah h k2 (by omega)) (cwV 1 hts gX3_isOpen_X1_isRowOpen rfl rfl rfl (by decide +kernel) ⟨Nat.le_of_ble_eq_true rfl, Nat.le_of_ble_eq_true rfl⟩) hE hP hD hS hA (pm_5_1 _ _ _ _ _) ((pm_5_1 _ _ _ _ _).symm) 1 rfl rfl rfl rfl hl.1 rfl (Nat.le_of_ble_eq_true rfl) dX3_isOpen_9 ⟨Nat.le_of_ble_eq_true rfl, Nat.le_of_ble_eq_true rfl⟩ (fun H locs hP hD hS => ?_)
  have hP : va_P g.1 vwCl ((wU u (ah 0) (a0 0) (at9 0)) ++ ((wH g ah h) ++ ((wT g at9 (sg, (nI n))) ++ ((wK0 g a0 ak ((nI od), (nI sz))) ++ (wHs g ak hs 6))))) _ := hP
  have hD : va_D A ((wU u (ah 0) (a0 0) (at9 0)) ++ ((wH g ah h) ++ ((wT g at9 (sg, (nI n))) ++ ((wK0 g a0 ak ((nI od), (nI sz))) ++ (wHs g ak hs 6))))) := hD
  have hcode : (ckR row) = 0 := hk1
  have hP : va_P g.1 vwCl ((wU u (ah 0) (a0 0) (at9 0)) ++ ((wH g ah h) ++ ((wT g at9 (sg, (nI n))) ++ ((wK0 g a0 ak ((nI od), (nI sz))) ++ (wHs g ak hs 6))))) _ := hP
  have hD : va_D A ((wU u (ah 0) (a0 0) (at9 0)) ++ ((wH g ah h) ++ ((wT g at9 (sg, (nI n))) ++ ((wK0 g a0 ak ((nI od), (nI sz))) ++ (wHs g ak hs 6))))) := hD
  exact k_xiret hx hb hr hlocks bI_nar hcode (by first | (simp only [bI, if_pos hk1, if_neg (not_not_intro hk1), hk1c]; done) | (simp only [bI, if_pos hk1, if_neg (not_not_intro hk1), hk1c]; rfl) | rfl | (simp [bI, if_pos hk1, if_neg (not_not_intro hk1), hk1c]; done)) hP hD hS (Nat.le_of_ble_eq_true rfl) (Nat.le_of_ble_eq_true rfl) dX3_isOpen_12
set_option maxHeartbeats 4000000 in
set_option maxRecDepth 100000 in
theorem c_X3_setQuick (l : Launch) (g : kG) (u : Nat) (ah at9 a0 : Nat → Nat) (ak : Nat → Nat → Nat) (h : HSt) (sg : Nat → Int32) (n : Nat) (hn : n ≤ 60) (hch : Tok sg n) (od sz : Nat) (hod : od < 6) (hsz : sz ≤ 6) (hs : Nat → HSt) (hbo : Hbo h) (hbs : ∀ j, Hbo (hs j)) (b : Nat) (hb2 : b < 2) : KI l yX3_setQuick wsX3_setQuick ({ frames := 3, cells := 0, slots := 0, locals := 102 }) g [.ref u, .int (nI b)] ((wU u (ah 0) (a0 0) (at9 0)) ++ ((wH g ah h) ++ ((wT g at9 (sg, (nI n))) ++ ((wK0 g a0 ak ((nI od), (nI sz))) ++ (wHs g ak hs 6))))) (hqk h) ((wU u (ah 0) (a0 0) (at9 0)) ++ ((wH g ah (sHqk h (nI b))) ++ ((wT g at9 (sg, (nI n))) ++ ((wK0 g a0 ak (nI (kOd od sz), nI (kSz sz))) ++ (wHs g ak (va_up hs (kJ od sz) h) 6))))) 0 0 := by
  refine k_begin (cc := cX3_setQuick) (maxL := 3) (ret := (some .boolean)) (Qc := fun A => kQi g (hqk h) ((wU u (ah 0) (a0 0) (at9 0)) ++ ((wH g ah (sHqk h (nI b))) ++ ((wT g at9 (sg, (nI n))) ++ ((wK0 g a0 ak (nI (kOd od sz), nI (kSz sz))) ++ (wHs g ak (va_up hs (kJ od sz) h) 6))))) A) (by decide) rfl (Nat.le_of_ble_eq_true rfl) ?_
  intro p e s m below meth c A ls hF hr hlocks hin hE hP hD hS hA hl
  obtain ⟨hx, hb, hml, hown, hts⟩ := id hF
  have hown : s.vm.findClass RX3 = some m.cls := hown
  have hl : lv_has ls 3 [(0, .ref u), (1, .int (nI b))] := hl
  have hiX3 : ∀ w ∈ wsX30, w ∈ wsX3_setQuick := fun _ h => List.mem_cons_of_mem _ (List.mem_append_left _ (List.mem_append_left _ (List.mem_append_right _ (h))))
  have hiX1 : ∀ w ∈ wsX10, w ∈ wsX3_setQuick := fun _ h => List.mem_cons_of_mem _ (List.mem_append_left _ (List.mem_append_right _ (h)))
  have f19 : (Cond.fieldLink RX3 19 "ConcertUsher" "history" "LConcertUsher$History;").before _ s = true := hts _ (List.mem_of_getElem? (i := 1) rfl)
  have f12 : (Cond.fieldLink RX3 12 "ConcertUsher" "hall" "LConcertUsher$Hall;").before _ s = true := hts _ (List.mem_of_getElem? (i := 2) rfl)
  have f78 : (Cond.fieldLink RX3 78 "ConcertUsher$Hall" "isQuick" "Z").before _ s = true := hts _ (List.mem_of_getElem? (i := 3) rfl)
  refine lv_aload_n hx hb dX3_setQuick_0 rfl (lv_at hl 0 rfl) ?_
  refine va_get (D := g.1) (ci := 3) (v := .ref (a0 0)) (C := RX3) (T := TX3) (N := 3) hx hb hts hiX3 hown hE.1 hP 0 rfl rfl 1 (by decide) f19 (fun _ h9 => h9) rfl dX3_setQuick_1 ?_
  refine lv_aload_n hx hb dX3_setQuick_4 rfl (lv_at hl 0 rfl) ?_
  refine va_get (D := g.1) (ci := 3) (v := .ref (ah 0)) (C := RX3) (T := TX3) (N := 3) hx hb hts hiX3 hown hE.1 hP 0 rfl rfl 0 (by decide) f12 (fun _ h9 => h9) rfl dX3_setQuick_5 ?_
  refine k_Vv (As := [.ref (ah 0)]) hF (c_X2_keep l g a0 ak ah od sz (by omega) (by omega) hs h hbo) (cwV 1 hts gX3_setQuick_X2_keep rfl rfl rfl (by decide +kernel) ⟨Nat.le_of_ble_eq_true rfl, Nat.le_of_ble_eq_true rfl⟩) hE hP hD hS hA (pm_5_341 _ _ _ _ _) ((pm_5_341 _ _ _ _ _).symm) 7 rfl rfl rfl rfl hl.1 rfl (Nat.le_of_ble_eq_true rfl) dX3_setQuick_8 ⟨Nat.le_of_ble_eq_true rfl, Nat.le_of_ble_eq_true rfl⟩ (fun H locs hP hD hS => ?_)
  have hP : va_P g.1 vwCl ((wU u (ah 0) (a0 0) (at9 0)) ++ ((wH g ah h) ++ ((wT g at9 (sg, (nI n))) ++ ((wK0 g a0 ak ((nI (kOd od sz)), (nI (kSz sz)))) ++ (wHs g ak (va_up hs (kJ od sz) h) 6))))) _ := hP
  have hD : va_D A ((wU u (ah 0) (a0 0) (at9 0)) ++ ((wH g ah h) ++ ((wT g at9 (sg, (nI n))) ++ ((wK0 g a0 ak ((nI (kOd od sz)), (nI (kSz sz)))) ++ (wHs g ak (va_up hs (kJ od sz) h) 6))))) := hD
  refine lv_aload_n hx hb dX3_setQuick_11 rfl (lv_at hl 0 rfl) ?_
  refine va_get (D := g.1) (ci := 3) (v := .ref (ah 0)) (C := RX3) (T := TX3) (N := 3) hx hb hts hiX3 hown hE.1 hP 0 rfl rfl 0 (by decide) f12 (fun _ h9 => h9) rfl dX3_setQuick_12 ?_
  refine va_get (D := g.1) (ci := 1) (v := .int (hqk h)) (C := RX1) (T := TX1) (N := 12) hx hb hts hiX1 hown hE.1 hP 1 rfl rfl 4 (by decide) f78 (fun _ h9 => h9) rfl dX3_setQuick_15 ?_
  refine lv_istore_n (lv' := [(2, .int (hqk h)), (0, .ref u), (1, .int (nI b))]) hx hb dX3_setQuick_18 rfl hl (by decide) rfl (fun ls hl => ?_)
  refine lv_aload_n hx hb dX3_setQuick_19 rfl (lv_at hl 1 rfl) ?_
  refine va_get (D := g.1) (ci := 3) (v := .ref (ah 0)) (C := RX3) (T := TX3) (N := 3) hx hb hts hiX3 hown hE.1 hP 0 rfl rfl 0 (by decide) f12 (fun _ h9 => h9) rfl dX3_setQuick_20 ?_
  refine lv_iload_n hx hb dX3_setQuick_23 rfl (lv_at hl 2 rfl) ?_
  refine va_put (D := g.1) (ci := 1) (v := .int (nI b)) (ty := .boolean) (C := RX1) (T := TX1) (N := 12) hx hb hts hiX1 tyX1 tyX1_ok nmX1 hown hE.1 hP hD hS 1 rfl rfl 4 (by decide) f78 (fun _ h9 => h9) rfl (tyX1_ok 4 (by decide)) (bo_nar (k_b2 hb2)) (bo_fits (k_b2 hb2)) (Nat.le_of_ble_eq_true rfl) dX3_setQuick_24 (fun H locs hP hD hS => ?_)
  have hP : va_P g.1 vwCl ((wU u (ah 0) (a0 0) (at9 0)) ++ ((wH g ah (sHqk h (nI b))) ++ ((wT g at9 (sg, (nI n))) ++ ((wK0 g a0 ak ((nI (kOd od sz)), (nI (kSz sz)))) ++ (wHs g ak (va_up hs (kJ od sz) h) 6))))) _ := hP
  have hD : va_D A ((wU u (ah 0) (a0 0) (at9 0)) ++ ((wH g ah (sHqk h (nI b))) ++ ((wT g at9 (sg, (nI n))) ++ ((wK0 g a0 ak ((nI (kOd od sz)), (nI (kSz sz)))) ++ (wHs g ak (va_up hs (kJ od sz) h) 6))))) := hD
  refine lv_iload_n hx hb dX3_setQuick_27 rfl (lv_at hl 0 rfl) ?_
  have hP : va_P g.1 vwCl ((wU u (ah 0) (a0 0) (at9 0)) ++ ((wH g ah (sHqk h (nI b))) ++ ((wT g at9 (sg, (nI n))) ++ ((wK0 g a0 ak (nI (kOd od sz), nI (kSz sz))) ++ (wHs g ak (va_up hs (kJ od sz) h) 6))))) _ := hP
  have hD : va_D A ((wU u (ah 0) (a0 0) (at9 0)) ++ ((wH g ah (sHqk h (nI b))) ++ ((wT g at9 (sg, (nI n))) ++ ((wK0 g a0 ak (nI (kOd od sz), nI (kSz sz))) ++ (wHs g ak (va_up hs (kJ od sz) h) 6))))) := hD
  exact k_iret hx hb hr hlocks (bo_nar hbo.1) rfl hP hD hS (Nat.le_of_ble_eq_true rfl) (Nat.le_of_ble_eq_true rfl) dX3_setQuick_28
set_option maxHeartbeats 4000000 in
set_option maxRecDepth 100000 in
theorem c_X3_setTimes (l : Launch) (hfl : l.stackTraces = false) (g : kG) (sa : Nat → Nat) (u : Nat) (ah at9 a0 : Nat → Nat) (ak : Nat → Nat → Nat) (h : HSt) (sg : Nat → Int32) (n : Nat) (hn : n ≤ 60) (hch : Tok sg n) (od sz : Nat) (hod : od < 6) (hsz : sz ≤ 6) (hs : Nat → HSt) (hbo : Hbo h) (hbs : ∀ j, Hbo (hs j)) (t1 t2 t3 : Int32) : KXI l yX3_setTimes wsX3_setTimes ({ frames := 6, cells := 1, slots := 6, locals := 102 }) g sa [.ref u, .int t1, .int t2, .int t3] ((wU u (ah 0) (a0 0) (at9 0)) ++ ((wH g ah h) ++ ((wT g at9 (sg, (nI n))) ++ ((wK0 g a0 ak ((nI od), (nI sz))) ++ (wHs g ak hs 6))))) (cdTimes t1 t2 t3) EA (hfd h) ((wU u (ah 0) (a0 0) (at9 0)) ++ ((wH g ah (UTimes t1 t2 t3 h)) ++ ((wT g at9 (sg, (nI n))) ++ ((wK0 g a0 ak (nI (kOd od sz), nI (kSz sz))) ++ (wHs g ak (va_up hs (kJ od sz) h) 6))))) 1 6 := by
  refine k_beginX (cc := cX3_setTimes) (maxL := 5) (ret := (some .int)) (Qc := fun A => kQxi g (cdTimes t1 t2 t3) (hfd h) ((wU u (ah 0) (a0 0) (at9 0)) ++ ((wH g ah (UTimes t1 t2 t3 h)) ++ ((wT g at9 (sg, (nI n))) ++ ((wK0 g a0 ak (nI (kOd od sz), nI (kSz sz))) ++ (wHs g ak (va_up hs (kJ od sz) h) 6))))) A) (XC := fun A => kXx g (cdTimes t1 t2 t3) EA ((wU u (ah 0) (a0 0) (at9 0)) ++ ((wH g ah h) ++ ((wT g at9 (sg, (nI n))) ++ ((wK0 g a0 ak ((nI od), (nI sz))) ++ (wHs g ak hs 6))))) A) (by decide) rfl (Nat.le_of_ble_eq_true rfl) ?_
  intro p e s m below meth c A ls hF hr hlocks hT hE hSt hZ hP hD hS hA hl
  obtain ⟨hx, hb, hml, hown, hts⟩ := id hF
  have hown : s.vm.findClass RX3 = some m.cls := hown
  have hl : lv_has ls 5 [(0, .ref u), (1, .int t1), (2, .int t2), (3, .int t3)] := hl
  have hiX3 : ∀ w ∈ wsX30, w ∈ wsX3_setTimes := fun _ h => List.mem_cons_of_mem _ (List.mem_append_left _ (List.mem_append_left _ (List.mem_append_left _ (List.mem_append_right _ (h)))))
  have hiX1 : ∀ w ∈ wsX10, w ∈ wsX3_setTimes := fun _ h => List.mem_cons_of_mem _ (List.mem_append_left _ (List.mem_append_left _ (List.mem_append_right _ (h))))
  have tcl82 : (Cond.classLink RX3 82 "java/lang/IllegalArgumentException").before _ s = true := hts _ (List.mem_of_getElem? (i := 1) rfl)
  have tin82 : (Cond.initialized "java/lang/IllegalArgumentException").before _ s = true := hts _ (List.mem_of_getElem? (i := 2) rfl)
  have tat86 : ∀ w ∈ vx_atS RX3 86 "java/lang/IllegalArgumentException" ["java/lang/RuntimeException", "java/lang/Exception"], w.before _ s = true := vx_hat (B := [.castable "java/lang/IllegalArgumentException" "java/lang/IllegalArgumentException", .declares (Bundle.initS "java/lang/RuntimeException"), .declares (Bundle.initS "java/lang/Exception"), .declares (Bundle.initS Bundle.tN)]) (fun w h => hts w ((fun _ h => List.mem_cons_of_mem _ (List.mem_append_right _ (h))) w h)) (by decide +kernel) (vx_c (va_Nw.use rfl hSt.2.1.2.2.1) (vx_c (va_Nw.use rfl hSt.2.1.2.2.2.1) (vx_c (va_Nw.use rfl hSt.2.1.2.2.2.2.1) (vx_c (va_Nw.use rfl hSt.2.1.2.2.2.2.2) vx_n))))
  have f19 : (Cond.fieldLink RX3 19 "ConcertUsher" "history" "LConcertUsher$History;").before _ s = true := hts _ (List.mem_of_getElem? (i := 3) rfl)
  have f12 : (Cond.fieldLink RX3 12 "ConcertUsher" "hall" "LConcertUsher$Hall;").before _ s = true := hts _ (List.mem_of_getElem? (i := 4) rfl)
  have f91 : (Cond.fieldLink RX3 91 "ConcertUsher$Hall" "fading" "I").before _ s = true := hts _ (List.mem_of_getElem? (i := 5) rfl)
  have f95 : (Cond.fieldLink RX3 95 "ConcertUsher$Hall" "patience" "I").before _ s = true := hts _ (List.mem_of_getElem? (i := 6) rfl)
  have f98 : (Cond.fieldLink RX3 98 "ConcertUsher$Hall" "asking" "I").before _ s = true := hts _ (List.mem_of_getElem? (i := 7) rfl)
  refine lv_iload_n hx hb dX3_setTimes_0 rfl (lv_at hl 1 rfl) ?_
  refine lv_iconst (v := (nI 2)) hx hb dX3_setTimes_1 (by decide) ?_
  refine lv_icmp_lt (tgt := 11) hx hb dX3_setTimes_2 (by decide) (fun c1 => ?_) (fun c1 => ?_)
  ·
    have hcode : (cdTimes t1 t2 t3) = 1 := (by first | (simp only [UTimes, cdTimes, if_pos c1, if_neg (not_not_intro c1)]; done) | (simp only [UTimes, cdTimes, if_pos c1, if_neg (not_not_intro c1)]; rfl) | rfl | (simp [UTimes, cdTimes, if_pos c1, if_neg (not_not_intro c1)]; done))
    exact k_throw (i := 2) (cls := "java/lang/IllegalArgumentException") hx hb hfl hown (by decide) tcl82 tin82 hSt rfl tat86 (by decide +kernel) hZ hP hD hS hA (hl.1.trans hml.symm) dX3_setTimes_11 dX3_setTimes_14 dX3_setTimes_15 dX3_setTimes_17 dX3_setTimes_20 hT (Nat.le_of_ble_eq_true rfl) (Nat.le_of_ble_eq_true rfl) (Nat.le_of_ble_eq_true rfl) (Nat.le_of_ble_eq_true rfl) hlocks (Nat.le_of_ble_eq_true rfl) (Nat.le_of_ble_eq_true rfl) (by rw [hcode]; decide) (by rw [hcode]; rfl)
  ·
    refine lv_iload_n hx hb dX3_setTimes_5 rfl (lv_at hl 1 rfl) ?_
    refine lv_bipush (v := (nI 60)) hx hb dX3_setTimes_6 (by decide) ?_
    refine lv_icmp_le (tgt := 21) hx hb dX3_setTimes_8 (by decide) (fun c2 => ?_) (fun c2 => ?_)
    ·
      refine lv_iload_n hx hb dX3_setTimes_21 rfl (lv_at hl 2 rfl) ?_
      refine lv_iconst (v := (nI 1)) hx hb dX3_setTimes_22 (by decide) ?_
      refine lv_icmp_lt (tgt := 32) hx hb dX3_setTimes_23 (by decide) (fun c3 => ?_) (fun c3 => ?_)
      ·
        have hcode : (cdTimes t1 t2 t3) = 1 := (by first | (simp only [UTimes, cdTimes, if_neg c1, if_pos c1, if_pos c2, if_neg (not_not_intro c2), if_pos c3, if_neg (not_not_intro c3)]; done) | (simp only [UTimes, cdTimes, if_neg c1, if_pos c1, if_pos c2, if_neg (not_not_intro c2), if_pos c3, if_neg (not_not_intro c3)]; rfl) | rfl | (simp [UTimes, cdTimes, if_neg c1, if_pos c1, if_pos c2, if_neg (not_not_intro c2), if_pos c3, if_neg (not_not_intro c3)]; done))
        exact k_throw (i := 3) (cls := "java/lang/IllegalArgumentException") hx hb hfl hown (by decide) tcl82 tin82 hSt rfl tat86 (by decide +kernel) hZ hP hD hS hA (hl.1.trans hml.symm) dX3_setTimes_32 dX3_setTimes_35 dX3_setTimes_36 dX3_setTimes_38 dX3_setTimes_41 hT (Nat.le_of_ble_eq_true rfl) (Nat.le_of_ble_eq_true rfl) (Nat.le_of_ble_eq_true rfl) (Nat.le_of_ble_eq_true rfl) hlocks (Nat.le_of_ble_eq_true rfl) (Nat.le_of_ble_eq_true rfl) (by rw [hcode]; decide) (by rw [hcode]; rfl)
      ·
        refine lv_iload_n hx hb dX3_setTimes_26 rfl (lv_at hl 2 rfl) ?_
        refine lv_bipush (v := (nI 10)) hx hb dX3_setTimes_27 (by decide) ?_
        refine lv_icmp_le (tgt := 42) hx hb dX3_setTimes_29 (by decide) (fun c4 => ?_) (fun c4 => ?_)
        ·
          refine lv_iload_n hx hb dX3_setTimes_42 rfl (lv_at hl 3 rfl) ?_
          refine lv_iconst (v := (nI 1)) hx hb dX3_setTimes_43 (by decide) ?_
          refine lv_icmp_lt (tgt := 53) hx hb dX3_setTimes_44 (by decide) (fun c5 => ?_) (fun c5 => ?_)
          ·
            have hcode : (cdTimes t1 t2 t3) = 1 := (by first | (simp only [UTimes, cdTimes, if_neg c1, if_pos c1, if_pos c2, if_neg (not_not_intro c2), if_neg c3, if_pos c3, if_pos c4, if_neg (not_not_intro c4), if_pos c5, if_neg (not_not_intro c5)]; done) | (simp only [UTimes, cdTimes, if_neg c1, if_pos c1, if_pos c2, if_neg (not_not_intro c2), if_neg c3, if_pos c3, if_pos c4, if_neg (not_not_intro c4), if_pos c5, if_neg (not_not_intro c5)]; rfl) | rfl | (simp [UTimes, cdTimes, if_neg c1, if_pos c1, if_pos c2, if_neg (not_not_intro c2), if_neg c3, if_pos c3, if_pos c4, if_neg (not_not_intro c4), if_pos c5, if_neg (not_not_intro c5)]; done))
            exact k_throw (i := 4) (cls := "java/lang/IllegalArgumentException") hx hb hfl hown (by decide) tcl82 tin82 hSt rfl tat86 (by decide +kernel) hZ hP hD hS hA (hl.1.trans hml.symm) dX3_setTimes_53 dX3_setTimes_56 dX3_setTimes_57 dX3_setTimes_59 dX3_setTimes_62 hT (Nat.le_of_ble_eq_true rfl) (Nat.le_of_ble_eq_true rfl) (Nat.le_of_ble_eq_true rfl) (Nat.le_of_ble_eq_true rfl) hlocks (Nat.le_of_ble_eq_true rfl) (Nat.le_of_ble_eq_true rfl) (by rw [hcode]; decide) (by rw [hcode]; rfl)
          ·
            refine lv_iload_n hx hb dX3_setTimes_47 rfl (lv_at hl 3 rfl) ?_
            refine lv_bipush (v := (nI 30)) hx hb dX3_setTimes_48 (by decide) ?_
            refine lv_icmp_le (tgt := 63) hx hb dX3_setTimes_50 (by decide) (fun c6 => ?_) (fun c6 => ?_)
            ·
              refine lv_aload_n hx hb dX3_setTimes_63 rfl (lv_at hl 0 rfl) ?_
              refine va_get (D := g.1) (ci := 3) (v := .ref (a0 0)) (C := RX3) (T := TX3) (N := 3) hx hb hts hiX3 hown hE.1 hP 0 rfl rfl 1 (by decide) f19 (fun _ h9 => h9) rfl dX3_setTimes_64 ?_
              refine lv_aload_n hx hb dX3_setTimes_67 rfl (lv_at hl 0 rfl) ?_
              refine va_get (D := g.1) (ci := 3) (v := .ref (ah 0)) (C := RX3) (T := TX3) (N := 3) hx hb hts hiX3 hown hE.1 hP 0 rfl rfl 0 (by decide) f12 (fun _ h9 => h9) rfl dX3_setTimes_68 ?_
              refine k_Vv (As := [.ref (ah 0)]) hF (c_X2_keep l g a0 ak ah od sz (by omega) (by omega) hs h hbo) (cwV 1 hts gX3_setTimes_X2_keep rfl rfl rfl (by decide +kernel) ⟨Nat.le_of_ble_eq_true rfl, Nat.le_of_ble_eq_true rfl⟩) hE hP hD hS hA (pm_5_341 _ _ _ _ _) ((pm_5_341 _ _ _ _ _).symm) 7 rfl rfl rfl rfl hl.1 rfl (Nat.le_of_ble_eq_true rfl) dX3_setTimes_71 ⟨Nat.le_of_ble_eq_true rfl, Nat.le_of_ble_eq_true rfl⟩ (fun H locs hP hD hS => ?_)
              have hP : va_P g.1 vwCl ((wU u (ah 0) (a0 0) (at9 0)) ++ ((wH g ah h) ++ ((wT g at9 (sg, (nI n))) ++ ((wK0 g a0 ak ((nI (kOd od sz)), (nI (kSz sz)))) ++ (wHs g ak (va_up hs (kJ od sz) h) 6))))) _ := hP
              have hD : va_D A ((wU u (ah 0) (a0 0) (at9 0)) ++ ((wH g ah h) ++ ((wT g at9 (sg, (nI n))) ++ ((wK0 g a0 ak ((nI (kOd od sz)), (nI (kSz sz)))) ++ (wHs g ak (va_up hs (kJ od sz) h) 6))))) := hD
              refine lv_aload_n hx hb dX3_setTimes_74 rfl (lv_at hl 0 rfl) ?_
              refine va_get (D := g.1) (ci := 3) (v := .ref (ah 0)) (C := RX3) (T := TX3) (N := 3) hx hb hts hiX3 hown hE.1 hP 0 rfl rfl 0 (by decide) f12 (fun _ h9 => h9) rfl dX3_setTimes_75 ?_
              refine va_get (D := g.1) (ci := 1) (v := .int (hfd h)) (C := RX1) (T := TX1) (N := 12) hx hb hts hiX1 hown hE.1 hP 1 rfl rfl 7 (by decide) f91 (fun _ h9 => h9) rfl dX3_setTimes_78 ?_
              refine lv_istore (lv' := [(4, .int (hfd h)), (0, .ref u), (1, .int t1), (2, .int t2), (3, .int t3)]) hx hb dX3_setTimes_81 hl (by decide) rfl (fun ls hl => ?_)
              refine lv_aload_n hx hb dX3_setTimes_83 rfl (lv_at hl 1 rfl) ?_
              refine va_get (D := g.1) (ci := 3) (v := .ref (ah 0)) (C := RX3) (T := TX3) (N := 3) hx hb hts hiX3 hown hE.1 hP 0 rfl rfl 0 (by decide) f12 (fun _ h9 => h9) rfl dX3_setTimes_84 ?_
              refine lv_iload_n hx hb dX3_setTimes_87 rfl (lv_at hl 2 rfl) ?_
              refine va_put (D := g.1) (ci := 1) (v := .int t1) (ty := .int) (C := RX1) (T := TX1) (N := 12) hx hb hts hiX1 tyX1 tyX1_ok nmX1 hown hE.1 hP hD hS 1 rfl rfl 7 (by decide) f91 (fun _ h9 => h9) rfl (tyX1_ok 7 (by decide)) rfl rfl (Nat.le_of_ble_eq_true rfl) dX3_setTimes_88 (fun H locs hP hD hS => ?_)
              have hP : va_P g.1 vwCl ((wU u (ah 0) (a0 0) (at9 0)) ++ ((wH g ah (sHfd h t1)) ++ ((wT g at9 (sg, (nI n))) ++ ((wK0 g a0 ak ((nI (kOd od sz)), (nI (kSz sz)))) ++ (wHs g ak (va_up hs (kJ od sz) h) 6))))) _ := hP
              have hD : va_D A ((wU u (ah 0) (a0 0) (at9 0)) ++ ((wH g ah (sHfd h t1)) ++ ((wT g at9 (sg, (nI n))) ++ ((wK0 g a0 ak ((nI (kOd od sz)), (nI (kSz sz)))) ++ (wHs g ak (va_up hs (kJ od sz) h) 6))))) := hD
              refine lv_aload_n hx hb dX3_setTimes_91 rfl (lv_at hl 1 rfl) ?_
              refine va_get (D := g.1) (ci := 3) (v := .ref (ah 0)) (C := RX3) (T := TX3) (N := 3) hx hb hts hiX3 hown hE.1 hP 0 rfl rfl 0 (by decide) f12 (fun _ h9 => h9) rfl dX3_setTimes_92 ?_
              refine lv_iload_n hx hb dX3_setTimes_95 rfl (lv_at hl 3 rfl) ?_
              refine va_put (D := g.1) (ci := 1) (v := .int t2) (ty := .int) (C := RX1) (T := TX1) (N := 12) hx hb hts hiX1 tyX1 tyX1_ok nmX1 hown hE.1 hP hD hS 1 rfl rfl 8 (by decide) f95 (fun _ h9 => h9) rfl (tyX1_ok 8 (by decide)) rfl rfl (Nat.le_of_ble_eq_true rfl) dX3_setTimes_96 (fun H locs hP hD hS => ?_)
              have hP : va_P g.1 vwCl ((wU u (ah 0) (a0 0) (at9 0)) ++ ((wH g ah (sHpt (sHfd h t1) t2)) ++ ((wT g at9 (sg, (nI n))) ++ ((wK0 g a0 ak ((nI (kOd od sz)), (nI (kSz sz)))) ++ (wHs g ak (va_up hs (kJ od sz) h) 6))))) _ := hP
              have hD : va_D A ((wU u (ah 0) (a0 0) (at9 0)) ++ ((wH g ah (sHpt (sHfd h t1) t2)) ++ ((wT g at9 (sg, (nI n))) ++ ((wK0 g a0 ak ((nI (kOd od sz)), (nI (kSz sz)))) ++ (wHs g ak (va_up hs (kJ od sz) h) 6))))) := hD
              refine lv_aload_n hx hb dX3_setTimes_99 rfl (lv_at hl 1 rfl) ?_
              refine va_get (D := g.1) (ci := 3) (v := .ref (ah 0)) (C := RX3) (T := TX3) (N := 3) hx hb hts hiX3 hown hE.1 hP 0 rfl rfl 0 (by decide) f12 (fun _ h9 => h9) rfl dX3_setTimes_100 ?_
              refine lv_iload_n hx hb dX3_setTimes_103 rfl (lv_at hl 4 rfl) ?_
              refine va_put (D := g.1) (ci := 1) (v := .int t3) (ty := .int) (C := RX1) (T := TX1) (N := 12) hx hb hts hiX1 tyX1 tyX1_ok nmX1 hown hE.1 hP hD hS 1 rfl rfl 9 (by decide) f98 (fun _ h9 => h9) rfl (tyX1_ok 9 (by decide)) rfl rfl (Nat.le_of_ble_eq_true rfl) dX3_setTimes_104 (fun H locs hP hD hS => ?_)
              have hP : va_P g.1 vwCl ((wU u (ah 0) (a0 0) (at9 0)) ++ ((wH g ah (sHas (sHpt (sHfd h t1) t2) t3)) ++ ((wT g at9 (sg, (nI n))) ++ ((wK0 g a0 ak ((nI (kOd od sz)), (nI (kSz sz)))) ++ (wHs g ak (va_up hs (kJ od sz) h) 6))))) _ := hP
              have hD : va_D A ((wU u (ah 0) (a0 0) (at9 0)) ++ ((wH g ah (sHas (sHpt (sHfd h t1) t2) t3)) ++ ((wT g at9 (sg, (nI n))) ++ ((wK0 g a0 ak ((nI (kOd od sz)), (nI (kSz sz)))) ++ (wHs g ak (va_up hs (kJ od sz) h) 6))))) := hD
              refine lv_iload hx hb dX3_setTimes_107 (lv_at hl 0 rfl) ?_
              have hcode : (cdTimes t1 t2 t3) = 0 := (by first | (simp only [UTimes, cdTimes, if_neg c1, if_pos c1, if_pos c2, if_neg (not_not_intro c2), if_neg c3, if_pos c3, if_pos c4, if_neg (not_not_intro c4), if_neg c5, if_pos c5, if_pos c6, if_neg (not_not_intro c6)]; done) | (simp only [UTimes, cdTimes, if_neg c1, if_pos c1, if_pos c2, if_neg (not_not_intro c2), if_neg c3, if_pos c3, if_pos c4, if_neg (not_not_intro c4), if_neg c5, if_pos c5, if_pos c6, if_neg (not_not_intro c6)]; rfl) | rfl | (simp [UTimes, cdTimes, if_neg c1, if_pos c1, if_pos c2, if_neg (not_not_intro c2), if_neg c3, if_pos c3, if_pos c4, if_neg (not_not_intro c4), if_neg c5, if_pos c5, if_pos c6, if_neg (not_not_intro c6)]; done))
              have e7 : (UTimes t1 t2 t3 h) = (sHas (sHpt (sHfd h t1) t2) t3) := (by first | (simp only [UTimes, if_neg c1, if_pos c1, if_pos c2, if_neg (not_not_intro c2), if_neg c3, if_pos c3, if_pos c4, if_neg (not_not_intro c4), if_neg c5, if_pos c5, if_pos c6, if_neg (not_not_intro c6)]; done) | (simp only [UTimes, if_neg c1, if_pos c1, if_pos c2, if_neg (not_not_intro c2), if_neg c3, if_pos c3, if_pos c4, if_neg (not_not_intro c4), if_neg c5, if_pos c5, if_pos c6, if_neg (not_not_intro c6)]; rfl) | rfl | (simp [UTimes, if_neg c1, if_pos c1, if_pos c2, if_neg (not_not_intro c2), if_neg c3, if_pos c3, if_pos c4, if_neg (not_not_intro c4), if_neg c5, if_pos c5, if_pos c6, if_neg (not_not_intro c6)]; done))
              have e8 : (nI (kOd od sz), nI (kSz sz)) = ((nI (kOd od sz)), (nI (kSz sz))) := (by first | (simp only [UTimes, if_neg c1, if_pos c1, if_pos c2, if_neg (not_not_intro c2), if_neg c3, if_pos c3, if_pos c4, if_neg (not_not_intro c4), if_neg c5, if_pos c5, if_pos c6, if_neg (not_not_intro c6)]; done) | (simp only [UTimes, if_neg c1, if_pos c1, if_pos c2, if_neg (not_not_intro c2), if_neg c3, if_pos c3, if_pos c4, if_neg (not_not_intro c4), if_neg c5, if_pos c5, if_pos c6, if_neg (not_not_intro c6)]; rfl) | rfl | (simp [UTimes, if_neg c1, if_pos c1, if_pos c2, if_neg (not_not_intro c2), if_neg c3, if_pos c3, if_pos c4, if_neg (not_not_intro c4), if_neg c5, if_pos c5, if_pos c6, if_neg (not_not_intro c6)]; done))
              have hP : va_P g.1 vwCl ((wU u (ah 0) (a0 0) (at9 0)) ++ ((wH g ah (UTimes t1 t2 t3 h)) ++ ((wT g at9 (sg, (nI n))) ++ ((wK0 g a0 ak (nI (kOd od sz), nI (kSz sz))) ++ (wHs g ak (va_up hs (kJ od sz) h) 6))))) H := by rw [e7, e8]; exact hP
              have hD : va_D A ((wU u (ah 0) (a0 0) (at9 0)) ++ ((wH g ah (UTimes t1 t2 t3 h)) ++ ((wT g at9 (sg, (nI n))) ++ ((wK0 g a0 ak (nI (kOd od sz), nI (kSz sz))) ++ (wHs g ak (va_up hs (kJ od sz) h) 6))))) := by rw [e7, e8]; exact hD
              exact k_xiret hx hb hr hlocks rfl hcode rfl hP hD hS (Nat.le_of_ble_eq_true rfl) (Nat.le_of_ble_eq_true rfl) dX3_setTimes_109
            ·
              have hcode : (cdTimes t1 t2 t3) = 1 := (by first | (simp only [UTimes, cdTimes, if_neg c1, if_pos c1, if_pos c2, if_neg (not_not_intro c2), if_neg c3, if_pos c3, if_pos c4, if_neg (not_not_intro c4), if_neg c5, if_pos c5, if_neg c6, if_pos c6]; done) | (simp only [UTimes, cdTimes, if_neg c1, if_pos c1, if_pos c2, if_neg (not_not_intro c2), if_neg c3, if_pos c3, if_pos c4, if_neg (not_not_intro c4), if_neg c5, if_pos c5, if_neg c6, if_pos c6]; rfl) | rfl | (simp [UTimes, cdTimes, if_neg c1, if_pos c1, if_pos c2, if_neg (not_not_intro c2), if_neg c3, if_pos c3, if_pos c4, if_neg (not_not_intro c4), if_neg c5, if_pos c5, if_neg c6, if_pos c6]; done))
              exact k_throw (i := 4) (cls := "java/lang/IllegalArgumentException") hx hb hfl hown (by decide) tcl82 tin82 hSt rfl tat86 (by decide +kernel) hZ hP hD hS hA (hl.1.trans hml.symm) dX3_setTimes_53 dX3_setTimes_56 dX3_setTimes_57 dX3_setTimes_59 dX3_setTimes_62 hT (Nat.le_of_ble_eq_true rfl) (Nat.le_of_ble_eq_true rfl) (Nat.le_of_ble_eq_true rfl) (Nat.le_of_ble_eq_true rfl) hlocks (Nat.le_of_ble_eq_true rfl) (Nat.le_of_ble_eq_true rfl) (by rw [hcode]; decide) (by rw [hcode]; rfl)
        ·
          have hcode : (cdTimes t1 t2 t3) = 1 := (by first | (simp only [UTimes, cdTimes, if_neg c1, if_pos c1, if_pos c2, if_neg (not_not_intro c2), if_neg c3, if_pos c3, if_neg c4, if_pos c4]; done) | (simp only [UTimes, cdTimes, if_neg c1, if_pos c1, if_pos c2, if_neg (not_not_intro c2), if_neg c3, if_pos c3, if_neg c4, if_pos c4]; rfl) | rfl | (simp [UTimes, cdTimes, if_neg c1, if_pos c1, if_pos c2, if_neg (not_not_intro c2), if_neg c3, if_pos c3, if_neg c4, if_pos c4]; done))
          exact k_throw (i := 3) (cls := "java/lang/IllegalArgumentException") hx hb hfl hown (by decide) tcl82 tin82 hSt rfl tat86 (by decide +kernel) hZ hP hD hS hA (hl.1.trans hml.symm) dX3_setTimes_32 dX3_setTimes_35 dX3_setTimes_36 dX3_setTimes_38 dX3_setTimes_41 hT (Nat.le_of_ble_eq_true rfl) (Nat.le_of_ble_eq_true rfl) (Nat.le_of_ble_eq_true rfl) (Nat.le_of_ble_eq_true rfl) hlocks (Nat.le_of_ble_eq_true rfl) (Nat.le_of_ble_eq_true rfl) (by rw [hcode]; decide) (by rw [hcode]; rfl)
    ·
      have hcode : (cdTimes t1 t2 t3) = 1 := (by first | (simp only [UTimes, cdTimes, if_neg c1, if_pos c1, if_neg c2, if_pos c2]; done) | (simp only [UTimes, cdTimes, if_neg c1, if_pos c1, if_neg c2, if_pos c2]; rfl) | rfl | (simp [UTimes, cdTimes, if_neg c1, if_pos c1, if_neg c2, if_pos c2]; done))
      exact k_throw (i := 2) (cls := "java/lang/IllegalArgumentException") hx hb hfl hown (by decide) tcl82 tin82 hSt rfl tat86 (by decide +kernel) hZ hP hD hS hA (hl.1.trans hml.symm) dX3_setTimes_11 dX3_setTimes_14 dX3_setTimes_15 dX3_setTimes_17 dX3_setTimes_20 hT (Nat.le_of_ble_eq_true rfl) (Nat.le_of_ble_eq_true rfl) (Nat.le_of_ble_eq_true rfl) (Nat.le_of_ble_eq_true rfl) hlocks (Nat.le_of_ble_eq_true rfl) (Nat.le_of_ble_eq_true rfl) (by rw [hcode]; decide) (by rw [hcode]; rfl)
set_option maxHeartbeats 4000000 in
set_option maxRecDepth 100000 in
theorem c_X3_setPresent (l : Launch) (hfl : l.stackTraces = false) (g : kG) (sa : Nat → Nat) (u : Nat) (ah at9 a0 : Nat → Nat) (ak : Nat → Nat → Nat) (h : HSt) (sg : Nat → Int32) (n : Nat) (hn : n ≤ 60) (hch : Tok sg n) (od sz : Nat) (hod : od < 6) (hsz : sz ≤ 6) (hs : Nat → HSt) (hbo : Hbo h) (hbs : ∀ j, Hbo (hs j)) (w9 : Int32) (b : Nat) (hb2 : b < 2) : KXI l yX3_setPresent wsX3_setPresent ({ frames := 6, cells := 1, slots := 6, locals := 102 }) g sa [.ref u, .int w9, .int (nI b)] ((wU u (ah 0) (a0 0) (at9 0)) ++ ((wH g ah h) ++ ((wT g at9 (sg, (nI n))) ++ ((wK0 g a0 ak ((nI od), (nI sz))) ++ (wHs g ak hs 6))))) (cdPres w9) EI (Hchief (UPres w9 b h)) ((wU u (ah 0) (a0 0) (at9 0)) ++ ((wH g ah (UPres w9 b h)) ++ ((wT g at9 (sg, (nI n))) ++ ((wK0 g a0 ak (nI (kOd od sz), nI (kSz sz))) ++ (wHs g ak (va_up hs (kJ od sz) h) 6))))) 1 6 := by
  refine k_beginX (cc := cX3_setPresent) (maxL := 3) (ret := (some .int)) (Qc := fun A => kQxi g (cdPres w9) (Hchief (UPres w9 b h)) ((wU u (ah 0) (a0 0) (at9 0)) ++ ((wH g ah (UPres w9 b h)) ++ ((wT g at9 (sg, (nI n))) ++ ((wK0 g a0 ak (nI (kOd od sz), nI (kSz sz))) ++ (wHs g ak (va_up hs (kJ od sz) h) 6))))) A) (XC := fun A => kXx g (cdPres w9) EI ((wU u (ah 0) (a0 0) (at9 0)) ++ ((wH g ah h) ++ ((wT g at9 (sg, (nI n))) ++ ((wK0 g a0 ak ((nI od), (nI sz))) ++ (wHs g ak hs 6))))) A) (by decide) rfl (Nat.le_of_ble_eq_true rfl) ?_
  intro p e s m below meth c A ls hF hr hlocks hT hE hSt hZ hP hD hS hA hl
  obtain ⟨hx, hb, hml, hown, hts⟩ := id hF
  have hown : s.vm.findClass RX3 = some m.cls := hown
  have hl : lv_has ls 3 [(0, .ref u), (1, .int w9), (2, .int (nI b))] := hl
  have hiX3 : ∀ w ∈ wsX30, w ∈ wsX3_setPresent := fun _ h => List.mem_cons_of_mem _ (List.mem_append_left _ (List.mem_append_left _ (List.mem_append_left _ (List.mem_append_right _ (h)))))
  have hiX1 : ∀ w ∈ wsX10, w ∈ wsX3_setPresent := fun _ h => List.mem_cons_of_mem _ (List.mem_append_left _ (List.mem_append_left _ (List.mem_append_right _ (h))))
  have f19 : (Cond.fieldLink RX3 19 "ConcertUsher" "history" "LConcertUsher$History;").before _ s = true := hts _ (List.mem_of_getElem? (i := 3) rfl)
  have f12 : (Cond.fieldLink RX3 12 "ConcertUsher" "hall" "LConcertUsher$Hall;").before _ s = true := hts _ (List.mem_of_getElem? (i := 4) rfl)
  have f106 : (Cond.fieldLink RX3 106 "ConcertUsher$Hall" "isFirstPresent" "Z").before _ s = true := hts _ (List.mem_of_getElem? (i := 5) rfl)
  have f109 : (Cond.fieldLink RX3 109 "ConcertUsher$Hall" "isSecondPresent" "Z").before _ s = true := hts _ (List.mem_of_getElem? (i := 6) rfl)
  have tcl101 : (Cond.classLink RX3 101 "java/lang/IndexOutOfBoundsException").before _ s = true := hts _ (List.mem_of_getElem? (i := 1) rfl)
  have tin101 : (Cond.initialized "java/lang/IndexOutOfBoundsException").before _ s = true := hts _ (List.mem_of_getElem? (i := 2) rfl)
  have tat105 : ∀ w ∈ vx_atS RX3 105 "java/lang/IndexOutOfBoundsException" ["java/lang/RuntimeException", "java/lang/Exception"], w.before _ s = true := vx_hat (B := [.castable "java/lang/IndexOutOfBoundsException" "java/lang/IndexOutOfBoundsException", .declares (Bundle.initS "java/lang/RuntimeException"), .declares (Bundle.initS "java/lang/Exception"), .declares (Bundle.initS Bundle.tN)]) (fun w h => hts w ((fun _ h => List.mem_cons_of_mem _ (List.mem_append_right _ (h))) w h)) (by decide +kernel) (vx_c (va_Nw.use rfl hSt.2.1.1) (vx_c (va_Nw.use rfl hSt.2.1.2.2.2.1) (vx_c (va_Nw.use rfl hSt.2.1.2.2.2.2.1) (vx_c (va_Nw.use rfl hSt.2.1.2.2.2.2.2) vx_n))))
  refine lv_iload_n hx hb dX3_setPresent_0 rfl (lv_at hl 1 rfl) ?_
  refine lv_iconst (v := (nI 1)) hx hb dX3_setPresent_1 (by decide) ?_
  refine lv_icmp_eq (tgt := 20) hx hb dX3_setPresent_2 (by decide) (fun c1 => ?_) (fun c1 => ?_)
  ·
    refine lv_aload_n hx hb dX3_setPresent_20 rfl (lv_at hl 0 rfl) ?_
    refine va_get (D := g.1) (ci := 3) (v := .ref (a0 0)) (C := RX3) (T := TX3) (N := 3) hx hb hts hiX3 hown hE.1 hP 0 rfl rfl 1 (by decide) f19 (fun _ h9 => h9) rfl dX3_setPresent_21 ?_
    refine lv_aload_n hx hb dX3_setPresent_24 rfl (lv_at hl 0 rfl) ?_
    refine va_get (D := g.1) (ci := 3) (v := .ref (ah 0)) (C := RX3) (T := TX3) (N := 3) hx hb hts hiX3 hown hE.1 hP 0 rfl rfl 0 (by decide) f12 (fun _ h9 => h9) rfl dX3_setPresent_25 ?_
    refine k_Vv (As := [.ref (ah 0)]) hF (c_X2_keep l g a0 ak ah od sz (by omega) (by omega) hs h hbo) (cwV 1 hts gX3_setPresent_X2_keep rfl rfl rfl (by decide +kernel) ⟨Nat.le_of_ble_eq_true rfl, Nat.le_of_ble_eq_true rfl⟩) hE hP hD hS hA (pm_5_341 _ _ _ _ _) ((pm_5_341 _ _ _ _ _).symm) 7 rfl rfl rfl rfl hl.1 rfl (Nat.le_of_ble_eq_true rfl) dX3_setPresent_28 ⟨Nat.le_of_ble_eq_true rfl, Nat.le_of_ble_eq_true rfl⟩ (fun H locs hP hD hS => ?_)
    have hP : va_P g.1 vwCl ((wU u (ah 0) (a0 0) (at9 0)) ++ ((wH g ah h) ++ ((wT g at9 (sg, (nI n))) ++ ((wK0 g a0 ak ((nI (kOd od sz)), (nI (kSz sz)))) ++ (wHs g ak (va_up hs (kJ od sz) h) 6))))) _ := hP
    have hD : va_D A ((wU u (ah 0) (a0 0) (at9 0)) ++ ((wH g ah h) ++ ((wT g at9 (sg, (nI n))) ++ ((wK0 g a0 ak ((nI (kOd od sz)), (nI (kSz sz)))) ++ (wHs g ak (va_up hs (kJ od sz) h) 6))))) := hD
    refine lv_iload_n hx hb dX3_setPresent_31 rfl (lv_at hl 1 rfl) ?_
    refine lv_iconst (v := (nI 1)) hx hb dX3_setPresent_32 (by decide) ?_
    refine lv_icmp_ne (tgt := 47) hx hb dX3_setPresent_33 (by decide) (fun c2 => ?_) (fun c2 => ?_)
    ·
      exact absurd c1 c2
    ·
      refine lv_aload_n hx hb dX3_setPresent_36 rfl (lv_at hl 0 rfl) ?_
      refine va_get (D := g.1) (ci := 3) (v := .ref (ah 0)) (C := RX3) (T := TX3) (N := 3) hx hb hts hiX3 hown hE.1 hP 0 rfl rfl 0 (by decide) f12 (fun _ h9 => h9) rfl dX3_setPresent_37 ?_
      refine lv_iload_n hx hb dX3_setPresent_40 rfl (lv_at hl 2 rfl) ?_
      refine va_put (D := g.1) (ci := 1) (v := .int (nI b)) (ty := .boolean) (C := RX1) (T := TX1) (N := 12) hx hb hts hiX1 tyX1 tyX1_ok nmX1 hown hE.1 hP hD hS 1 rfl rfl 5 (by decide) f106 (fun _ h9 => h9) rfl (tyX1_ok 5 (by decide)) (bo_nar (k_b2 hb2)) (bo_fits (k_b2 hb2)) (Nat.le_of_ble_eq_true rfl) dX3_setPresent_41 (fun H locs hP hD hS => ?_)
      have hP : va_P g.1 vwCl ((wU u (ah 0) (a0 0) (at9 0)) ++ ((wH g ah (sHf1 h (nI b))) ++ ((wT g at9 (sg, (nI n))) ++ ((wK0 g a0 ak ((nI (kOd od sz)), (nI (kSz sz)))) ++ (wHs g ak (va_up hs (kJ od sz) h) 6))))) _ := hP
      have hD : va_D A ((wU u (ah 0) (a0 0) (at9 0)) ++ ((wH g ah (sHf1 h (nI b))) ++ ((wT g at9 (sg, (nI n))) ++ ((wK0 g a0 ak ((nI (kOd od sz)), (nI (kSz sz)))) ++ (wHs g ak (va_up hs (kJ od sz) h) 6))))) := hD
      refine lv_goto (tgt := 55) hx hb dX3_setPresent_44 (by decide) ?_
      refine lv_aload_n hx hb dX3_setPresent_55 rfl (lv_at hl 0 rfl) ?_
      refine va_get (D := g.1) (ci := 3) (v := .ref (ah 0)) (C := RX3) (T := TX3) (N := 3) hx hb hts hiX3 hown hE.1 hP 0 rfl rfl 0 (by decide) f12 (fun _ h9 => h9) rfl dX3_setPresent_56 ?_
      refine k_Vi (As := []) (r := (Hchief (sHf1 h (nI b)))) hF (c_X1_chiefAsker l g ah (sHf1 h (nI b))) (cwV 0 hts gX3_setPresent_X1_chiefAsker rfl rfl rfl (by decide +kernel) ⟨Nat.le_of_ble_eq_true rfl, Nat.le_of_ble_eq_true rfl⟩) hE hP hD hS hA (pm_5_1 _ _ _ _ _) ((pm_5_1 _ _ _ _ _).symm) 1 rfl rfl rfl rfl hl.1 rfl (Nat.le_of_ble_eq_true rfl) dX3_setPresent_59 ⟨Nat.le_of_ble_eq_true rfl, Nat.le_of_ble_eq_true rfl⟩ (fun H locs hP hD hS => ?_)
      have hP : va_P g.1 vwCl ((wU u (ah 0) (a0 0) (at9 0)) ++ ((wH g ah (sHf1 h (nI b))) ++ ((wT g at9 (sg, (nI n))) ++ ((wK0 g a0 ak ((nI (kOd od sz)), (nI (kSz sz)))) ++ (wHs g ak (va_up hs (kJ od sz) h) 6))))) _ := hP
      have hD : va_D A ((wU u (ah 0) (a0 0) (at9 0)) ++ ((wH g ah (sHf1 h (nI b))) ++ ((wT g at9 (sg, (nI n))) ++ ((wK0 g a0 ak ((nI (kOd od sz)), (nI (kSz sz)))) ++ (wHs g ak (va_up hs (kJ od sz) h) 6))))) := hD
      have hcode : (cdPres w9) = 0 := (by first | (simp only [UPres, cdPres, if_pos c1, if_neg (not_not_intro c1), if_pos c2, if_neg (not_not_intro c2)]; done) | (simp only [UPres, cdPres, if_pos c1, if_neg (not_not_intro c1), if_pos c2, if_neg (not_not_intro c2)]; rfl) | rfl | (simp [UPres, cdPres, if_pos c1, if_neg (not_not_intro c1), if_pos c2, if_neg (not_not_intro c2)]; done))
      have e3 : (UPres w9 b h) = (sHf1 h (nI b)) := (by first | (simp only [UPres, if_pos c1, if_neg (not_not_intro c1), if_pos c2, if_neg (not_not_intro c2)]; done) | (simp only [UPres, if_pos c1, if_neg (not_not_intro c1), if_pos c2, if_neg (not_not_intro c2)]; rfl) | rfl | (simp [UPres, if_pos c1, if_neg (not_not_intro c1), if_pos c2, if_neg (not_not_intro c2)]; done))
      have e4 : (nI (kOd od sz), nI (kSz sz)) = ((nI (kOd od sz)), (nI (kSz sz))) := (by first | (simp only [UPres, if_pos c1, if_neg (not_not_intro c1), if_pos c2, if_neg (not_not_intro c2)]; done) | (simp only [UPres, if_pos c1, if_neg (not_not_intro c1), if_pos c2, if_neg (not_not_intro c2)]; rfl) | rfl | (simp [UPres, if_pos c1, if_neg (not_not_intro c1), if_pos c2, if_neg (not_not_intro c2)]; done))
      have hP : va_P g.1 vwCl ((wU u (ah 0) (a0 0) (at9 0)) ++ ((wH g ah (UPres w9 b h)) ++ ((wT g at9 (sg, (nI n))) ++ ((wK0 g a0 ak (nI (kOd od sz), nI (kSz sz))) ++ (wHs g ak (va_up hs (kJ od sz) h) 6))))) H := by rw [e3, e4]; exact hP
      have hD : va_D A ((wU u (ah 0) (a0 0) (at9 0)) ++ ((wH g ah (UPres w9 b h)) ++ ((wT g at9 (sg, (nI n))) ++ ((wK0 g a0 ak (nI (kOd od sz), nI (kSz sz))) ++ (wHs g ak (va_up hs (kJ od sz) h) 6))))) := by rw [e3, e4]; exact hD
      exact k_xiret hx hb hr hlocks rfl hcode (by first | (simp only [UPres, bI, if_pos c1, if_neg (not_not_intro c1), if_pos c2, if_neg (not_not_intro c2)]; done) | (simp only [UPres, bI, if_pos c1, if_neg (not_not_intro c1), if_pos c2, if_neg (not_not_intro c2)]; rfl) | rfl | (simp [UPres, bI, if_pos c1, if_neg (not_not_intro c1), if_pos c2, if_neg (not_not_intro c2)]; done)) hP hD hS (Nat.le_of_ble_eq_true rfl) (Nat.le_of_ble_eq_true rfl) dX3_setPresent_62
  ·
    refine lv_iload_n hx hb dX3_setPresent_5 rfl (lv_at hl 1 rfl) ?_
    refine lv_iconst (v := (nI 2)) hx hb dX3_setPresent_6 (by decide) ?_
    refine lv_icmp_eq (tgt := 20) hx hb dX3_setPresent_7 (by decide) (fun c5 => ?_) (fun c5 => ?_)
    ·
      refine lv_aload_n hx hb dX3_setPresent_20 rfl (lv_at hl 0 rfl) ?_
      refine va_get (D := g.1) (ci := 3) (v := .ref (a0 0)) (C := RX3) (T := TX3) (N := 3) hx hb hts hiX3 hown hE.1 hP 0 rfl rfl 1 (by decide) f19 (fun _ h9 => h9) rfl dX3_setPresent_21 ?_
      refine lv_aload_n hx hb dX3_setPresent_24 rfl (lv_at hl 0 rfl) ?_
      refine va_get (D := g.1) (ci := 3) (v := .ref (ah 0)) (C := RX3) (T := TX3) (N := 3) hx hb hts hiX3 hown hE.1 hP 0 rfl rfl 0 (by decide) f12 (fun _ h9 => h9) rfl dX3_setPresent_25 ?_
      refine k_Vv (As := [.ref (ah 0)]) hF (c_X2_keep l g a0 ak ah od sz (by omega) (by omega) hs h hbo) (cwV 1 hts gX3_setPresent_X2_keep rfl rfl rfl (by decide +kernel) ⟨Nat.le_of_ble_eq_true rfl, Nat.le_of_ble_eq_true rfl⟩) hE hP hD hS hA (pm_5_341 _ _ _ _ _) ((pm_5_341 _ _ _ _ _).symm) 7 rfl rfl rfl rfl hl.1 rfl (Nat.le_of_ble_eq_true rfl) dX3_setPresent_28 ⟨Nat.le_of_ble_eq_true rfl, Nat.le_of_ble_eq_true rfl⟩ (fun H locs hP hD hS => ?_)
      have hP : va_P g.1 vwCl ((wU u (ah 0) (a0 0) (at9 0)) ++ ((wH g ah h) ++ ((wT g at9 (sg, (nI n))) ++ ((wK0 g a0 ak ((nI (kOd od sz)), (nI (kSz sz)))) ++ (wHs g ak (va_up hs (kJ od sz) h) 6))))) _ := hP
      have hD : va_D A ((wU u (ah 0) (a0 0) (at9 0)) ++ ((wH g ah h) ++ ((wT g at9 (sg, (nI n))) ++ ((wK0 g a0 ak ((nI (kOd od sz)), (nI (kSz sz)))) ++ (wHs g ak (va_up hs (kJ od sz) h) 6))))) := hD
      refine lv_iload_n hx hb dX3_setPresent_31 rfl (lv_at hl 1 rfl) ?_
      refine lv_iconst (v := (nI 1)) hx hb dX3_setPresent_32 (by decide) ?_
      refine lv_icmp_ne (tgt := 47) hx hb dX3_setPresent_33 (by decide) (fun c6 => ?_) (fun c6 => ?_)
      ·
        refine lv_aload_n hx hb dX3_setPresent_47 rfl (lv_at hl 0 rfl) ?_
        refine va_get (D := g.1) (ci := 3) (v := .ref (ah 0)) (C := RX3) (T := TX3) (N := 3) hx hb hts hiX3 hown hE.1 hP 0 rfl rfl 0 (by decide) f12 (fun _ h9 => h9) rfl dX3_setPresent_48 ?_
        refine lv_iload_n hx hb dX3_setPresent_51 rfl (lv_at hl 2 rfl) ?_
        refine va_put (D := g.1) (ci := 1) (v := .int (nI b)) (ty := .boolean) (C := RX1) (T := TX1) (N := 12) hx hb hts hiX1 tyX1 tyX1_ok nmX1 hown hE.1 hP hD hS 1 rfl rfl 6 (by decide) f109 (fun _ h9 => h9) rfl (tyX1_ok 6 (by decide)) (bo_nar (k_b2 hb2)) (bo_fits (k_b2 hb2)) (Nat.le_of_ble_eq_true rfl) dX3_setPresent_52 (fun H locs hP hD hS => ?_)
        have hP : va_P g.1 vwCl ((wU u (ah 0) (a0 0) (at9 0)) ++ ((wH g ah (sHf2 h (nI b))) ++ ((wT g at9 (sg, (nI n))) ++ ((wK0 g a0 ak ((nI (kOd od sz)), (nI (kSz sz)))) ++ (wHs g ak (va_up hs (kJ od sz) h) 6))))) _ := hP
        have hD : va_D A ((wU u (ah 0) (a0 0) (at9 0)) ++ ((wH g ah (sHf2 h (nI b))) ++ ((wT g at9 (sg, (nI n))) ++ ((wK0 g a0 ak ((nI (kOd od sz)), (nI (kSz sz)))) ++ (wHs g ak (va_up hs (kJ od sz) h) 6))))) := hD
        refine lv_aload_n hx hb dX3_setPresent_55 rfl (lv_at hl 0 rfl) ?_
        refine va_get (D := g.1) (ci := 3) (v := .ref (ah 0)) (C := RX3) (T := TX3) (N := 3) hx hb hts hiX3 hown hE.1 hP 0 rfl rfl 0 (by decide) f12 (fun _ h9 => h9) rfl dX3_setPresent_56 ?_
        refine k_Vi (As := []) (r := (Hchief (sHf2 h (nI b)))) hF (c_X1_chiefAsker l g ah (sHf2 h (nI b))) (cwV 0 hts gX3_setPresent_X1_chiefAsker rfl rfl rfl (by decide +kernel) ⟨Nat.le_of_ble_eq_true rfl, Nat.le_of_ble_eq_true rfl⟩) hE hP hD hS hA (pm_5_1 _ _ _ _ _) ((pm_5_1 _ _ _ _ _).symm) 1 rfl rfl rfl rfl hl.1 rfl (Nat.le_of_ble_eq_true rfl) dX3_setPresent_59 ⟨Nat.le_of_ble_eq_true rfl, Nat.le_of_ble_eq_true rfl⟩ (fun H locs hP hD hS => ?_)
        have hP : va_P g.1 vwCl ((wU u (ah 0) (a0 0) (at9 0)) ++ ((wH g ah (sHf2 h (nI b))) ++ ((wT g at9 (sg, (nI n))) ++ ((wK0 g a0 ak ((nI (kOd od sz)), (nI (kSz sz)))) ++ (wHs g ak (va_up hs (kJ od sz) h) 6))))) _ := hP
        have hD : va_D A ((wU u (ah 0) (a0 0) (at9 0)) ++ ((wH g ah (sHf2 h (nI b))) ++ ((wT g at9 (sg, (nI n))) ++ ((wK0 g a0 ak ((nI (kOd od sz)), (nI (kSz sz)))) ++ (wHs g ak (va_up hs (kJ od sz) h) 6))))) := hD
        have hcode : (cdPres w9) = 0 := (by first | (simp only [UPres, cdPres, if_neg c1, if_pos c1, if_pos c5, if_neg (not_not_intro c5), if_neg c6, if_pos c6]; done) | (simp only [UPres, cdPres, if_neg c1, if_pos c1, if_pos c5, if_neg (not_not_intro c5), if_neg c6, if_pos c6]; rfl) | rfl | (simp [UPres, cdPres, if_neg c1, if_pos c1, if_pos c5, if_neg (not_not_intro c5), if_neg c6, if_pos c6]; done))
        have e7 : (UPres w9 b h) = (sHf2 h (nI b)) := (by first | (simp only [UPres, if_neg c1, if_pos c1, if_pos c5, if_neg (not_not_intro c5), if_neg c6, if_pos c6]; done) | (simp only [UPres, if_neg c1, if_pos c1, if_pos c5, if_neg (not_not_intro c5), if_neg c6, if_pos c6]; rfl) | rfl | (simp [UPres, if_neg c1, if_pos c1, if_pos c5, if_neg (not_not_intro c5), if_neg c6, if_pos c6]; done))
        have e8 : (nI (kOd od sz), nI (kSz sz)) = ((nI (kOd od sz)), (nI (kSz sz))) := (by first | (simp only [UPres, if_neg c1, if_pos c1, if_pos c5, if_neg (not_not_intro c5), if_neg c6, if_pos c6]; done) | (simp only [UPres, if_neg c1, if_pos c1, if_pos c5, if_neg (not_not_intro c5), if_neg c6, if_pos c6]; rfl) | rfl | (simp [UPres, if_neg c1, if_pos c1, if_pos c5, if_neg (not_not_intro c5), if_neg c6, if_pos c6]; done))
        have hP : va_P g.1 vwCl ((wU u (ah 0) (a0 0) (at9 0)) ++ ((wH g ah (UPres w9 b h)) ++ ((wT g at9 (sg, (nI n))) ++ ((wK0 g a0 ak (nI (kOd od sz), nI (kSz sz))) ++ (wHs g ak (va_up hs (kJ od sz) h) 6))))) H := by rw [e7, e8]; exact hP
        have hD : va_D A ((wU u (ah 0) (a0 0) (at9 0)) ++ ((wH g ah (UPres w9 b h)) ++ ((wT g at9 (sg, (nI n))) ++ ((wK0 g a0 ak (nI (kOd od sz), nI (kSz sz))) ++ (wHs g ak (va_up hs (kJ od sz) h) 6))))) := by rw [e7, e8]; exact hD
        exact k_xiret hx hb hr hlocks rfl hcode (by first | (simp only [UPres, bI, if_neg c1, if_pos c1, if_pos c5, if_neg (not_not_intro c5), if_neg c6, if_pos c6]; done) | (simp only [UPres, bI, if_neg c1, if_pos c1, if_pos c5, if_neg (not_not_intro c5), if_neg c6, if_pos c6]; rfl) | rfl | (simp [UPres, bI, if_neg c1, if_pos c1, if_pos c5, if_neg (not_not_intro c5), if_neg c6, if_pos c6]; done)) hP hD hS (Nat.le_of_ble_eq_true rfl) (Nat.le_of_ble_eq_true rfl) dX3_setPresent_62
      ·
        exact absurd c6 c1
    ·
      have hcode : (cdPres w9) = 1 := (by first | (simp only [UPres, cdPres, if_neg c1, if_pos c1, if_neg c5, if_pos c5]; done) | (simp only [UPres, cdPres, if_neg c1, if_pos c1, if_neg c5, if_pos c5]; rfl) | rfl | (simp [UPres, cdPres, if_neg c1, if_pos c1, if_neg c5, if_pos c5]; done))
      exact k_throw (i := 5) (cls := "java/lang/IndexOutOfBoundsException") hx hb hfl hown (by decide) tcl101 tin101 hSt rfl tat105 (by decide +kernel) hZ hP hD hS hA (hl.1.trans hml.symm) dX3_setPresent_10 dX3_setPresent_13 dX3_setPresent_14 dX3_setPresent_16 dX3_setPresent_19 hT (Nat.le_of_ble_eq_true rfl) (Nat.le_of_ble_eq_true rfl) (Nat.le_of_ble_eq_true rfl) (Nat.le_of_ble_eq_true rfl) hlocks (Nat.le_of_ble_eq_true rfl) (Nat.le_of_ble_eq_true rfl) (by rw [hcode]; decide) (by rw [hcode]; rfl)
set_option maxHeartbeats 4000000 in
set_option maxRecDepth 100000 in
theorem c_X3_rows (l : Launch) (hfl : l.stackTraces = false) (g : kG) (sa : Nat → Nat) (u : Nat) (ah at9 a0 : Nat → Nat) (ak : Nat → Nat → Nat) (h : HSt) (sg : Nat → Int32) (n : Nat) (hn : n ≤ 60) (hch : Tok sg n) (od sz : Nat) (hod : od < 6) (hsz : sz ≤ 6) (hs : Nat → HSt) (hbo : Hbo h) (hbs : ∀ j, Hbo (hs j)) (con : Int32) : KXI l yX3_rows wsX3_rows ({ frames := 7, cells := 1, slots := 6, locals := 110 }) g sa [.ref u, .int con] ((wU u (ah 0) (a0 0) (at9 0)) ++ ((wH g ah h) ++ ((wT g at9 (sg, (nI n))) ++ ((wK0 g a0 ak ((nI od), (nI sz))) ++ (wHs g ak hs 6))))) (ckC con) EI (Hget h con.toNatClampNeg 8) ((wU u (ah 0) (a0 0) (at9 0)) ++ ((wH g ah h) ++ ((wT g at9 (sg, (nI n))) ++ ((wK0 g a0 ak ((nI od), (nI sz))) ++ (wHs g ak hs 6))))) 1 6 := by
  refine k_beginX (cc := cX3_rows) (maxL := 2) (ret := (some .int)) (Qc := fun A => kQxi g (ckC con) (Hget h con.toNatClampNeg 8) ((wU u (ah 0) (a0 0) (at9 0)) ++ ((wH g ah h) ++ ((wT g at9 (sg, (nI n))) ++ ((wK0 g a0 ak ((nI od), (nI sz))) ++ (wHs g ak hs 6))))) A) (XC := fun A => kXx g (ckC con) EI ((wU u (ah 0) (a0 0) (at9 0)) ++ ((wH g ah h) ++ ((wT g at9 (sg, (nI n))) ++ ((wK0 g a0 ak ((nI od), (nI sz))) ++ (wHs g ak hs 6))))) A) (by decide) rfl (Nat.le_of_ble_eq_true rfl) ?_
  intro p e s m below meth c A ls hF hr hlocks hT hE hSt hZ hP hD hS hA hl
  obtain ⟨hx, hb, hml, hown, hts⟩ := id hF
  have hown : s.vm.findClass RX3 = some m.cls := hown
  have hl : lv_has ls 2 [(0, .ref u), (1, .int con)] := hl
  have hiX3 : ∀ w ∈ wsX30, w ∈ wsX3_rows := fun _ h => List.mem_cons_of_mem _ (List.mem_append_left _ (List.mem_append_left _ (List.mem_append_right _ (h))))
  have f12 : (Cond.fieldLink RX3 12 "ConcertUsher" "hall" "LConcertUsher$Hall;").before _ s = true := hts _ (List.mem_of_getElem? (i := 1) rfl)
  refine lv_iload_n hx hb dX3_rows_0 rfl (lv_at hl 1 rfl) ?_
  refine k_XSv (As := [.int con]) (w0 := []) (wr := ((wU u (ah 0) (a0 0) (at9 0)) ++ ((wH g ah h) ++ ((wT g at9 (sg, (nI n))) ++ ((wK0 g a0 ak ((nI od), (nI sz))) ++ (wHs g ak hs 6)))))) hF (c_X3_checkConcert l hfl g sa con) (va_cwS 1 hts gX3_rows_X3_checkConcert rfl rfl rfl (by decide +kernel) ⟨Nat.le_of_ble_eq_true rfl, Nat.le_of_ble_eq_true rfl⟩) hE hSt hZ hP hD hS hA (List.Perm.refl _) rfl hl.1 rfl (Nat.le_of_ble_eq_true rfl) dX3_rows_1 ⟨Nat.le_of_ble_eq_true rfl, Nat.le_of_ble_eq_true rfl⟩ hT hlocks (Nat.le_of_ble_eq_true rfl) (Nat.le_of_ble_eq_true rfl) (fun h9 => ⟨h9, rfl⟩) (fun H locs hk1 hP hD hS => ?_)
  obtain ⟨k2, hk3, hk1e⟩ := ckC_ok hk1
  have hk1c : con.toNatClampNeg = k2 := cl_eq hk1e (by omega)
  refine lv_aload_n hx hb dX3_rows_4 rfl (lv_at hl 0 rfl) ?_
  refine va_get (D := g.1) (ci := 3) (v := .ref (ah 0)) (C := RX3) (T := TX3) (N := 3) hx hb hts hiX3 hown hE.1 hP 0 rfl rfl 0 (by decide) f12 (fun _ h9 => h9) rfl dX3_rows_5 ?_
  refine lv_iload_n hx hb dX3_rows_8 rfl (lv_at hl 1 rfl) ?_
  refine k_top hk1e ?_
  refine k_Vi (As := [.int (nI k2)]) (r := (Hget h k2 8)) hF (c_X1_rowsThatGet l g ah h k2 (by omega)) (cwV 1 hts gX3_rows_X1_rowsThatGet rfl rfl rfl (by decide +kernel) ⟨Nat.le_of_ble_eq_true rfl, Nat.le_of_ble_eq_true rfl⟩) hE hP hD hS hA (pm_5_1 _ _ _ _ _) ((pm_5_1 _ _ _ _ _).symm) 1 rfl rfl rfl rfl hl.1 rfl (Nat.le_of_ble_eq_true rfl) dX3_rows_9 ⟨Nat.le_of_ble_eq_true rfl, Nat.le_of_ble_eq_true rfl⟩ (fun H locs hP hD hS => ?_)
  have hP : va_P g.1 vwCl ((wU u (ah 0) (a0 0) (at9 0)) ++ ((wH g ah h) ++ ((wT g at9 (sg, (nI n))) ++ ((wK0 g a0 ak ((nI od), (nI sz))) ++ (wHs g ak hs 6))))) _ := hP
  have hD : va_D A ((wU u (ah 0) (a0 0) (at9 0)) ++ ((wH g ah h) ++ ((wT g at9 (sg, (nI n))) ++ ((wK0 g a0 ak ((nI od), (nI sz))) ++ (wHs g ak hs 6))))) := hD
  have hcode : (ckC con) = 0 := hk1
  have hP : va_P g.1 vwCl ((wU u (ah 0) (a0 0) (at9 0)) ++ ((wH g ah h) ++ ((wT g at9 (sg, (nI n))) ++ ((wK0 g a0 ak ((nI od), (nI sz))) ++ (wHs g ak hs 6))))) _ := hP
  have hD : va_D A ((wU u (ah 0) (a0 0) (at9 0)) ++ ((wH g ah h) ++ ((wT g at9 (sg, (nI n))) ++ ((wK0 g a0 ak ((nI od), (nI sz))) ++ (wHs g ak hs 6))))) := hD
  exact k_xiret hx hb hr hlocks rfl hcode (by first | (simp only [bI, if_pos hk1, if_neg (not_not_intro hk1), hk1c]; done) | (simp only [bI, if_pos hk1, if_neg (not_not_intro hk1), hk1c]; rfl) | rfl | (simp [bI, if_pos hk1, if_neg (not_not_intro hk1), hk1c]; done)) hP hD hS (Nat.le_of_ble_eq_true rfl) (Nat.le_of_ble_eq_true rfl) dX3_rows_12
set_option maxHeartbeats 4000000 in
set_option maxRecDepth 100000 in
theorem c_X3_wanted (l : Launch) (hfl : l.stackTraces = false) (g : kG) (sa : Nat → Nat) (u : Nat) (ah at9 a0 : Nat → Nat) (ak : Nat → Nat → Nat) (h : HSt) (sg : Nat → Int32) (n : Nat) (hn : n ≤ 60) (hch : Tok sg n) (od sz : Nat) (hod : od < 6) (hsz : sz ≤ 6) (hs : Nat → HSt) (hbo : Hbo h) (hbs : ∀ j, Hbo (hs j)) (con : Int32) : KXI l yX3_wanted wsX3_wanted ({ frames := 7, cells := 1, slots := 6, locals := 110 }) g sa [.ref u, .int con] ((wU u (ah 0) (a0 0) (at9 0)) ++ ((wH g ah h) ++ ((wT g at9 (sg, (nI n))) ++ ((wK0 g a0 ak ((nI od), (nI sz))) ++ (wHs g ak hs 6))))) (ckC con) EI (Hwant h con.toNatClampNeg 8) ((wU u (ah 0) (a0 0) (at9 0)) ++ ((wH g ah h) ++ ((wT g at9 (sg, (nI n))) ++ ((wK0 g a0 ak ((nI od), (nI sz))) ++ (wHs g ak hs 6))))) 1 6 := by
  refine k_beginX (cc := cX3_wanted) (maxL := 2) (ret := (some .int)) (Qc := fun A => kQxi g (ckC con) (Hwant h con.toNatClampNeg 8) ((wU u (ah 0) (a0 0) (at9 0)) ++ ((wH g ah h) ++ ((wT g at9 (sg, (nI n))) ++ ((wK0 g a0 ak ((nI od), (nI sz))) ++ (wHs g ak hs 6))))) A) (XC := fun A => kXx g (ckC con) EI ((wU u (ah 0) (a0 0) (at9 0)) ++ ((wH g ah h) ++ ((wT g at9 (sg, (nI n))) ++ ((wK0 g a0 ak ((nI od), (nI sz))) ++ (wHs g ak hs 6))))) A) (by decide) rfl (Nat.le_of_ble_eq_true rfl) ?_
  intro p e s m below meth c A ls hF hr hlocks hT hE hSt hZ hP hD hS hA hl
  obtain ⟨hx, hb, hml, hown, hts⟩ := id hF
  have hown : s.vm.findClass RX3 = some m.cls := hown
  have hl : lv_has ls 2 [(0, .ref u), (1, .int con)] := hl
  have hiX3 : ∀ w ∈ wsX30, w ∈ wsX3_wanted := fun _ h => List.mem_cons_of_mem _ (List.mem_append_left _ (List.mem_append_left _ (List.mem_append_right _ (h))))
  have f12 : (Cond.fieldLink RX3 12 "ConcertUsher" "hall" "LConcertUsher$Hall;").before _ s = true := hts _ (List.mem_of_getElem? (i := 1) rfl)
  refine lv_iload_n hx hb dX3_wanted_0 rfl (lv_at hl 1 rfl) ?_
  refine k_XSv (As := [.int con]) (w0 := []) (wr := ((wU u (ah 0) (a0 0) (at9 0)) ++ ((wH g ah h) ++ ((wT g at9 (sg, (nI n))) ++ ((wK0 g a0 ak ((nI od), (nI sz))) ++ (wHs g ak hs 6)))))) hF (c_X3_checkConcert l hfl g sa con) (va_cwS 1 hts gX3_wanted_X3_checkConcert rfl rfl rfl (by decide +kernel) ⟨Nat.le_of_ble_eq_true rfl, Nat.le_of_ble_eq_true rfl⟩) hE hSt hZ hP hD hS hA (List.Perm.refl _) rfl hl.1 rfl (Nat.le_of_ble_eq_true rfl) dX3_wanted_1 ⟨Nat.le_of_ble_eq_true rfl, Nat.le_of_ble_eq_true rfl⟩ hT hlocks (Nat.le_of_ble_eq_true rfl) (Nat.le_of_ble_eq_true rfl) (fun h9 => ⟨h9, rfl⟩) (fun H locs hk1 hP hD hS => ?_)
  obtain ⟨k2, hk3, hk1e⟩ := ckC_ok hk1
  have hk1c : con.toNatClampNeg = k2 := cl_eq hk1e (by omega)
  refine lv_aload_n hx hb dX3_wanted_4 rfl (lv_at hl 0 rfl) ?_
  refine va_get (D := g.1) (ci := 3) (v := .ref (ah 0)) (C := RX3) (T := TX3) (N := 3) hx hb hts hiX3 hown hE.1 hP 0 rfl rfl 0 (by decide) f12 (fun _ h9 => h9) rfl dX3_wanted_5 ?_
  refine lv_iload_n hx hb dX3_wanted_8 rfl (lv_at hl 1 rfl) ?_
  refine k_top hk1e ?_
  refine k_Vi (As := [.int (nI k2)]) (r := (Hwant h k2 8)) hF (c_X1_rowsThatWant l g ah h k2 (by omega)) (cwV 1 hts gX3_wanted_X1_rowsThatWant rfl rfl rfl (by decide +kernel) ⟨Nat.le_of_ble_eq_true rfl, Nat.le_of_ble_eq_true rfl⟩) hE hP hD hS hA (pm_5_1 _ _ _ _ _) ((pm_5_1 _ _ _ _ _).symm) 1 rfl rfl rfl rfl hl.1 rfl (Nat.le_of_ble_eq_true rfl) dX3_wanted_9 ⟨Nat.le_of_ble_eq_true rfl, Nat.le_of_ble_eq_true rfl⟩ (fun H locs hP hD hS => ?_)
  have hP : va_P g.1 vwCl ((wU u (ah 0) (a0 0) (at9 0)) ++ ((wH g ah h) ++ ((wT g at9 (sg, (nI n))) ++ ((wK0 g a0 ak ((nI od), (nI sz))) ++ (wHs g ak hs 6))))) _ := hP
  have hD : va_D A ((wU u (ah 0) (a0 0) (at9 0)) ++ ((wH g ah h) ++ ((wT g at9 (sg, (nI n))) ++ ((wK0 g a0 ak ((nI od), (nI sz))) ++ (wHs g ak hs 6))))) := hD
  have hcode : (ckC con) = 0 := hk1
  have hP : va_P g.1 vwCl ((wU u (ah 0) (a0 0) (at9 0)) ++ ((wH g ah h) ++ ((wT g at9 (sg, (nI n))) ++ ((wK0 g a0 ak ((nI od), (nI sz))) ++ (wHs g ak hs 6))))) _ := hP
  have hD : va_D A ((wU u (ah 0) (a0 0) (at9 0)) ++ ((wH g ah h) ++ ((wT g at9 (sg, (nI n))) ++ ((wK0 g a0 ak ((nI od), (nI sz))) ++ (wHs g ak hs 6))))) := hD
  exact k_xiret hx hb hr hlocks rfl hcode (by first | (simp only [bI, if_pos hk1, if_neg (not_not_intro hk1), hk1c]; done) | (simp only [bI, if_pos hk1, if_neg (not_not_intro hk1), hk1c]; rfl) | rfl | (simp [bI, if_pos hk1, if_neg (not_not_intro hk1), hk1c]; done)) hP hD hS (Nat.le_of_ble_eq_true rfl) (Nat.le_of_ble_eq_true rfl) dX3_wanted_12
set_option maxHeartbeats 4000000 in
set_option maxRecDepth 100000 in
theorem c_X3_play (l : Launch) (hfl : l.stackTraces = false) (g : kG) (sa : Nat → Nat) (u : Nat) (ah at9 a0 : Nat → Nat) (ak : Nat → Nat → Nat) (h : HSt) (sg : Nat → Int32) (n : Nat) (hn : n ≤ 60) (hch : Tok sg n) (od sz : Nat) (hod : od < 6) (hsz : sz ≤ 6) (hs : Nat → HSt) (hbo : Hbo h) (hbs : ∀ j, Hbo (hs j)) (con : Int32) : KXI l yX3_play wsX3_play ({ frames := 7, cells := 1, slots := 6, locals := 110 }) g sa [.ref u, .int con] ((wU u (ah 0) (a0 0) (at9 0)) ++ ((wH g ah h) ++ ((wT g at9 (sg, (nI n))) ++ ((wK0 g a0 ak ((nI od), (nI sz))) ++ (wHs g ak hs 6))))) (ckC con) EI (bc (Hget h con.toNatClampNeg 8)) ((wU u (ah 0) (a0 0) (at9 0)) ++ ((wH g ah (Hperf con.toNatClampNeg h)) ++ ((wT g at9 (sg, (nI n))) ++ ((wK0 g a0 ak (nI (kOd od sz), nI (kSz sz))) ++ (wHs g ak (va_up hs (kJ od sz) h) 6))))) 1 6 := by
  refine k_beginX (cc := cX3_play) (maxL := 2) (ret := (some .int)) (Qc := fun A => kQxi g (ckC con) (bc (Hget h con.toNatClampNeg 8)) ((wU u (ah 0) (a0 0) (at9 0)) ++ ((wH g ah (Hperf con.toNatClampNeg h)) ++ ((wT g at9 (sg, (nI n))) ++ ((wK0 g a0 ak (nI (kOd od sz), nI (kSz sz))) ++ (wHs g ak (va_up hs (kJ od sz) h) 6))))) A) (XC := fun A => kXx g (ckC con) EI ((wU u (ah 0) (a0 0) (at9 0)) ++ ((wH g ah h) ++ ((wT g at9 (sg, (nI n))) ++ ((wK0 g a0 ak ((nI od), (nI sz))) ++ (wHs g ak hs 6))))) A) (by decide) rfl (Nat.le_of_ble_eq_true rfl) ?_
  intro p e s m below meth c A ls hF hr hlocks hT hE hSt hZ hP hD hS hA hl
  obtain ⟨hx, hb, hml, hown, hts⟩ := id hF
  have hown : s.vm.findClass RX3 = some m.cls := hown
  have hl : lv_has ls 2 [(0, .ref u), (1, .int con)] := hl
  have hiX3 : ∀ w ∈ wsX30, w ∈ wsX3_play := fun _ h => List.mem_cons_of_mem _ (List.mem_append_left _ (List.mem_append_left _ (List.mem_append_left _ (List.mem_append_right _ (h)))))
  have f19 : (Cond.fieldLink RX3 19 "ConcertUsher" "history" "LConcertUsher$History;").before _ s = true := hts _ (List.mem_of_getElem? (i := 1) rfl)
  have f12 : (Cond.fieldLink RX3 12 "ConcertUsher" "hall" "LConcertUsher$Hall;").before _ s = true := hts _ (List.mem_of_getElem? (i := 2) rfl)
  refine lv_iload_n hx hb dX3_play_0 rfl (lv_at hl 1 rfl) ?_
  refine k_XSv (As := [.int con]) (w0 := []) (wr := ((wU u (ah 0) (a0 0) (at9 0)) ++ ((wH g ah h) ++ ((wT g at9 (sg, (nI n))) ++ ((wK0 g a0 ak ((nI od), (nI sz))) ++ (wHs g ak hs 6)))))) hF (c_X3_checkConcert l hfl g sa con) (va_cwS 1 hts gX3_play_X3_checkConcert rfl rfl rfl (by decide +kernel) ⟨Nat.le_of_ble_eq_true rfl, Nat.le_of_ble_eq_true rfl⟩) hE hSt hZ hP hD hS hA (List.Perm.refl _) rfl hl.1 rfl (Nat.le_of_ble_eq_true rfl) dX3_play_1 ⟨Nat.le_of_ble_eq_true rfl, Nat.le_of_ble_eq_true rfl⟩ hT hlocks (Nat.le_of_ble_eq_true rfl) (Nat.le_of_ble_eq_true rfl) (fun h9 => ⟨h9, rfl⟩) (fun H locs hk1 hP hD hS => ?_)
  obtain ⟨k2, hk3, hk1e⟩ := ckC_ok hk1
  have hk1c : con.toNatClampNeg = k2 := cl_eq hk1e (by omega)
  refine lv_aload_n hx hb dX3_play_4 rfl (lv_at hl 0 rfl) ?_
  refine va_get (D := g.1) (ci := 3) (v := .ref (a0 0)) (C := RX3) (T := TX3) (N := 3) hx hb hts hiX3 hown hE.1 hP 0 rfl rfl 1 (by decide) f19 (fun _ h9 => h9) rfl dX3_play_5 ?_
  refine lv_aload_n hx hb dX3_play_8 rfl (lv_at hl 0 rfl) ?_
  refine va_get (D := g.1) (ci := 3) (v := .ref (ah 0)) (C := RX3) (T := TX3) (N := 3) hx hb hts hiX3 hown hE.1 hP 0 rfl rfl 0 (by decide) f12 (fun _ h9 => h9) rfl dX3_play_9 ?_
  refine k_Vv (As := [.ref (ah 0)]) hF (c_X2_keep l g a0 ak ah od sz (by omega) (by omega) hs h hbo) (cwV 1 hts gX3_play_X2_keep rfl rfl rfl (by decide +kernel) ⟨Nat.le_of_ble_eq_true rfl, Nat.le_of_ble_eq_true rfl⟩) hE hP hD hS hA (pm_5_341 _ _ _ _ _) ((pm_5_341 _ _ _ _ _).symm) 7 rfl rfl rfl rfl hl.1 rfl (Nat.le_of_ble_eq_true rfl) dX3_play_12 ⟨Nat.le_of_ble_eq_true rfl, Nat.le_of_ble_eq_true rfl⟩ (fun H locs hP hD hS => ?_)
  have hP : va_P g.1 vwCl ((wU u (ah 0) (a0 0) (at9 0)) ++ ((wH g ah h) ++ ((wT g at9 (sg, (nI n))) ++ ((wK0 g a0 ak ((nI (kOd od sz)), (nI (kSz sz)))) ++ (wHs g ak (va_up hs (kJ od sz) h) 6))))) _ := hP
  have hD : va_D A ((wU u (ah 0) (a0 0) (at9 0)) ++ ((wH g ah h) ++ ((wT g at9 (sg, (nI n))) ++ ((wK0 g a0 ak ((nI (kOd od sz)), (nI (kSz sz)))) ++ (wHs g ak (va_up hs (kJ od sz) h) 6))))) := hD
  refine lv_aload_n hx hb dX3_play_15 rfl (lv_at hl 0 rfl) ?_
  refine va_get (D := g.1) (ci := 3) (v := .ref (ah 0)) (C := RX3) (T := TX3) (N := 3) hx hb hts hiX3 hown hE.1 hP 0 rfl rfl 0 (by decide) f12 (fun _ h9 => h9) rfl dX3_play_16 ?_
  refine lv_iload_n hx hb dX3_play_19 rfl (lv_at hl 1 rfl) ?_
  refine k_top hk1e ?_
  refine k_Vi (As := [.int (nI k2)]) (r := (bc (Hget h k2 8))) hF (c_X1_perform l g ah h k2 (by omega)) (cwV 1 hts gX3_play_X1_perform rfl rfl rfl (by decide +kernel) ⟨Nat.le_of_ble_eq_true rfl, Nat.le_of_ble_eq_true rfl⟩) hE hP hD hS hA (pm_5_1 _ _ _ _ _) ((pm_5_1 _ _ _ _ _).symm) 1 rfl rfl rfl rfl hl.1 rfl (Nat.le_of_ble_eq_true rfl) dX3_play_20 ⟨Nat.le_of_ble_eq_true rfl, Nat.le_of_ble_eq_true rfl⟩ (fun H locs hP hD hS => ?_)
  have hP : va_P g.1 vwCl ((wU u (ah 0) (a0 0) (at9 0)) ++ ((wH g ah (Hperf k2 h)) ++ ((wT g at9 (sg, (nI n))) ++ ((wK0 g a0 ak ((nI (kOd od sz)), (nI (kSz sz)))) ++ (wHs g ak (va_up hs (kJ od sz) h) 6))))) _ := hP
  have hD : va_D A ((wU u (ah 0) (a0 0) (at9 0)) ++ ((wH g ah (Hperf k2 h)) ++ ((wT g at9 (sg, (nI n))) ++ ((wK0 g a0 ak ((nI (kOd od sz)), (nI (kSz sz)))) ++ (wHs g ak (va_up hs (kJ od sz) h) 6))))) := hD
  obtain ⟨z4, ez4⟩ : ∃ x : HSt, (Hperf k2 h) = x := ⟨_, rfl⟩
  rw [ez4] at hP hD
  have hcode : (ckC con) = 0 := hk1
  have e5 : (Hperf con.toNatClampNeg h) = z4 := (by subst ez4; first | (simp only [if_pos hk1, if_neg (not_not_intro hk1), hk1c]; done) | (simp only [if_pos hk1, if_neg (not_not_intro hk1), hk1c]; rfl) | rfl | (simp [if_pos hk1, if_neg (not_not_intro hk1), hk1c]; done))
  have e6 : (nI (kOd od sz), nI (kSz sz)) = ((nI (kOd od sz)), (nI (kSz sz))) := (by subst ez4; first | (simp only [if_pos hk1, if_neg (not_not_intro hk1), hk1c]; done) | (simp only [if_pos hk1, if_neg (not_not_intro hk1), hk1c]; rfl) | rfl | (simp [if_pos hk1, if_neg (not_not_intro hk1), hk1c]; done))
  have hP : va_P g.1 vwCl ((wU u (ah 0) (a0 0) (at9 0)) ++ ((wH g ah (Hperf con.toNatClampNeg h)) ++ ((wT g at9 (sg, (nI n))) ++ ((wK0 g a0 ak (nI (kOd od sz), nI (kSz sz))) ++ (wHs g ak (va_up hs (kJ od sz) h) 6))))) H := by rw [e5, e6]; exact hP
  have hD : va_D A ((wU u (ah 0) (a0 0) (at9 0)) ++ ((wH g ah (Hperf con.toNatClampNeg h)) ++ ((wT g at9 (sg, (nI n))) ++ ((wK0 g a0 ak (nI (kOd od sz), nI (kSz sz))) ++ (wHs g ak (va_up hs (kJ od sz) h) 6))))) := by rw [e5, e6]; exact hD
  exact k_xiret hx hb hr hlocks rfl hcode (by subst ez4; first | (simp only [bI, if_pos hk1, if_neg (not_not_intro hk1), hk1c]; done) | (simp only [bI, if_pos hk1, if_neg (not_not_intro hk1), hk1c]; rfl) | rfl | (simp [bI, if_pos hk1, if_neg (not_not_intro hk1), hk1c]; done)) hP hD hS (Nat.le_of_ble_eq_true rfl) (Nat.le_of_ble_eq_true rfl) dX3_play_23
set_option maxHeartbeats 4000000 in
set_option maxRecDepth 100000 in
theorem c_X3_pass (l : Launch) (hfl : l.stackTraces = false) (g : kG) (sa : Nat → Nat) (u : Nat) (ah at9 a0 : Nat → Nat) (ak : Nat → Nat → Nat) (h : HSt) (sg : Nat → Int32) (n : Nat) (hn : n ≤ 60) (hch : Tok sg n) (od sz : Nat) (hod : od < 6) (hsz : sz ≤ 6) (hs : Nat → HSt) (hbo : Hbo h) (hbs : ∀ j, Hbo (hs j)) (mins : Int32) : KXI l yX3_pass wsX3_pass ({ frames := 7, cells := 1, slots := 6, locals := 110 }) g sa [.ref u, .int mins] ((wU u (ah 0) (a0 0) (at9 0)) ++ ((wH g ah h) ++ ((wT g at9 (sg, (nI n))) ++ ((wK0 g a0 ak ((nI od), (nI sz))) ++ (wHs g ak hs 6))))) (ckM mins) EA (nI (HpassQ h mins.toNatClampNeg)) ((wU u (ah 0) (a0 0) (at9 0)) ++ ((wH g ah (HpassN h mins.toNatClampNeg)) ++ ((wT g at9 (sg, (nI n))) ++ ((wK0 g a0 ak (nI (kOd od sz), nI (kSz sz))) ++ (wHs g ak (va_up hs (kJ od sz) h) 6))))) 1 6 := by
  refine k_beginX (cc := cX3_pass) (maxL := 2) (ret := (some .int)) (Qc := fun A => kQxi g (ckM mins) (nI (HpassQ h mins.toNatClampNeg)) ((wU u (ah 0) (a0 0) (at9 0)) ++ ((wH g ah (HpassN h mins.toNatClampNeg)) ++ ((wT g at9 (sg, (nI n))) ++ ((wK0 g a0 ak (nI (kOd od sz), nI (kSz sz))) ++ (wHs g ak (va_up hs (kJ od sz) h) 6))))) A) (XC := fun A => kXx g (ckM mins) EA ((wU u (ah 0) (a0 0) (at9 0)) ++ ((wH g ah h) ++ ((wT g at9 (sg, (nI n))) ++ ((wK0 g a0 ak ((nI od), (nI sz))) ++ (wHs g ak hs 6))))) A) (by decide) rfl (Nat.le_of_ble_eq_true rfl) ?_
  intro p e s m below meth c A ls hF hr hlocks hT hE hSt hZ hP hD hS hA hl
  obtain ⟨hx, hb, hml, hown, hts⟩ := id hF
  have hown : s.vm.findClass RX3 = some m.cls := hown
  have hl : lv_has ls 2 [(0, .ref u), (1, .int mins)] := hl
  have hiX3 : ∀ w ∈ wsX30, w ∈ wsX3_pass := fun _ h => List.mem_cons_of_mem _ (List.mem_append_left _ (List.mem_append_left _ (List.mem_append_left _ (List.mem_append_right _ (h)))))
  have f19 : (Cond.fieldLink RX3 19 "ConcertUsher" "history" "LConcertUsher$History;").before _ s = true := hts _ (List.mem_of_getElem? (i := 1) rfl)
  have f12 : (Cond.fieldLink RX3 12 "ConcertUsher" "hall" "LConcertUsher$Hall;").before _ s = true := hts _ (List.mem_of_getElem? (i := 2) rfl)
  refine lv_iload_n hx hb dX3_pass_0 rfl (lv_at hl 1 rfl) ?_
  refine k_XSv (As := [.int mins]) (w0 := []) (wr := ((wU u (ah 0) (a0 0) (at9 0)) ++ ((wH g ah h) ++ ((wT g at9 (sg, (nI n))) ++ ((wK0 g a0 ak ((nI od), (nI sz))) ++ (wHs g ak hs 6)))))) hF (c_X3_checkMinutes l hfl g sa mins) (va_cwS 1 hts gX3_pass_X3_checkMinutes rfl rfl rfl (by decide +kernel) ⟨Nat.le_of_ble_eq_true rfl, Nat.le_of_ble_eq_true rfl⟩) hE hSt hZ hP hD hS hA (List.Perm.refl _) rfl hl.1 rfl (Nat.le_of_ble_eq_true rfl) dX3_pass_1 ⟨Nat.le_of_ble_eq_true rfl, Nat.le_of_ble_eq_true rfl⟩ hT hlocks (Nat.le_of_ble_eq_true rfl) (Nat.le_of_ble_eq_true rfl) (fun h9 => ⟨h9, rfl⟩) (fun H locs hk1 hP hD hS => ?_)
  obtain ⟨k2, hk3, hk1e⟩ := ckM_ok hk1
  have hk1c : mins.toNatClampNeg = k2 := cl_eq hk1e (by omega)
  refine lv_aload_n hx hb dX3_pass_4 rfl (lv_at hl 0 rfl) ?_
  refine va_get (D := g.1) (ci := 3) (v := .ref (a0 0)) (C := RX3) (T := TX3) (N := 3) hx hb hts hiX3 hown hE.1 hP 0 rfl rfl 1 (by decide) f19 (fun _ h9 => h9) rfl dX3_pass_5 ?_
  refine lv_aload_n hx hb dX3_pass_8 rfl (lv_at hl 0 rfl) ?_
  refine va_get (D := g.1) (ci := 3) (v := .ref (ah 0)) (C := RX3) (T := TX3) (N := 3) hx hb hts hiX3 hown hE.1 hP 0 rfl rfl 0 (by decide) f12 (fun _ h9 => h9) rfl dX3_pass_9 ?_
  refine k_Vv (As := [.ref (ah 0)]) hF (c_X2_keep l g a0 ak ah od sz (by omega) (by omega) hs h hbo) (cwV 1 hts gX3_pass_X2_keep rfl rfl rfl (by decide +kernel) ⟨Nat.le_of_ble_eq_true rfl, Nat.le_of_ble_eq_true rfl⟩) hE hP hD hS hA (pm_5_341 _ _ _ _ _) ((pm_5_341 _ _ _ _ _).symm) 7 rfl rfl rfl rfl hl.1 rfl (Nat.le_of_ble_eq_true rfl) dX3_pass_12 ⟨Nat.le_of_ble_eq_true rfl, Nat.le_of_ble_eq_true rfl⟩ (fun H locs hP hD hS => ?_)
  have hP : va_P g.1 vwCl ((wU u (ah 0) (a0 0) (at9 0)) ++ ((wH g ah h) ++ ((wT g at9 (sg, (nI n))) ++ ((wK0 g a0 ak ((nI (kOd od sz)), (nI (kSz sz)))) ++ (wHs g ak (va_up hs (kJ od sz) h) 6))))) _ := hP
  have hD : va_D A ((wU u (ah 0) (a0 0) (at9 0)) ++ ((wH g ah h) ++ ((wT g at9 (sg, (nI n))) ++ ((wK0 g a0 ak ((nI (kOd od sz)), (nI (kSz sz)))) ++ (wHs g ak (va_up hs (kJ od sz) h) 6))))) := hD
  refine lv_aload_n hx hb dX3_pass_15 rfl (lv_at hl 0 rfl) ?_
  refine va_get (D := g.1) (ci := 3) (v := .ref (ah 0)) (C := RX3) (T := TX3) (N := 3) hx hb hts hiX3 hown hE.1 hP 0 rfl rfl 0 (by decide) f12 (fun _ h9 => h9) rfl dX3_pass_16 ?_
  refine lv_iload_n hx hb dX3_pass_19 rfl (lv_at hl 1 rfl) ?_
  refine k_top hk1e ?_
  refine k_Vi (As := [.int (nI k2)]) (r := (nI (HpassQ h k2))) hF (c_X1_letPass l g ah h k2 (by omega)) (cwV 1 hts gX3_pass_X1_letPass rfl rfl rfl (by decide +kernel) ⟨Nat.le_of_ble_eq_true rfl, Nat.le_of_ble_eq_true rfl⟩) hE hP hD hS hA (pm_5_1 _ _ _ _ _) ((pm_5_1 _ _ _ _ _).symm) 1 rfl rfl rfl rfl hl.1 rfl (Nat.le_of_ble_eq_true rfl) dX3_pass_20 ⟨Nat.le_of_ble_eq_true rfl, Nat.le_of_ble_eq_true rfl⟩ (fun H locs hP hD hS => ?_)
  have hP : va_P g.1 vwCl ((wU u (ah 0) (a0 0) (at9 0)) ++ ((wH g ah (HpassN h k2)) ++ ((wT g at9 (sg, (nI n))) ++ ((wK0 g a0 ak ((nI (kOd od sz)), (nI (kSz sz)))) ++ (wHs g ak (va_up hs (kJ od sz) h) 6))))) _ := hP
  have hD : va_D A ((wU u (ah 0) (a0 0) (at9 0)) ++ ((wH g ah (HpassN h k2)) ++ ((wT g at9 (sg, (nI n))) ++ ((wK0 g a0 ak ((nI (kOd od sz)), (nI (kSz sz)))) ++ (wHs g ak (va_up hs (kJ od sz) h) 6))))) := hD
  obtain ⟨z4, ez4⟩ : ∃ x : HSt, (HpassN h k2) = x := ⟨_, rfl⟩
  rw [ez4] at hP hD
  have hcode : (ckM mins) = 0 := hk1
  have e5 : (HpassN h mins.toNatClampNeg) = z4 := (by subst ez4; first | (simp only [if_pos hk1, if_neg (not_not_intro hk1), hk1c]; done) | (simp only [if_pos hk1, if_neg (not_not_intro hk1), hk1c]; rfl) | rfl | (simp [if_pos hk1, if_neg (not_not_intro hk1), hk1c]; done))
  have e6 : (nI (kOd od sz), nI (kSz sz)) = ((nI (kOd od sz)), (nI (kSz sz))) := (by subst ez4; first | (simp only [if_pos hk1, if_neg (not_not_intro hk1), hk1c]; done) | (simp only [if_pos hk1, if_neg (not_not_intro hk1), hk1c]; rfl) | rfl | (simp [if_pos hk1, if_neg (not_not_intro hk1), hk1c]; done))
  have hP : va_P g.1 vwCl ((wU u (ah 0) (a0 0) (at9 0)) ++ ((wH g ah (HpassN h mins.toNatClampNeg)) ++ ((wT g at9 (sg, (nI n))) ++ ((wK0 g a0 ak (nI (kOd od sz), nI (kSz sz))) ++ (wHs g ak (va_up hs (kJ od sz) h) 6))))) H := by rw [e5, e6]; exact hP
  have hD : va_D A ((wU u (ah 0) (a0 0) (at9 0)) ++ ((wH g ah (HpassN h mins.toNatClampNeg)) ++ ((wT g at9 (sg, (nI n))) ++ ((wK0 g a0 ak (nI (kOd od sz), nI (kSz sz))) ++ (wHs g ak (va_up hs (kJ od sz) h) 6))))) := by rw [e5, e6]; exact hD
  exact k_xiret hx hb hr hlocks rfl hcode (by subst ez4; first | (simp only [bI, if_pos hk1, if_neg (not_not_intro hk1), hk1c]; done) | (simp only [bI, if_pos hk1, if_neg (not_not_intro hk1), hk1c]; rfl) | rfl | (simp [bI, if_pos hk1, if_neg (not_not_intro hk1), hk1c]; done)) hP hD hS (Nat.le_of_ble_eq_true rfl) (Nat.le_of_ble_eq_true rfl) dX3_pass_23
