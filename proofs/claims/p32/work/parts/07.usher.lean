/-! the usher in runs that throw nothing -/
theorem pm_5_1 {α : Type} (b0 b1 b2 b3 b4 : List α) : ((b0 ++ (b1 ++ (b2 ++ (b3 ++ b4))))).Perm (b1 ++ (b0 ++ (b2 ++ (b3 ++ b4)))) := by
  classical exact List.perm_iff_count.mpr (fun x => by simp only [List.count_append]; omega)
theorem pm_5_341 {α : Type} (b0 b1 b2 b3 b4 : List α) : ((b0 ++ (b1 ++ (b2 ++ (b3 ++ b4))))).Perm ((b3 ++ (b4 ++ b1)) ++ (b0 ++ b2)) := by
  classical exact List.perm_iff_count.mpr (fun x => by simp only [List.count_append]; omega)
set_option maxHeartbeats 4000000 in
set_option maxRecDepth 100000 in
theorem c_X3_isRow (l : Launch) (g : kG) (x : Int32) : KI l yX3_isRow wsX3_isRow ({ frames := 0, cells := 0, slots := 0, locals := 0 }) g [.int x] [] (bI (ckR x = 0)) [] 0 0 := by
  refine k_begin (cc := cX3_isRow) (maxL := 1) (ret := (some .boolean)) (Qc := fun A => kQi g (bI (ckR x = 0)) [] A) (by decide) rfl (Nat.le_of_ble_eq_true rfl) ?_
  intro p e s m below meth c A ls hF hr hlocks hin hE hP hD hS hA hl
  obtain ⟨hx, hb, hml, hown, hts⟩ := id hF
  have hown : s.vm.findClass RX3 = some m.cls := hown
  have hl : lv_has ls 1 [(0, .int x)] := hl
  refine lv_iload_n hx hb dX3_isRow_0 rfl (lv_at hl 0 rfl) ?_
  refine lv_if_lt (tgt := 14) hx hb dX3_isRow_1 (by decide) (fun c1 => ?_) (fun c1 => ?_)
  ·
    refine lv_iconst (v := (nI 0)) hx hb dX3_isRow_14 (by decide) ?_
    have hP : va_P g.1 vwCl [] _ := hP
    have hD : va_D A [] := hD
    exact k_iret hx hb hr hlocks rfl (ckR_n1 c1) hP hD hS (Nat.le_of_ble_eq_true rfl) (Nat.le_of_ble_eq_true rfl) dX3_isRow_15
  ·
    refine lv_iload_n hx hb dX3_isRow_4 rfl (lv_at hl 0 rfl) ?_
    refine lv_bipush (v := (nI 8)) hx hb dX3_isRow_5 (by decide) ?_
    refine lv_icmp_ge (tgt := 14) hx hb dX3_isRow_7 (by decide) (fun c2 => ?_) (fun c2 => ?_)
    ·
      refine lv_iconst (v := (nI 0)) hx hb dX3_isRow_14 (by decide) ?_
      have hP : va_P g.1 vwCl [] _ := hP
      have hD : va_D A [] := hD
      exact k_iret hx hb hr hlocks rfl (ckR_n2 c1 c2) hP hD hS (Nat.le_of_ble_eq_true rfl) (Nat.le_of_ble_eq_true rfl) dX3_isRow_15
    ·
      refine lv_iconst (v := (nI 1)) hx hb dX3_isRow_10 (by decide) ?_
      refine lv_goto (tgt := 15) hx hb dX3_isRow_11 (by decide) ?_
      have hP : va_P g.1 vwCl [] _ := hP
      have hD : va_D A [] := hD
      exact k_iret hx hb hr hlocks rfl (ckR_y c1 c2) hP hD hS (Nat.le_of_ble_eq_true rfl) (Nat.le_of_ble_eq_true rfl) dX3_isRow_15
set_option maxHeartbeats 4000000 in
set_option maxRecDepth 100000 in
theorem c_X3_isConcert (l : Launch) (g : kG) (x : Int32) : KI l yX3_isConcert wsX3_isConcert ({ frames := 0, cells := 0, slots := 0, locals := 0 }) g [.int x] [] (bI (ckC x = 0)) [] 0 0 := by
  refine k_begin (cc := cX3_isConcert) (maxL := 1) (ret := (some .boolean)) (Qc := fun A => kQi g (bI (ckC x = 0)) [] A) (by decide) rfl (Nat.le_of_ble_eq_true rfl) ?_
  intro p e s m below meth c A ls hF hr hlocks hin hE hP hD hS hA hl
  obtain ⟨hx, hb, hml, hown, hts⟩ := id hF
  have hown : s.vm.findClass RX3 = some m.cls := hown
  have hl : lv_has ls 1 [(0, .int x)] := hl
  refine lv_iload_n hx hb dX3_isConcert_0 rfl (lv_at hl 0 rfl) ?_
  refine lv_if_lt (tgt := 14) hx hb dX3_isConcert_1 (by decide) (fun c1 => ?_) (fun c1 => ?_)
  ·
    refine lv_iconst (v := (nI 0)) hx hb dX3_isConcert_14 (by decide) ?_
    have hP : va_P g.1 vwCl [] _ := hP
    have hD : va_D A [] := hD
    exact k_iret hx hb hr hlocks rfl (ckC_n1 c1) hP hD hS (Nat.le_of_ble_eq_true rfl) (Nat.le_of_ble_eq_true rfl) dX3_isConcert_15
  ·
    refine lv_iload_n hx hb dX3_isConcert_4 rfl (lv_at hl 0 rfl) ?_
    refine lv_bipush (v := (nI 6)) hx hb dX3_isConcert_5 (by decide) ?_
    refine lv_icmp_ge (tgt := 14) hx hb dX3_isConcert_7 (by decide) (fun c2 => ?_) (fun c2 => ?_)
    ·
      refine lv_iconst (v := (nI 0)) hx hb dX3_isConcert_14 (by decide) ?_
      have hP : va_P g.1 vwCl [] _ := hP
      have hD : va_D A [] := hD
      exact k_iret hx hb hr hlocks rfl (ckC_n2 c1 c2) hP hD hS (Nat.le_of_ble_eq_true rfl) (Nat.le_of_ble_eq_true rfl) dX3_isConcert_15
    ·
      refine lv_iconst (v := (nI 1)) hx hb dX3_isConcert_10 (by decide) ?_
      refine lv_goto (tgt := 15) hx hb dX3_isConcert_11 (by decide) ?_
      have hP : va_P g.1 vwCl [] _ := hP
      have hD : va_D A [] := hD
      exact k_iret hx hb hr hlocks rfl (ckC_y c1 c2) hP hD hS (Nat.le_of_ble_eq_true rfl) (Nat.le_of_ble_eq_true rfl) dX3_isConcert_15
set_option maxHeartbeats 4000000 in
set_option maxRecDepth 100000 in
theorem c_X3_checkRow (l : Launch) (g : kG) (k : Nat) (hk : k < 8) : KV l yX3_checkRow wsX3_checkRow ({ frames := 1, cells := 0, slots := 0, locals := 20 }) g [.int (nI k)] [] [] 0 0 := by
  refine k_begin (cc := cX3_checkRow) (maxL := 1) (ret := none) (Qc := fun A => kQv g [] A) (by decide) rfl (Nat.le_of_ble_eq_true rfl) ?_
  intro p e s m below meth c A ls hF hr hlocks hin hE hP hD hS hA hl
  obtain ⟨hx, hb, hml, hown, hts⟩ := id hF
  have hown : s.vm.findClass RX3 = some m.cls := hown
  have hl : lv_has ls 1 [(0, .int (nI k))] := hl
  refine lv_iload_n hx hb dX3_checkRow_0 rfl (lv_at hl 0 rfl) ?_
  refine k_Si (w0 := []) (w1 := []) (As := [.int (nI k)]) (r := (bI (ckR (nI k) = 0))) hF (c_X3_isRow l g (nI k)) (va_cwS 1 hts gX3_checkRow_X3_isRow rfl rfl rfl (by decide +kernel) ⟨Nat.le_of_ble_eq_true rfl, Nat.le_of_ble_eq_true rfl⟩) hE hP hD hS hA (List.Perm.refl _) (List.Perm.refl _) rfl hl.1 rfl (Nat.le_of_ble_eq_true rfl) dX3_checkRow_1 ⟨Nat.le_of_ble_eq_true rfl, Nat.le_of_ble_eq_true rfl⟩ (fun H locs hP hD hS => ?_)
  have hP : va_P g.1 vwCl [] _ := hP
  have hD : va_D A [] := hD
  refine k_ifneB (tgt := 17) hx hb dX3_checkRow_4 (by decide) (fun c1 => ?_) (fun c1 => ?_)
  ·
    have hP : va_P g.1 vwCl [] _ := hP
    have hD : va_D A [] := hD
    exact k_vret hx hb hr hlocks hP hD hS (Nat.le_of_ble_eq_true rfl) (Nat.le_of_ble_eq_true rfl) dX3_checkRow_17
  ·
    exact absurd (ckR_in hk) c1
set_option maxHeartbeats 4000000 in
set_option maxRecDepth 100000 in
theorem c_X3_checkConcert (l : Launch) (g : kG) (k : Nat) (hk : k < 6) : KV l yX3_checkConcert wsX3_checkConcert ({ frames := 1, cells := 0, slots := 0, locals := 20 }) g [.int (nI k)] [] [] 0 0 := by
  refine k_begin (cc := cX3_checkConcert) (maxL := 1) (ret := none) (Qc := fun A => kQv g [] A) (by decide) rfl (Nat.le_of_ble_eq_true rfl) ?_
  intro p e s m below meth c A ls hF hr hlocks hin hE hP hD hS hA hl
  obtain ⟨hx, hb, hml, hown, hts⟩ := id hF
  have hown : s.vm.findClass RX3 = some m.cls := hown
  have hl : lv_has ls 1 [(0, .int (nI k))] := hl
  refine lv_iload_n hx hb dX3_checkConcert_0 rfl (lv_at hl 0 rfl) ?_
  refine k_Si (w0 := []) (w1 := []) (As := [.int (nI k)]) (r := (bI (ckC (nI k) = 0))) hF (c_X3_isConcert l g (nI k)) (va_cwS 1 hts gX3_checkConcert_X3_isConcert rfl rfl rfl (by decide +kernel) ⟨Nat.le_of_ble_eq_true rfl, Nat.le_of_ble_eq_true rfl⟩) hE hP hD hS hA (List.Perm.refl _) (List.Perm.refl _) rfl hl.1 rfl (Nat.le_of_ble_eq_true rfl) dX3_checkConcert_1 ⟨Nat.le_of_ble_eq_true rfl, Nat.le_of_ble_eq_true rfl⟩ (fun H locs hP hD hS => ?_)
  have hP : va_P g.1 vwCl [] _ := hP
  have hD : va_D A [] := hD
  refine k_ifneB (tgt := 17) hx hb dX3_checkConcert_4 (by decide) (fun c1 => ?_) (fun c1 => ?_)
  ·
    have hP : va_P g.1 vwCl [] _ := hP
    have hD : va_D A [] := hD
    exact k_vret hx hb hr hlocks hP hD hS (Nat.le_of_ble_eq_true rfl) (Nat.le_of_ble_eq_true rfl) dX3_checkConcert_17
  ·
    exact absurd (ckC_in hk) c1
set_option maxHeartbeats 4000000 in
set_option maxRecDepth 100000 in
theorem c_X3_checkMinutes (l : Launch) (g : kG) (k : Nat) (h1 : 1 ≤ k) (hk : k ≤ 60) : KV l yX3_checkMinutes wsX3_checkMinutes ({ frames := 0, cells := 0, slots := 0, locals := 0 }) g [.int (nI k)] [] [] 0 0 := by
  refine k_begin (cc := cX3_checkMinutes) (maxL := 1) (ret := none) (Qc := fun A => kQv g [] A) (by decide) rfl (Nat.le_of_ble_eq_true rfl) ?_
  intro p e s m below meth c A ls hF hr hlocks hin hE hP hD hS hA hl
  obtain ⟨hx, hb, hml, hown, hts⟩ := id hF
  have hown : s.vm.findClass RX3 = some m.cls := hown
  have hl : lv_has ls 1 [(0, .int (nI k))] := hl
  refine lv_iload_n hx hb dX3_checkMinutes_0 rfl (lv_at hl 0 rfl) ?_
  refine lv_iconst (v := (nI 1)) hx hb dX3_checkMinutes_1 (by decide) ?_
  refine k_ltN (tgt := 11) hx hb (by omega) (by decide) dX3_checkMinutes_2 (by decide) (fun c1 => ?_) (fun c1 => ?_)
  ·
    exact absurd c1 (by omega)
  ·
    refine lv_iload_n hx hb dX3_checkMinutes_5 rfl (lv_at hl 0 rfl) ?_
    refine lv_bipush (v := (nI 60)) hx hb dX3_checkMinutes_6 (by decide) ?_
    refine k_leN (tgt := 21) hx hb (by omega) (by decide) dX3_checkMinutes_8 (by decide) (fun c2 => ?_) (fun c2 => ?_)
    ·
      have hP : va_P g.1 vwCl [] _ := hP
      have hD : va_D A [] := hD
      exact k_vret hx hb hr hlocks hP hD hS (Nat.le_of_ble_eq_true rfl) (Nat.le_of_ble_eq_true rfl) dX3_checkMinutes_21
    ·
      exact absurd c2 (by omega)
set_option maxHeartbeats 4000000 in
set_option maxRecDepth 100000 in
theorem c_X3_come (l : Launch) (g : kG) (u : Nat) (ah at9 a0 : Nat → Nat) (ak : Nat → Nat → Nat) (h : HSt) (sg : Nat → Int32) (n od sz : Nat) (hs : Nat → HSt) (hod : od < 6) (sz5 : sz ≤ 5) (hbo : Hbo h) (r9 c9 : Nat) (hr9 : r9 < 8) (hc9 : c9 < 6) (h9 : ¬ nI 9 ≤ (hL h) (r9 * 6 + c9)) : KI l yX3_come wsX3_come ({ frames := 3, cells := 0, slots := 0, locals := 102 }) g [.ref u, .int (nI r9), .int (nI c9)] ((wU u (ah 0) (a0 0) (at9 0)) ++ ((wH g ah h) ++ ((wT g at9 (sg, (nI n))) ++ ((wK0 g a0 ak ((nI od), (nI sz))) ++ (wHs g ak hs 6))))) (hL (Hseat (r9 * 6 + c9) h) (r9 * 6 + c9)) ((wU u (ah 0) (a0 0) (at9 0)) ++ ((wH g ah (Hseat (r9 * 6 + c9) h)) ++ ((wT g at9 (sg, (nI n))) ++ ((wK0 g a0 ak (nI od, nI (sz + 1))) ++ (wHs g ak (va_up hs ((od + sz) % 6) h) 6))))) 0 0 := by
  refine k_begin (cc := cX3_come) (maxL := 4) (ret := (some .int)) (Qc := fun A => kQi g (hL (Hseat (r9 * 6 + c9) h) (r9 * 6 + c9)) ((wU u (ah 0) (a0 0) (at9 0)) ++ ((wH g ah (Hseat (r9 * 6 + c9) h)) ++ ((wT g at9 (sg, (nI n))) ++ ((wK0 g a0 ak (nI od, nI (sz + 1))) ++ (wHs g ak (va_up hs ((od + sz) % 6) h) 6))))) A) (by decide) rfl (Nat.le_of_ble_eq_true rfl) ?_
  intro p e s m below meth c A ls hF hr hlocks hin hE hP hD hS hA hl
  obtain ⟨hx, hb, hml, hown, hts⟩ := id hF
  have hown : s.vm.findClass RX3 = some m.cls := hown
  have hl : lv_has ls 4 [(0, .ref u), (1, .int (nI r9)), (2, .int (nI c9))] := hl
  have hiX3 : ∀ w ∈ wsX30, w ∈ wsX3_come := fun _ h => List.mem_cons_of_mem _ (List.mem_append_left _ (List.mem_append_left _ (List.mem_append_left _ (List.mem_append_left _ (List.mem_append_right _ (h))))))
  have hiX1 : ∀ w ∈ wsX10, w ∈ wsX3_come := fun _ h => List.mem_cons_of_mem _ (List.mem_append_left _ (List.mem_append_left _ (List.mem_append_left _ (List.mem_append_right _ (h)))))
  have f12 : (Cond.fieldLink RX3 12 "ConcertUsher" "hall" "LConcertUsher$Hall;").before _ s = true := hts _ (List.mem_of_getElem? (i := 3) rfl)
  have f19 : (Cond.fieldLink RX3 19 "ConcertUsher" "history" "LConcertUsher$History;").before _ s = true := hts _ (List.mem_of_getElem? (i := 4) rfl)
  have f59 : (Cond.fieldLink RX3 59 "ConcertUsher$Hall" "listeners" "[I").before _ s = true := hts _ (List.mem_of_getElem? (i := 5) rfl)
  refine lv_iload_n hx hb dX3_come_0 rfl (lv_at hl 1 rfl) ?_
  refine k_Sv (w0 := []) (w1 := []) (As := [.int (nI r9)]) hF (c_X3_checkRow l g r9 (by omega)) (va_cwS 1 hts gX3_come_X3_checkRow rfl rfl rfl (by decide +kernel) ⟨Nat.le_of_ble_eq_true rfl, Nat.le_of_ble_eq_true rfl⟩) hE hP hD hS hA (List.Perm.refl _) (List.Perm.refl _) rfl hl.1 rfl (Nat.le_of_ble_eq_true rfl) dX3_come_1 ⟨Nat.le_of_ble_eq_true rfl, Nat.le_of_ble_eq_true rfl⟩ (fun H locs hP hD hS => ?_)
  have hP : va_P g.1 vwCl ((wU u (ah 0) (a0 0) (at9 0)) ++ ((wH g ah h) ++ ((wT g at9 (sg, (nI n))) ++ ((wK0 g a0 ak ((nI od), (nI sz))) ++ (wHs g ak hs 6))))) _ := hP
  have hD : va_D A ((wU u (ah 0) (a0 0) (at9 0)) ++ ((wH g ah h) ++ ((wT g at9 (sg, (nI n))) ++ ((wK0 g a0 ak ((nI od), (nI sz))) ++ (wHs g ak hs 6))))) := hD
  refine lv_iload_n hx hb dX3_come_4 rfl (lv_at hl 2 rfl) ?_
  refine k_Sv (w0 := []) (w1 := []) (As := [.int (nI c9)]) hF (c_X3_checkConcert l g c9 (by omega)) (va_cwS 1 hts gX3_come_X3_checkConcert rfl rfl rfl (by decide +kernel) ⟨Nat.le_of_ble_eq_true rfl, Nat.le_of_ble_eq_true rfl⟩) hE hP hD hS hA (List.Perm.refl _) (List.Perm.refl _) rfl hl.1 rfl (Nat.le_of_ble_eq_true rfl) dX3_come_5 ⟨Nat.le_of_ble_eq_true rfl, Nat.le_of_ble_eq_true rfl⟩ (fun H locs hP hD hS => ?_)
  have hP : va_P g.1 vwCl ((wU u (ah 0) (a0 0) (at9 0)) ++ ((wH g ah h) ++ ((wT g at9 (sg, (nI n))) ++ ((wK0 g a0 ak ((nI od), (nI sz))) ++ (wHs g ak hs 6))))) _ := hP
  have hD : va_D A ((wU u (ah 0) (a0 0) (at9 0)) ++ ((wH g ah h) ++ ((wT g at9 (sg, (nI n))) ++ ((wK0 g a0 ak ((nI od), (nI sz))) ++ (wHs g ak hs 6))))) := hD
  refine lv_iload_n hx hb dX3_come_8 rfl (lv_at hl 1 rfl) ?_
  refine lv_iload_n hx hb dX3_come_9 rfl (lv_at hl 2 rfl) ?_
  refine k_Si (w0 := []) (w1 := []) (As := [.int (nI r9), .int (nI c9)]) (r := (nI (r9 * 6 + c9))) hF (c_X3_placeOf l g r9 c9) (va_cwS 2 hts gX3_come_X3_placeOf rfl rfl rfl (by decide +kernel) ⟨Nat.le_of_ble_eq_true rfl, Nat.le_of_ble_eq_true rfl⟩) hE hP hD hS hA (List.Perm.refl _) (List.Perm.refl _) rfl hl.1 rfl (Nat.le_of_ble_eq_true rfl) dX3_come_10 ⟨Nat.le_of_ble_eq_true rfl, Nat.le_of_ble_eq_true rfl⟩ (fun H locs hP hD hS => ?_)
  have hP : va_P g.1 vwCl ((wU u (ah 0) (a0 0) (at9 0)) ++ ((wH g ah h) ++ ((wT g at9 (sg, (nI n))) ++ ((wK0 g a0 ak ((nI od), (nI sz))) ++ (wHs g ak hs 6))))) _ := hP
  have hD : va_D A ((wU u (ah 0) (a0 0) (at9 0)) ++ ((wH g ah h) ++ ((wT g at9 (sg, (nI n))) ++ ((wK0 g a0 ak ((nI od), (nI sz))) ++ (wHs g ak hs 6))))) := hD
  refine lv_istore_n (lv' := [(3, .int (nI (r9 * 6 + c9))), (0, .ref u), (1, .int (nI r9)), (2, .int (nI c9))]) hx hb dX3_come_13 rfl hl (by decide) rfl (fun ls hl => ?_)
  refine lv_aload_n hx hb dX3_come_14 rfl (lv_at hl 1 rfl) ?_
  refine va_get (D := g.1) (ci := 3) (v := .ref (ah 0)) (C := RX3) (T := TX3) (N := 3) hx hb hts hiX3 hown hE.1 hP 0 rfl rfl 0 (by decide) f12 (fun _ h9 => h9) rfl dX3_come_15 ?_
  refine lv_iload_n hx hb dX3_come_18 rfl (lv_at hl 0 rfl) ?_
  refine k_Vi (As := [.int (nI (r9 * 6 + c9))]) (r := (bI (¬ nI 9 ≤ ((hL h) (r9 * 6 + c9))))) hF (c_X1_hasRoom l g ah h (r9 * 6 + c9) (by omega)) (cwV 1 hts gX3_come_X1_hasRoom rfl rfl rfl (by decide +kernel) ⟨Nat.le_of_ble_eq_true rfl, Nat.le_of_ble_eq_true rfl⟩) hE hP hD hS hA (pm_5_1 _ _ _ _ _) ((pm_5_1 _ _ _ _ _).symm) 1 rfl rfl rfl rfl hl.1 rfl (Nat.le_of_ble_eq_true rfl) dX3_come_19 ⟨Nat.le_of_ble_eq_true rfl, Nat.le_of_ble_eq_true rfl⟩ (fun H locs hP hD hS => ?_)
  have hP : va_P g.1 vwCl ((wU u (ah 0) (a0 0) (at9 0)) ++ ((wH g ah h) ++ ((wT g at9 (sg, (nI n))) ++ ((wK0 g a0 ak ((nI od), (nI sz))) ++ (wHs g ak hs 6))))) _ := hP
  have hD : va_D A ((wU u (ah 0) (a0 0) (at9 0)) ++ ((wH g ah h) ++ ((wT g at9 (sg, (nI n))) ++ ((wK0 g a0 ak ((nI od), (nI sz))) ++ (wHs g ak hs 6))))) := hD
  refine k_ifneB (tgt := 35) hx hb dX3_come_22 (by decide) (fun c1 => ?_) (fun c1 => ?_)
  ·
    refine lv_aload_n hx hb dX3_come_35 rfl (lv_at hl 1 rfl) ?_
    refine va_get (D := g.1) (ci := 3) (v := .ref (a0 0)) (C := RX3) (T := TX3) (N := 3) hx hb hts hiX3 hown hE.1 hP 0 rfl rfl 1 (by decide) f19 (fun _ h9 => h9) rfl dX3_come_36 ?_
    refine lv_aload_n hx hb dX3_come_39 rfl (lv_at hl 1 rfl) ?_
    refine va_get (D := g.1) (ci := 3) (v := .ref (ah 0)) (C := RX3) (T := TX3) (N := 3) hx hb hts hiX3 hown hE.1 hP 0 rfl rfl 0 (by decide) f12 (fun _ h9 => h9) rfl dX3_come_40 ?_
    refine k_Vv (As := [.ref (ah 0)]) hF (c_X2_keep l g a0 ak ah od sz (by omega) (by omega) hs h hbo) (cwV 1 hts gX3_come_X2_keep rfl rfl rfl (by decide +kernel) ⟨Nat.le_of_ble_eq_true rfl, Nat.le_of_ble_eq_true rfl⟩) hE hP hD hS hA (pm_5_341 _ _ _ _ _) ((pm_5_341 _ _ _ _ _).symm) 7 rfl rfl rfl rfl hl.1 rfl (Nat.le_of_ble_eq_true rfl) dX3_come_43 ⟨Nat.le_of_ble_eq_true rfl, Nat.le_of_ble_eq_true rfl⟩ (fun H locs hP hD hS => ?_)
    have hP : va_P g.1 vwCl ((wU u (ah 0) (a0 0) (at9 0)) ++ ((wH g ah h) ++ ((wT g at9 (sg, (nI n))) ++ ((wK0 g a0 ak ((nI (kOd od sz)), (nI (kSz sz)))) ++ (wHs g ak (va_up hs (kJ od sz) h) 6))))) _ := hP
    have hD : va_D A ((wU u (ah 0) (a0 0) (at9 0)) ++ ((wH g ah h) ++ ((wT g at9 (sg, (nI n))) ++ ((wK0 g a0 ak ((nI (kOd od sz)), (nI (kSz sz)))) ++ (wHs g ak (va_up hs (kJ od sz) h) 6))))) := hD
    rw [kOd5 sz5, kSz5 sz5, kJ5 sz5] at hP hD
    refine lv_aload_n hx hb dX3_come_46 rfl (lv_at hl 1 rfl) ?_
    refine va_get (D := g.1) (ci := 3) (v := .ref (ah 0)) (C := RX3) (T := TX3) (N := 3) hx hb hts hiX3 hown hE.1 hP 0 rfl rfl 0 (by decide) f12 (fun _ h9 => h9) rfl dX3_come_47 ?_
    refine lv_iload_n hx hb dX3_come_50 rfl (lv_at hl 0 rfl) ?_
    refine k_Vv (As := [.int (nI (r9 * 6 + c9))]) hF (c_X1_seat l g ah h (r9 * 6 + c9) (by omega)) (cwV 1 hts gX3_come_X1_seat rfl rfl rfl (by decide +kernel) ⟨Nat.le_of_ble_eq_true rfl, Nat.le_of_ble_eq_true rfl⟩) hE hP hD hS hA (pm_5_1 _ _ _ _ _) ((pm_5_1 _ _ _ _ _).symm) 1 rfl rfl rfl rfl hl.1 rfl (Nat.le_of_ble_eq_true rfl) dX3_come_51 ⟨Nat.le_of_ble_eq_true rfl, Nat.le_of_ble_eq_true rfl⟩ (fun H locs hP hD hS => ?_)
    have hP : va_P g.1 vwCl ((wU u (ah 0) (a0 0) (at9 0)) ++ ((wH g ah (Hseat (r9 * 6 + c9) h)) ++ ((wT g at9 (sg, (nI n))) ++ ((wK0 g a0 ak ((nI od), (nI (sz + 1)))) ++ (wHs g ak (va_up hs ((od + sz) % 6) h) 6))))) _ := hP
    have hD : va_D A ((wU u (ah 0) (a0 0) (at9 0)) ++ ((wH g ah (Hseat (r9 * 6 + c9) h)) ++ ((wT g at9 (sg, (nI n))) ++ ((wK0 g a0 ak ((nI od), (nI (sz + 1)))) ++ (wHs g ak (va_up hs ((od + sz) % 6) h) 6))))) := hD
    obtain ⟨z2, ez2⟩ : ∃ x : HSt, (Hseat (r9 * 6 + c9) h) = x := ⟨_, rfl⟩
    rw [ez2] at hP hD
    refine lv_aload_n hx hb dX3_come_54 rfl (lv_at hl 1 rfl) ?_
    refine va_get (D := g.1) (ci := 3) (v := .ref (ah 0)) (C := RX3) (T := TX3) (N := 3) hx hb hts hiX3 hown hE.1 hP 0 rfl rfl 0 (by decide) f12 (fun _ h9 => h9) rfl dX3_come_55 ?_
    refine va_get (D := g.1) (ci := 1) (v := .ref (ah 1)) (C := RX1) (T := TX1) (N := 12) hx hb hts hiX1 hown hE.1 hP 1 rfl rfl 0 (by decide) f59 (fun _ h9 => h9) rfl dX3_come_58 ?_
    refine lv_iload_n hx hb dX3_come_61 rfl (lv_at hl 0 rfl) ?_
    refine k_iald (f := (hL z2)) hx hb hE hP 2 rfl (r9 * 6 + c9) rfl (by omega) (by decide) dX3_come_62 ?_
    have e3 : (Hseat (r9 * 6 + c9) h) = z2 := (by subst ez2; first | (simp only [if_pos c1, if_neg (not_not_intro c1)]; done) | (simp only [if_pos c1, if_neg (not_not_intro c1)]; rfl) | rfl | (simp [if_pos c1, if_neg (not_not_intro c1)]; done))
    have e4 : (nI od, nI (sz + 1)) = ((nI od), (nI (sz + 1))) := (by subst ez2; first | (simp only [if_pos c1, if_neg (not_not_intro c1)]; done) | (simp only [if_pos c1, if_neg (not_not_intro c1)]; rfl) | rfl | (simp [if_pos c1, if_neg (not_not_intro c1)]; done))
    have hP : va_P g.1 vwCl ((wU u (ah 0) (a0 0) (at9 0)) ++ ((wH g ah (Hseat (r9 * 6 + c9) h)) ++ ((wT g at9 (sg, (nI n))) ++ ((wK0 g a0 ak (nI od, nI (sz + 1))) ++ (wHs g ak (va_up hs ((od + sz) % 6) h) 6))))) H := by rw [e3, e4]; exact hP
    have hD : va_D A ((wU u (ah 0) (a0 0) (at9 0)) ++ ((wH g ah (Hseat (r9 * 6 + c9) h)) ++ ((wT g at9 (sg, (nI n))) ++ ((wK0 g a0 ak (nI od, nI (sz + 1))) ++ (wHs g ak (va_up hs ((od + sz) % 6) h) 6))))) := by rw [e3, e4]; exact hD
    exact k_iret hx hb hr hlocks rfl (by subst ez2; first | (simp only [bI, if_pos c1, if_neg (not_not_intro c1)]; done) | (simp only [bI, if_pos c1, if_neg (not_not_intro c1)]; rfl) | rfl | (simp [bI, if_pos c1, if_neg (not_not_intro c1)]; done)) hP hD hS (Nat.le_of_ble_eq_true rfl) (Nat.le_of_ble_eq_true rfl) dX3_come_63
  ·
    exact absurd h9 c1
set_option maxHeartbeats 4000000 in
set_option maxRecDepth 100000 in
theorem c_X3_leave (l : Launch) (g : kG) (u : Nat) (ah at9 a0 : Nat → Nat) (ak : Nat → Nat → Nat) (h : HSt) (sg : Nat → Int32) (n od sz : Nat) (hs : Nat → HSt) (hod : od < 6) (sz5 : sz ≤ 5) (hbo : Hbo h) (r9 c9 : Nat) (hr9 : r9 < 8) (hc9 : c9 < 6) (b : Nat) (hb2 : b < 2) (h9 : ¬ (hL h) (r9 * 6 + c9) ≤ 0) : KI l yX3_leave wsX3_leave ({ frames := 3, cells := 0, slots := 0, locals := 102 }) g [.ref u, .int (nI r9), .int (nI c9), .int (nI b)] ((wU u (ah 0) (a0 0) (at9 0)) ++ ((wH g ah h) ++ ((wT g at9 (sg, (nI n))) ++ ((wK0 g a0 ak ((nI od), (nI sz))) ++ (wHs g ak hs 6))))) (hL (Hunseat (r9 * 6 + c9) b h) (r9 * 6 + c9)) ((wU u (ah 0) (a0 0) (at9 0)) ++ ((wH g ah (Hunseat (r9 * 6 + c9) b h)) ++ ((wT g at9 (sg, (nI n))) ++ ((wK0 g a0 ak (nI od, nI (sz + 1))) ++ (wHs g ak (va_up hs ((od + sz) % 6) h) 6))))) 0 0 := by
  refine k_begin (cc := cX3_leave) (maxL := 5) (ret := (some .int)) (Qc := fun A => kQi g (hL (Hunseat (r9 * 6 + c9) b h) (r9 * 6 + c9)) ((wU u (ah 0) (a0 0) (at9 0)) ++ ((wH g ah (Hunseat (r9 * 6 + c9) b h)) ++ ((wT g at9 (sg, (nI n))) ++ ((wK0 g a0 ak (nI od, nI (sz + 1))) ++ (wHs g ak (va_up hs ((od + sz) % 6) h) 6))))) A) (by decide) rfl (Nat.le_of_ble_eq_true rfl) ?_
  intro p e s m below meth c A ls hF hr hlocks hin hE hP hD hS hA hl
  obtain ⟨hx, hb, hml, hown, hts⟩ := id hF
  have hown : s.vm.findClass RX3 = some m.cls := hown
  have hl : lv_has ls 5 [(0, .ref u), (1, .int (nI r9)), (2, .int (nI c9)), (3, .int (nI b))] := hl
  have hiX3 : ∀ w ∈ wsX30, w ∈ wsX3_leave := fun _ h => List.mem_cons_of_mem _ (List.mem_append_left _ (List.mem_append_left _ (List.mem_append_left _ (List.mem_append_left _ (List.mem_append_right _ (h))))))
  have hiX1 : ∀ w ∈ wsX10, w ∈ wsX3_leave := fun _ h => List.mem_cons_of_mem _ (List.mem_append_left _ (List.mem_append_left _ (List.mem_append_left _ (List.mem_append_right _ (h)))))
  have f12 : (Cond.fieldLink RX3 12 "ConcertUsher" "hall" "LConcertUsher$Hall;").before _ s = true := hts _ (List.mem_of_getElem? (i := 3) rfl)
  have f19 : (Cond.fieldLink RX3 19 "ConcertUsher" "history" "LConcertUsher$History;").before _ s = true := hts _ (List.mem_of_getElem? (i := 4) rfl)
  have f59 : (Cond.fieldLink RX3 59 "ConcertUsher$Hall" "listeners" "[I").before _ s = true := hts _ (List.mem_of_getElem? (i := 5) rfl)
  refine lv_iload_n hx hb dX3_leave_0 rfl (lv_at hl 1 rfl) ?_
  refine k_Sv (w0 := []) (w1 := []) (As := [.int (nI r9)]) hF (c_X3_checkRow l g r9 (by omega)) (va_cwS 1 hts gX3_leave_X3_checkRow rfl rfl rfl (by decide +kernel) ⟨Nat.le_of_ble_eq_true rfl, Nat.le_of_ble_eq_true rfl⟩) hE hP hD hS hA (List.Perm.refl _) (List.Perm.refl _) rfl hl.1 rfl (Nat.le_of_ble_eq_true rfl) dX3_leave_1 ⟨Nat.le_of_ble_eq_true rfl, Nat.le_of_ble_eq_true rfl⟩ (fun H locs hP hD hS => ?_)
  have hP : va_P g.1 vwCl ((wU u (ah 0) (a0 0) (at9 0)) ++ ((wH g ah h) ++ ((wT g at9 (sg, (nI n))) ++ ((wK0 g a0 ak ((nI od), (nI sz))) ++ (wHs g ak hs 6))))) _ := hP
  have hD : va_D A ((wU u (ah 0) (a0 0) (at9 0)) ++ ((wH g ah h) ++ ((wT g at9 (sg, (nI n))) ++ ((wK0 g a0 ak ((nI od), (nI sz))) ++ (wHs g ak hs 6))))) := hD
  refine lv_iload_n hx hb dX3_leave_4 rfl (lv_at hl 2 rfl) ?_
  refine k_Sv (w0 := []) (w1 := []) (As := [.int (nI c9)]) hF (c_X3_checkConcert l g c9 (by omega)) (va_cwS 1 hts gX3_leave_X3_checkConcert rfl rfl rfl (by decide +kernel) ⟨Nat.le_of_ble_eq_true rfl, Nat.le_of_ble_eq_true rfl⟩) hE hP hD hS hA (List.Perm.refl _) (List.Perm.refl _) rfl hl.1 rfl (Nat.le_of_ble_eq_true rfl) dX3_leave_5 ⟨Nat.le_of_ble_eq_true rfl, Nat.le_of_ble_eq_true rfl⟩ (fun H locs hP hD hS => ?_)
  have hP : va_P g.1 vwCl ((wU u (ah 0) (a0 0) (at9 0)) ++ ((wH g ah h) ++ ((wT g at9 (sg, (nI n))) ++ ((wK0 g a0 ak ((nI od), (nI sz))) ++ (wHs g ak hs 6))))) _ := hP
  have hD : va_D A ((wU u (ah 0) (a0 0) (at9 0)) ++ ((wH g ah h) ++ ((wT g at9 (sg, (nI n))) ++ ((wK0 g a0 ak ((nI od), (nI sz))) ++ (wHs g ak hs 6))))) := hD
  refine lv_iload_n hx hb dX3_leave_8 rfl (lv_at hl 1 rfl) ?_
  refine lv_iload_n hx hb dX3_leave_9 rfl (lv_at hl 2 rfl) ?_
  refine k_Si (w0 := []) (w1 := []) (As := [.int (nI r9), .int (nI c9)]) (r := (nI (r9 * 6 + c9))) hF (c_X3_placeOf l g r9 c9) (va_cwS 2 hts gX3_leave_X3_placeOf rfl rfl rfl (by decide +kernel) ⟨Nat.le_of_ble_eq_true rfl, Nat.le_of_ble_eq_true rfl⟩) hE hP hD hS hA (List.Perm.refl _) (List.Perm.refl _) rfl hl.1 rfl (Nat.le_of_ble_eq_true rfl) dX3_leave_10 ⟨Nat.le_of_ble_eq_true rfl, Nat.le_of_ble_eq_true rfl⟩ (fun H locs hP hD hS => ?_)
  have hP : va_P g.1 vwCl ((wU u (ah 0) (a0 0) (at9 0)) ++ ((wH g ah h) ++ ((wT g at9 (sg, (nI n))) ++ ((wK0 g a0 ak ((nI od), (nI sz))) ++ (wHs g ak hs 6))))) _ := hP
  have hD : va_D A ((wU u (ah 0) (a0 0) (at9 0)) ++ ((wH g ah h) ++ ((wT g at9 (sg, (nI n))) ++ ((wK0 g a0 ak ((nI od), (nI sz))) ++ (wHs g ak hs 6))))) := hD
  refine lv_istore (lv' := [(4, .int (nI (r9 * 6 + c9))), (0, .ref u), (1, .int (nI r9)), (2, .int (nI c9)), (3, .int (nI b))]) hx hb dX3_leave_13 hl (by decide) rfl (fun ls hl => ?_)
  refine lv_aload_n hx hb dX3_leave_15 rfl (lv_at hl 1 rfl) ?_
  refine va_get (D := g.1) (ci := 3) (v := .ref (ah 0)) (C := RX3) (T := TX3) (N := 3) hx hb hts hiX3 hown hE.1 hP 0 rfl rfl 0 (by decide) f12 (fun _ h9 => h9) rfl dX3_leave_16 ?_
  refine lv_iload hx hb dX3_leave_19 (lv_at hl 0 rfl) ?_
  refine k_Vi (As := [.int (nI (r9 * 6 + c9))]) (r := (bI (¬ ((hL h) (r9 * 6 + c9)) ≤ 0))) hF (c_X1_isWantedAt l g ah h (r9 * 6 + c9) (by omega)) (cwV 1 hts gX3_leave_X1_isWantedAt rfl rfl rfl (by decide +kernel) ⟨Nat.le_of_ble_eq_true rfl, Nat.le_of_ble_eq_true rfl⟩) hE hP hD hS hA (pm_5_1 _ _ _ _ _) ((pm_5_1 _ _ _ _ _).symm) 1 rfl rfl rfl rfl hl.1 rfl (Nat.le_of_ble_eq_true rfl) dX3_leave_21 ⟨Nat.le_of_ble_eq_true rfl, Nat.le_of_ble_eq_true rfl⟩ (fun H locs hP hD hS => ?_)
  have hP : va_P g.1 vwCl ((wU u (ah 0) (a0 0) (at9 0)) ++ ((wH g ah h) ++ ((wT g at9 (sg, (nI n))) ++ ((wK0 g a0 ak ((nI od), (nI sz))) ++ (wHs g ak hs 6))))) _ := hP
  have hD : va_D A ((wU u (ah 0) (a0 0) (at9 0)) ++ ((wH g ah h) ++ ((wT g at9 (sg, (nI n))) ++ ((wK0 g a0 ak ((nI od), (nI sz))) ++ (wHs g ak hs 6))))) := hD
  refine k_ifneB (tgt := 37) hx hb dX3_leave_24 (by decide) (fun c1 => ?_) (fun c1 => ?_)
  ·
    refine lv_aload_n hx hb dX3_leave_37 rfl (lv_at hl 1 rfl) ?_
    refine va_get (D := g.1) (ci := 3) (v := .ref (a0 0)) (C := RX3) (T := TX3) (N := 3) hx hb hts hiX3 hown hE.1 hP 0 rfl rfl 1 (by decide) f19 (fun _ h9 => h9) rfl dX3_leave_38 ?_
    refine lv_aload_n hx hb dX3_leave_41 rfl (lv_at hl 1 rfl) ?_
    refine va_get (D := g.1) (ci := 3) (v := .ref (ah 0)) (C := RX3) (T := TX3) (N := 3) hx hb hts hiX3 hown hE.1 hP 0 rfl rfl 0 (by decide) f12 (fun _ h9 => h9) rfl dX3_leave_42 ?_
    refine k_Vv (As := [.ref (ah 0)]) hF (c_X2_keep l g a0 ak ah od sz (by omega) (by omega) hs h hbo) (cwV 1 hts gX3_leave_X2_keep rfl rfl rfl (by decide +kernel) ⟨Nat.le_of_ble_eq_true rfl, Nat.le_of_ble_eq_true rfl⟩) hE hP hD hS hA (pm_5_341 _ _ _ _ _) ((pm_5_341 _ _ _ _ _).symm) 7 rfl rfl rfl rfl hl.1 rfl (Nat.le_of_ble_eq_true rfl) dX3_leave_45 ⟨Nat.le_of_ble_eq_true rfl, Nat.le_of_ble_eq_true rfl⟩ (fun H locs hP hD hS => ?_)
    have hP : va_P g.1 vwCl ((wU u (ah 0) (a0 0) (at9 0)) ++ ((wH g ah h) ++ ((wT g at9 (sg, (nI n))) ++ ((wK0 g a0 ak ((nI (kOd od sz)), (nI (kSz sz)))) ++ (wHs g ak (va_up hs (kJ od sz) h) 6))))) _ := hP
    have hD : va_D A ((wU u (ah 0) (a0 0) (at9 0)) ++ ((wH g ah h) ++ ((wT g at9 (sg, (nI n))) ++ ((wK0 g a0 ak ((nI (kOd od sz)), (nI (kSz sz)))) ++ (wHs g ak (va_up hs (kJ od sz) h) 6))))) := hD
    rw [kOd5 sz5, kSz5 sz5, kJ5 sz5] at hP hD
    refine lv_aload_n hx hb dX3_leave_48 rfl (lv_at hl 1 rfl) ?_
    refine va_get (D := g.1) (ci := 3) (v := .ref (ah 0)) (C := RX3) (T := TX3) (N := 3) hx hb hts hiX3 hown hE.1 hP 0 rfl rfl 0 (by decide) f12 (fun _ h9 => h9) rfl dX3_leave_49 ?_
    refine lv_iload hx hb dX3_leave_52 (lv_at hl 0 rfl) ?_
    refine lv_iload_n hx hb dX3_leave_54 rfl (lv_at hl 4 rfl) ?_
    refine k_Vv (As := [.int (nI (r9 * 6 + c9)), .int (nI b)]) hF (c_X1_unseat l g ah h (r9 * 6 + c9) (by omega) b (by omega)) (cwV 2 hts gX3_leave_X1_unseat rfl rfl rfl (by decide +kernel) ⟨Nat.le_of_ble_eq_true rfl, Nat.le_of_ble_eq_true rfl⟩) hE hP hD hS hA (pm_5_1 _ _ _ _ _) ((pm_5_1 _ _ _ _ _).symm) 1 rfl rfl rfl rfl hl.1 rfl (Nat.le_of_ble_eq_true rfl) dX3_leave_55 ⟨Nat.le_of_ble_eq_true rfl, Nat.le_of_ble_eq_true rfl⟩ (fun H locs hP hD hS => ?_)
    have hP : va_P g.1 vwCl ((wU u (ah 0) (a0 0) (at9 0)) ++ ((wH g ah (Hunseat (r9 * 6 + c9) b h)) ++ ((wT g at9 (sg, (nI n))) ++ ((wK0 g a0 ak ((nI od), (nI (sz + 1)))) ++ (wHs g ak (va_up hs ((od + sz) % 6) h) 6))))) _ := hP
    have hD : va_D A ((wU u (ah 0) (a0 0) (at9 0)) ++ ((wH g ah (Hunseat (r9 * 6 + c9) b h)) ++ ((wT g at9 (sg, (nI n))) ++ ((wK0 g a0 ak ((nI od), (nI (sz + 1)))) ++ (wHs g ak (va_up hs ((od + sz) % 6) h) 6))))) := hD
    obtain ⟨z2, ez2⟩ : ∃ x : HSt, (Hunseat (r9 * 6 + c9) b h) = x := ⟨_, rfl⟩
    rw [ez2] at hP hD
    refine lv_aload_n hx hb dX3_leave_58 rfl (lv_at hl 1 rfl) ?_
    refine va_get (D := g.1) (ci := 3) (v := .ref (ah 0)) (C := RX3) (T := TX3) (N := 3) hx hb hts hiX3 hown hE.1 hP 0 rfl rfl 0 (by decide) f12 (fun _ h9 => h9) rfl dX3_leave_59 ?_
    refine va_get (D := g.1) (ci := 1) (v := .ref (ah 1)) (C := RX1) (T := TX1) (N := 12) hx hb hts hiX1 hown hE.1 hP 1 rfl rfl 0 (by decide) f59 (fun _ h9 => h9) rfl dX3_leave_62 ?_
    refine lv_iload hx hb dX3_leave_65 (lv_at hl 0 rfl) ?_
    refine k_iald (f := (hL z2)) hx hb hE hP 2 rfl (r9 * 6 + c9) rfl (by omega) (by decide) dX3_leave_67 ?_
    have e3 : (Hunseat (r9 * 6 + c9) b h) = z2 := (by subst ez2; first | (simp only [if_pos c1, if_neg (not_not_intro c1)]; done) | (simp only [if_pos c1, if_neg (not_not_intro c1)]; rfl) | rfl | (simp [if_pos c1, if_neg (not_not_intro c1)]; done))
    have e4 : (nI od, nI (sz + 1)) = ((nI od), (nI (sz + 1))) := (by subst ez2; first | (simp only [if_pos c1, if_neg (not_not_intro c1)]; done) | (simp only [if_pos c1, if_neg (not_not_intro c1)]; rfl) | rfl | (simp [if_pos c1, if_neg (not_not_intro c1)]; done))
    have hP : va_P g.1 vwCl ((wU u (ah 0) (a0 0) (at9 0)) ++ ((wH g ah (Hunseat (r9 * 6 + c9) b h)) ++ ((wT g at9 (sg, (nI n))) ++ ((wK0 g a0 ak (nI od, nI (sz + 1))) ++ (wHs g ak (va_up hs ((od + sz) % 6) h) 6))))) H := by rw [e3, e4]; exact hP
    have hD : va_D A ((wU u (ah 0) (a0 0) (at9 0)) ++ ((wH g ah (Hunseat (r9 * 6 + c9) b h)) ++ ((wT g at9 (sg, (nI n))) ++ ((wK0 g a0 ak (nI od, nI (sz + 1))) ++ (wHs g ak (va_up hs ((od + sz) % 6) h) 6))))) := by rw [e3, e4]; exact hD
    exact k_iret hx hb hr hlocks rfl (by subst ez2; first | (simp only [bI, if_pos c1, if_neg (not_not_intro c1)]; done) | (simp only [bI, if_pos c1, if_neg (not_not_intro c1)]; rfl) | rfl | (simp [bI, if_pos c1, if_neg (not_not_intro c1)]; done)) hP hD hS (Nat.le_of_ble_eq_true rfl) (Nat.le_of_ble_eq_true rfl) dX3_leave_68
  ·
    exact absurd h9 c1
set_option maxHeartbeats 4000000 in
set_option maxRecDepth 100000 in
theorem c_X3_listeners (l : Launch) (g : kG) (u : Nat) (ah at9 a0 : Nat → Nat) (ak : Nat → Nat → Nat) (h : HSt) (sg : Nat → Int32) (n od sz : Nat) (hs : Nat → HSt) (r9 c9 : Nat) (hr9 : r9 < 8) (hc9 : c9 < 6) : KI l yX3_listeners wsX3_listeners ({ frames := 2, cells := 0, slots := 0, locals := 40 }) g [.ref u, .int (nI r9), .int (nI c9)] ((wU u (ah 0) (a0 0) (at9 0)) ++ ((wH g ah h) ++ ((wT g at9 (sg, (nI n))) ++ ((wK0 g a0 ak ((nI od), (nI sz))) ++ (wHs g ak hs 6))))) ((hL h) (r9 * 6 + c9)) ((wU u (ah 0) (a0 0) (at9 0)) ++ ((wH g ah h) ++ ((wT g at9 (sg, (nI n))) ++ ((wK0 g a0 ak ((nI od), (nI sz))) ++ (wHs g ak hs 6))))) 0 0 := by
  refine k_begin (cc := cX3_listeners) (maxL := 3) (ret := (some .int)) (Qc := fun A => kQi g ((hL h) (r9 * 6 + c9)) ((wU u (ah 0) (a0 0) (at9 0)) ++ ((wH g ah h) ++ ((wT g at9 (sg, (nI n))) ++ ((wK0 g a0 ak ((nI od), (nI sz))) ++ (wHs g ak hs 6))))) A) (by decide) rfl (Nat.le_of_ble_eq_true rfl) ?_
  intro p e s m below meth c A ls hF hr hlocks hin hE hP hD hS hA hl
  obtain ⟨hx, hb, hml, hown, hts⟩ := id hF
  have hown : s.vm.findClass RX3 = some m.cls := hown
  have hl : lv_has ls 3 [(0, .ref u), (1, .int (nI r9)), (2, .int (nI c9))] := hl
  have hiX3 : ∀ w ∈ wsX30, w ∈ wsX3_listeners := fun _ h => List.mem_cons_of_mem _ (List.mem_append_left _ (List.mem_append_left _ (List.mem_append_right _ (h))))
  have hiX1 : ∀ w ∈ wsX10, w ∈ wsX3_listeners := fun _ h => List.mem_cons_of_mem _ (List.mem_append_left _ (List.mem_append_right _ (h)))
  have f12 : (Cond.fieldLink RX3 12 "ConcertUsher" "hall" "LConcertUsher$Hall;").before _ s = true := hts _ (List.mem_of_getElem? (i := 1) rfl)
  have f59 : (Cond.fieldLink RX3 59 "ConcertUsher$Hall" "listeners" "[I").before _ s = true := hts _ (List.mem_of_getElem? (i := 2) rfl)
  refine lv_iload_n hx hb dX3_listeners_0 rfl (lv_at hl 1 rfl) ?_
  refine k_Sv (w0 := []) (w1 := []) (As := [.int (nI r9)]) hF (c_X3_checkRow l g r9 (by omega)) (va_cwS 1 hts gX3_listeners_X3_checkRow rfl rfl rfl (by decide +kernel) ⟨Nat.le_of_ble_eq_true rfl, Nat.le_of_ble_eq_true rfl⟩) hE hP hD hS hA (List.Perm.refl _) (List.Perm.refl _) rfl hl.1 rfl (Nat.le_of_ble_eq_true rfl) dX3_listeners_1 ⟨Nat.le_of_ble_eq_true rfl, Nat.le_of_ble_eq_true rfl⟩ (fun H locs hP hD hS => ?_)
  have hP : va_P g.1 vwCl ((wU u (ah 0) (a0 0) (at9 0)) ++ ((wH g ah h) ++ ((wT g at9 (sg, (nI n))) ++ ((wK0 g a0 ak ((nI od), (nI sz))) ++ (wHs g ak hs 6))))) _ := hP
  have hD : va_D A ((wU u (ah 0) (a0 0) (at9 0)) ++ ((wH g ah h) ++ ((wT g at9 (sg, (nI n))) ++ ((wK0 g a0 ak ((nI od), (nI sz))) ++ (wHs g ak hs 6))))) := hD
  refine lv_iload_n hx hb dX3_listeners_4 rfl (lv_at hl 2 rfl) ?_
  refine k_Sv (w0 := []) (w1 := []) (As := [.int (nI c9)]) hF (c_X3_checkConcert l g c9 (by omega)) (va_cwS 1 hts gX3_listeners_X3_checkConcert rfl rfl rfl (by decide +kernel) ⟨Nat.le_of_ble_eq_true rfl, Nat.le_of_ble_eq_true rfl⟩) hE hP hD hS hA (List.Perm.refl _) (List.Perm.refl _) rfl hl.1 rfl (Nat.le_of_ble_eq_true rfl) dX3_listeners_5 ⟨Nat.le_of_ble_eq_true rfl, Nat.le_of_ble_eq_true rfl⟩ (fun H locs hP hD hS => ?_)
  have hP : va_P g.1 vwCl ((wU u (ah 0) (a0 0) (at9 0)) ++ ((wH g ah h) ++ ((wT g at9 (sg, (nI n))) ++ ((wK0 g a0 ak ((nI od), (nI sz))) ++ (wHs g ak hs 6))))) _ := hP
  have hD : va_D A ((wU u (ah 0) (a0 0) (at9 0)) ++ ((wH g ah h) ++ ((wT g at9 (sg, (nI n))) ++ ((wK0 g a0 ak ((nI od), (nI sz))) ++ (wHs g ak hs 6))))) := hD
  refine lv_aload_n hx hb dX3_listeners_8 rfl (lv_at hl 0 rfl) ?_
  refine va_get (D := g.1) (ci := 3) (v := .ref (ah 0)) (C := RX3) (T := TX3) (N := 3) hx hb hts hiX3 hown hE.1 hP 0 rfl rfl 0 (by decide) f12 (fun _ h9 => h9) rfl dX3_listeners_9 ?_
  refine va_get (D := g.1) (ci := 1) (v := .ref (ah 1)) (C := RX1) (T := TX1) (N := 12) hx hb hts hiX1 hown hE.1 hP 1 rfl rfl 0 (by decide) f59 (fun _ h9 => h9) rfl dX3_listeners_12 ?_
  refine lv_iload_n hx hb dX3_listeners_15 rfl (lv_at hl 1 rfl) ?_
  refine lv_iload_n hx hb dX3_listeners_16 rfl (lv_at hl 2 rfl) ?_
  refine k_Si (w0 := []) (w1 := []) (As := [.int (nI r9), .int (nI c9)]) (r := (nI (r9 * 6 + c9))) hF (c_X3_placeOf l g r9 c9) (va_cwS 2 hts gX3_listeners_X3_placeOf rfl rfl rfl (by decide +kernel) ⟨Nat.le_of_ble_eq_true rfl, Nat.le_of_ble_eq_true rfl⟩) hE hP hD hS hA (List.Perm.refl _) (List.Perm.refl _) rfl hl.1 rfl (Nat.le_of_ble_eq_true rfl) dX3_listeners_17 ⟨Nat.le_of_ble_eq_true rfl, Nat.le_of_ble_eq_true rfl⟩ (fun H locs hP hD hS => ?_)
  have hP : va_P g.1 vwCl ((wU u (ah 0) (a0 0) (at9 0)) ++ ((wH g ah h) ++ ((wT g at9 (sg, (nI n))) ++ ((wK0 g a0 ak ((nI od), (nI sz))) ++ (wHs g ak hs 6))))) _ := hP
  have hD : va_D A ((wU u (ah 0) (a0 0) (at9 0)) ++ ((wH g ah h) ++ ((wT g at9 (sg, (nI n))) ++ ((wK0 g a0 ak ((nI od), (nI sz))) ++ (wHs g ak hs 6))))) := hD
  refine k_iald (f := (hL h)) hx hb hE hP 2 rfl (r9 * 6 + c9) rfl (by omega) (by decide) dX3_listeners_20 ?_
  have hP : va_P g.1 vwCl ((wU u (ah 0) (a0 0) (at9 0)) ++ ((wH g ah h) ++ ((wT g at9 (sg, (nI n))) ++ ((wK0 g a0 ak ((nI od), (nI sz))) ++ (wHs g ak hs 6))))) _ := hP
  have hD : va_D A ((wU u (ah 0) (a0 0) (at9 0)) ++ ((wH g ah h) ++ ((wT g at9 (sg, (nI n))) ++ ((wK0 g a0 ak ((nI od), (nI sz))) ++ (wHs g ak hs 6))))) := hD
  exact k_iret hx hb hr hlocks rfl rfl hP hD hS (Nat.le_of_ble_eq_true rfl) (Nat.le_of_ble_eq_true rfl) dX3_listeners_21
set_option maxHeartbeats 4000000 in
set_option maxRecDepth 100000 in
theorem c_X3_rest (l : Launch) (g : kG) (u : Nat) (ah at9 a0 : Nat → Nat) (ak : Nat → Nat → Nat) (h : HSt) (sg : Nat → Int32) (n od sz : Nat) (hs : Nat → HSt) (r9 c9 : Nat) (hr9 : r9 < 8) (hc9 : c9 < 6) : KI l yX3_rest wsX3_rest ({ frames := 2, cells := 0, slots := 0, locals := 40 }) g [.ref u, .int (nI r9), .int (nI c9)] ((wU u (ah 0) (a0 0) (at9 0)) ++ ((wH g ah h) ++ ((wT g at9 (sg, (nI n))) ++ ((wK0 g a0 ak ((nI od), (nI sz))) ++ (wHs g ak hs 6))))) ((hR h) (r9 * 6 + c9)) ((wU u (ah 0) (a0 0) (at9 0)) ++ ((wH g ah h) ++ ((wT g at9 (sg, (nI n))) ++ ((wK0 g a0 ak ((nI od), (nI sz))) ++ (wHs g ak hs 6))))) 0 0 := by
  refine k_begin (cc := cX3_rest) (maxL := 3) (ret := (some .int)) (Qc := fun A => kQi g ((hR h) (r9 * 6 + c9)) ((wU u (ah 0) (a0 0) (at9 0)) ++ ((wH g ah h) ++ ((wT g at9 (sg, (nI n))) ++ ((wK0 g a0 ak ((nI od), (nI sz))) ++ (wHs g ak hs 6))))) A) (by decide) rfl (Nat.le_of_ble_eq_true rfl) ?_
  intro p e s m below meth c A ls hF hr hlocks hin hE hP hD hS hA hl
  obtain ⟨hx, hb, hml, hown, hts⟩ := id hF
  have hown : s.vm.findClass RX3 = some m.cls := hown
  have hl : lv_has ls 3 [(0, .ref u), (1, .int (nI r9)), (2, .int (nI c9))] := hl
  have hiX3 : ∀ w ∈ wsX30, w ∈ wsX3_rest := fun _ h => List.mem_cons_of_mem _ (List.mem_append_left _ (List.mem_append_left _ (List.mem_append_right _ (h))))
  have hiX1 : ∀ w ∈ wsX10, w ∈ wsX3_rest := fun _ h => List.mem_cons_of_mem _ (List.mem_append_left _ (List.mem_append_right _ (h)))
  have f12 : (Cond.fieldLink RX3 12 "ConcertUsher" "hall" "LConcertUsher$Hall;").before _ s = true := hts _ (List.mem_of_getElem? (i := 1) rfl)
  have f116 : (Cond.fieldLink RX3 116 "ConcertUsher$Hall" "rests" "[I").before _ s = true := hts _ (List.mem_of_getElem? (i := 2) rfl)
  refine lv_iload_n hx hb dX3_rest_0 rfl (lv_at hl 1 rfl) ?_
  refine k_Sv (w0 := []) (w1 := []) (As := [.int (nI r9)]) hF (c_X3_checkRow l g r9 (by omega)) (va_cwS 1 hts gX3_rest_X3_checkRow rfl rfl rfl (by decide +kernel) ⟨Nat.le_of_ble_eq_true rfl, Nat.le_of_ble_eq_true rfl⟩) hE hP hD hS hA (List.Perm.refl _) (List.Perm.refl _) rfl hl.1 rfl (Nat.le_of_ble_eq_true rfl) dX3_rest_1 ⟨Nat.le_of_ble_eq_true rfl, Nat.le_of_ble_eq_true rfl⟩ (fun H locs hP hD hS => ?_)
  have hP : va_P g.1 vwCl ((wU u (ah 0) (a0 0) (at9 0)) ++ ((wH g ah h) ++ ((wT g at9 (sg, (nI n))) ++ ((wK0 g a0 ak ((nI od), (nI sz))) ++ (wHs g ak hs 6))))) _ := hP
  have hD : va_D A ((wU u (ah 0) (a0 0) (at9 0)) ++ ((wH g ah h) ++ ((wT g at9 (sg, (nI n))) ++ ((wK0 g a0 ak ((nI od), (nI sz))) ++ (wHs g ak hs 6))))) := hD
  refine lv_iload_n hx hb dX3_rest_4 rfl (lv_at hl 2 rfl) ?_
  refine k_Sv (w0 := []) (w1 := []) (As := [.int (nI c9)]) hF (c_X3_checkConcert l g c9 (by omega)) (va_cwS 1 hts gX3_rest_X3_checkConcert rfl rfl rfl (by decide +kernel) ⟨Nat.le_of_ble_eq_true rfl, Nat.le_of_ble_eq_true rfl⟩) hE hP hD hS hA (List.Perm.refl _) (List.Perm.refl _) rfl hl.1 rfl (Nat.le_of_ble_eq_true rfl) dX3_rest_5 ⟨Nat.le_of_ble_eq_true rfl, Nat.le_of_ble_eq_true rfl⟩ (fun H locs hP hD hS => ?_)
  have hP : va_P g.1 vwCl ((wU u (ah 0) (a0 0) (at9 0)) ++ ((wH g ah h) ++ ((wT g at9 (sg, (nI n))) ++ ((wK0 g a0 ak ((nI od), (nI sz))) ++ (wHs g ak hs 6))))) _ := hP
  have hD : va_D A ((wU u (ah 0) (a0 0) (at9 0)) ++ ((wH g ah h) ++ ((wT g at9 (sg, (nI n))) ++ ((wK0 g a0 ak ((nI od), (nI sz))) ++ (wHs g ak hs 6))))) := hD
  refine lv_aload_n hx hb dX3_rest_8 rfl (lv_at hl 0 rfl) ?_
  refine va_get (D := g.1) (ci := 3) (v := .ref (ah 0)) (C := RX3) (T := TX3) (N := 3) hx hb hts hiX3 hown hE.1 hP 0 rfl rfl 0 (by decide) f12 (fun _ h9 => h9) rfl dX3_rest_9 ?_
  refine va_get (D := g.1) (ci := 1) (v := .ref (ah 2)) (C := RX1) (T := TX1) (N := 12) hx hb hts hiX1 hown hE.1 hP 1 rfl rfl 1 (by decide) f116 (fun _ h9 => h9) rfl dX3_rest_12 ?_
  refine lv_iload_n hx hb dX3_rest_15 rfl (lv_at hl 1 rfl) ?_
  refine lv_iload_n hx hb dX3_rest_16 rfl (lv_at hl 2 rfl) ?_
  refine k_Si (w0 := []) (w1 := []) (As := [.int (nI r9), .int (nI c9)]) (r := (nI (r9 * 6 + c9))) hF (c_X3_placeOf l g r9 c9) (va_cwS 2 hts gX3_rest_X3_placeOf rfl rfl rfl (by decide +kernel) ⟨Nat.le_of_ble_eq_true rfl, Nat.le_of_ble_eq_true rfl⟩) hE hP hD hS hA (List.Perm.refl _) (List.Perm.refl _) rfl hl.1 rfl (Nat.le_of_ble_eq_true rfl) dX3_rest_17 ⟨Nat.le_of_ble_eq_true rfl, Nat.le_of_ble_eq_true rfl⟩ (fun H locs hP hD hS => ?_)
  have hP : va_P g.1 vwCl ((wU u (ah 0) (a0 0) (at9 0)) ++ ((wH g ah h) ++ ((wT g at9 (sg, (nI n))) ++ ((wK0 g a0 ak ((nI od), (nI sz))) ++ (wHs g ak hs 6))))) _ := hP
  have hD : va_D A ((wU u (ah 0) (a0 0) (at9 0)) ++ ((wH g ah h) ++ ((wT g at9 (sg, (nI n))) ++ ((wK0 g a0 ak ((nI od), (nI sz))) ++ (wHs g ak hs 6))))) := hD
  refine k_iald (f := (hR h)) hx hb hE hP 3 rfl (r9 * 6 + c9) rfl (by omega) (by decide) dX3_rest_20 ?_
  have hP : va_P g.1 vwCl ((wU u (ah 0) (a0 0) (at9 0)) ++ ((wH g ah h) ++ ((wT g at9 (sg, (nI n))) ++ ((wK0 g a0 ak ((nI od), (nI sz))) ++ (wHs g ak hs 6))))) _ := hP
  have hD : va_D A ((wU u (ah 0) (a0 0) (at9 0)) ++ ((wH g ah h) ++ ((wT g at9 (sg, (nI n))) ++ ((wK0 g a0 ak ((nI od), (nI sz))) ++ (wHs g ak hs 6))))) := hD
  exact k_iret hx hb hr hlocks rfl rfl hP hD hS (Nat.le_of_ble_eq_true rfl) (Nat.le_of_ble_eq_true rfl) dX3_rest_21
set_option maxHeartbeats 4000000 in
set_option maxRecDepth 100000 in
theorem c_X3_minutesToFade (l : Launch) (g : kG) (u : Nat) (ah at9 a0 : Nat → Nat) (ak : Nat → Nat → Nat) (h : HSt) (sg : Nat → Int32) (n od sz : Nat) (hs : Nat → HSt) (r9 c9 : Nat) (hr9 : r9 < 8) (hc9 : c9 < 6) : KI l yX3_minutesToFade wsX3_minutesToFade ({ frames := 4, cells := 0, slots := 0, locals := 82 }) g [.ref u, .int (nI r9), .int (nI c9)] ((wU u (ah 0) (a0 0) (at9 0)) ++ ((wH g ah h) ++ ((wT g at9 (sg, (nI n))) ++ ((wK0 g a0 ak ((nI od), (nI sz))) ++ (wHs g ak hs 6))))) (HfadesIn (r9 * 6 + c9) h) ((wU u (ah 0) (a0 0) (at9 0)) ++ ((wH g ah h) ++ ((wT g at9 (sg, (nI n))) ++ ((wK0 g a0 ak ((nI od), (nI sz))) ++ (wHs g ak hs 6))))) 0 0 := by
  refine k_begin (cc := cX3_minutesToFade) (maxL := 3) (ret := (some .int)) (Qc := fun A => kQi g (HfadesIn (r9 * 6 + c9) h) ((wU u (ah 0) (a0 0) (at9 0)) ++ ((wH g ah h) ++ ((wT g at9 (sg, (nI n))) ++ ((wK0 g a0 ak ((nI od), (nI sz))) ++ (wHs g ak hs 6))))) A) (by decide) rfl (Nat.le_of_ble_eq_true rfl) ?_
  intro p e s m below meth c A ls hF hr hlocks hin hE hP hD hS hA hl
  obtain ⟨hx, hb, hml, hown, hts⟩ := id hF
  have hown : s.vm.findClass RX3 = some m.cls := hown
  have hl : lv_has ls 3 [(0, .ref u), (1, .int (nI r9)), (2, .int (nI c9))] := hl
  have hiX3 : ∀ w ∈ wsX30, w ∈ wsX3_minutesToFade := fun _ h => List.mem_cons_of_mem _ (List.mem_append_left _ (List.mem_append_left _ (List.mem_append_right _ (h))))
  have f12 : (Cond.fieldLink RX3 12 "ConcertUsher" "hall" "LConcertUsher$Hall;").before _ s = true := hts _ (List.mem_of_getElem? (i := 1) rfl)
  refine lv_iload_n hx hb dX3_minutesToFade_0 rfl (lv_at hl 1 rfl) ?_
  refine k_Sv (w0 := []) (w1 := []) (As := [.int (nI r9)]) hF (c_X3_checkRow l g r9 (by omega)) (va_cwS 1 hts gX3_minutesToFade_X3_checkRow rfl rfl rfl (by decide +kernel) ⟨Nat.le_of_ble_eq_true rfl, Nat.le_of_ble_eq_true rfl⟩) hE hP hD hS hA (List.Perm.refl _) (List.Perm.refl _) rfl hl.1 rfl (Nat.le_of_ble_eq_true rfl) dX3_minutesToFade_1 ⟨Nat.le_of_ble_eq_true rfl, Nat.le_of_ble_eq_true rfl⟩ (fun H locs hP hD hS => ?_)
  have hP : va_P g.1 vwCl ((wU u (ah 0) (a0 0) (at9 0)) ++ ((wH g ah h) ++ ((wT g at9 (sg, (nI n))) ++ ((wK0 g a0 ak ((nI od), (nI sz))) ++ (wHs g ak hs 6))))) _ := hP
  have hD : va_D A ((wU u (ah 0) (a0 0) (at9 0)) ++ ((wH g ah h) ++ ((wT g at9 (sg, (nI n))) ++ ((wK0 g a0 ak ((nI od), (nI sz))) ++ (wHs g ak hs 6))))) := hD
  refine lv_iload_n hx hb dX3_minutesToFade_4 rfl (lv_at hl 2 rfl) ?_
  refine k_Sv (w0 := []) (w1 := []) (As := [.int (nI c9)]) hF (c_X3_checkConcert l g c9 (by omega)) (va_cwS 1 hts gX3_minutesToFade_X3_checkConcert rfl rfl rfl (by decide +kernel) ⟨Nat.le_of_ble_eq_true rfl, Nat.le_of_ble_eq_true rfl⟩) hE hP hD hS hA (List.Perm.refl _) (List.Perm.refl _) rfl hl.1 rfl (Nat.le_of_ble_eq_true rfl) dX3_minutesToFade_5 ⟨Nat.le_of_ble_eq_true rfl, Nat.le_of_ble_eq_true rfl⟩ (fun H locs hP hD hS => ?_)
  have hP : va_P g.1 vwCl ((wU u (ah 0) (a0 0) (at9 0)) ++ ((wH g ah h) ++ ((wT g at9 (sg, (nI n))) ++ ((wK0 g a0 ak ((nI od), (nI sz))) ++ (wHs g ak hs 6))))) _ := hP
  have hD : va_D A ((wU u (ah 0) (a0 0) (at9 0)) ++ ((wH g ah h) ++ ((wT g at9 (sg, (nI n))) ++ ((wK0 g a0 ak ((nI od), (nI sz))) ++ (wHs g ak hs 6))))) := hD
  refine lv_aload_n hx hb dX3_minutesToFade_8 rfl (lv_at hl 0 rfl) ?_
  refine va_get (D := g.1) (ci := 3) (v := .ref (ah 0)) (C := RX3) (T := TX3) (N := 3) hx hb hts hiX3 hown hE.1 hP 0 rfl rfl 0 (by decide) f12 (fun _ h9 => h9) rfl dX3_minutesToFade_9 ?_
  refine lv_iload_n hx hb dX3_minutesToFade_12 rfl (lv_at hl 1 rfl) ?_
  refine lv_iload_n hx hb dX3_minutesToFade_13 rfl (lv_at hl 2 rfl) ?_
  refine k_Si (w0 := []) (w1 := []) (As := [.int (nI r9), .int (nI c9)]) (r := (nI (r9 * 6 + c9))) hF (c_X3_placeOf l g r9 c9) (va_cwS 2 hts gX3_minutesToFade_X3_placeOf rfl rfl rfl (by decide +kernel) ⟨Nat.le_of_ble_eq_true rfl, Nat.le_of_ble_eq_true rfl⟩) hE hP hD hS hA (List.Perm.refl _) (List.Perm.refl _) rfl hl.1 rfl (Nat.le_of_ble_eq_true rfl) dX3_minutesToFade_14 ⟨Nat.le_of_ble_eq_true rfl, Nat.le_of_ble_eq_true rfl⟩ (fun H locs hP hD hS => ?_)
  have hP : va_P g.1 vwCl ((wU u (ah 0) (a0 0) (at9 0)) ++ ((wH g ah h) ++ ((wT g at9 (sg, (nI n))) ++ ((wK0 g a0 ak ((nI od), (nI sz))) ++ (wHs g ak hs 6))))) _ := hP
  have hD : va_D A ((wU u (ah 0) (a0 0) (at9 0)) ++ ((wH g ah h) ++ ((wT g at9 (sg, (nI n))) ++ ((wK0 g a0 ak ((nI od), (nI sz))) ++ (wHs g ak hs 6))))) := hD
  refine k_Vi (As := [.int (nI (r9 * 6 + c9))]) (r := (HfadesIn (r9 * 6 + c9) h)) hF (c_X1_fadesIn l g ah h (r9 * 6 + c9) (by omega)) (cwV 1 hts gX3_minutesToFade_X1_fadesIn rfl rfl rfl (by decide +kernel) ⟨Nat.le_of_ble_eq_true rfl, Nat.le_of_ble_eq_true rfl⟩) hE hP hD hS hA (pm_5_1 _ _ _ _ _) ((pm_5_1 _ _ _ _ _).symm) 1 rfl rfl rfl rfl hl.1 rfl (Nat.le_of_ble_eq_true rfl) dX3_minutesToFade_17 ⟨Nat.le_of_ble_eq_true rfl, Nat.le_of_ble_eq_true rfl⟩ (fun H locs hP hD hS => ?_)
  have hP : va_P g.1 vwCl ((wU u (ah 0) (a0 0) (at9 0)) ++ ((wH g ah h) ++ ((wT g at9 (sg, (nI n))) ++ ((wK0 g a0 ak ((nI od), (nI sz))) ++ (wHs g ak hs 6))))) _ := hP
  have hD : va_D A ((wU u (ah 0) (a0 0) (at9 0)) ++ ((wH g ah h) ++ ((wT g at9 (sg, (nI n))) ++ ((wK0 g a0 ak ((nI od), (nI sz))) ++ (wHs g ak hs 6))))) := hD
  have hP : va_P g.1 vwCl ((wU u (ah 0) (a0 0) (at9 0)) ++ ((wH g ah h) ++ ((wT g at9 (sg, (nI n))) ++ ((wK0 g a0 ak ((nI od), (nI sz))) ++ (wHs g ak hs 6))))) _ := hP
  have hD : va_D A ((wU u (ah 0) (a0 0) (at9 0)) ++ ((wH g ah h) ++ ((wT g at9 (sg, (nI n))) ++ ((wK0 g a0 ak ((nI od), (nI sz))) ++ (wHs g ak hs 6))))) := hD
  exact k_iret hx hb hr hlocks rfl rfl hP hD hS (Nat.le_of_ble_eq_true rfl) (Nat.le_of_ble_eq_true rfl) dX3_minutesToFade_20
set_option maxHeartbeats 4000000 in
set_option maxRecDepth 100000 in
theorem c_X3_setOpen (l : Launch) (g : kG) (u : Nat) (ah at9 a0 : Nat → Nat) (ak : Nat → Nat → Nat) (h : HSt) (sg : Nat → Int32) (n od sz : Nat) (hs : Nat → HSt) (hod : od < 6) (sz5 : sz ≤ 5) (hbo : Hbo h) (r9 : Nat) (hr9 : r9 < 8) (b : Nat) (hb2 : b < 2) : KI l yX3_setOpen wsX3_setOpen ({ frames := 3, cells := 0, slots := 0, locals := 102 }) g [.ref u, .int (nI r9), .int (nI b)] ((wU u (ah 0) (a0 0) (at9 0)) ++ ((wH g ah h) ++ ((wT g at9 (sg, (nI n))) ++ ((wK0 g a0 ak ((nI od), (nI sz))) ++ (wHs g ak hs 6))))) (bI (Hopen h r9)) ((wU u (ah 0) (a0 0) (at9 0)) ++ ((wH g ah (Lopen r9 b h)) ++ ((wT g at9 (sg, (nI n))) ++ ((wK0 g a0 ak (nI od, nI (sz + 1))) ++ (wHs g ak (va_up hs ((od + sz) % 6) h) 6))))) 0 0 := by
  refine k_begin (cc := cX3_setOpen) (maxL := 4) (ret := (some .boolean)) (Qc := fun A => kQi g (bI (Hopen h r9)) ((wU u (ah 0) (a0 0) (at9 0)) ++ ((wH g ah (Lopen r9 b h)) ++ ((wT g at9 (sg, (nI n))) ++ ((wK0 g a0 ak (nI od, nI (sz + 1))) ++ (wHs g ak (va_up hs ((od + sz) % 6) h) 6))))) A) (by decide) rfl (Nat.le_of_ble_eq_true rfl) ?_
  intro p e s m below meth c A ls hF hr hlocks hin hE hP hD hS hA hl
  obtain ⟨hx, hb, hml, hown, hts⟩ := id hF
  have hown : s.vm.findClass RX3 = some m.cls := hown
  have hl : lv_has ls 4 [(0, .ref u), (1, .int (nI r9)), (2, .int (nI b))] := hl
  have hiX3 : ∀ w ∈ wsX30, w ∈ wsX3_setOpen := fun _ h => List.mem_cons_of_mem _ (List.mem_append_left _ (List.mem_append_left _ (List.mem_append_left _ (List.mem_append_right _ (h)))))
  have f19 : (Cond.fieldLink RX3 19 "ConcertUsher" "history" "LConcertUsher$History;").before _ s = true := hts _ (List.mem_of_getElem? (i := 1) rfl)
  have f12 : (Cond.fieldLink RX3 12 "ConcertUsher" "hall" "LConcertUsher$Hall;").before _ s = true := hts _ (List.mem_of_getElem? (i := 2) rfl)
  refine lv_iload_n hx hb dX3_setOpen_0 rfl (lv_at hl 1 rfl) ?_
  refine k_Sv (w0 := []) (w1 := []) (As := [.int (nI r9)]) hF (c_X3_checkRow l g r9 (by omega)) (va_cwS 1 hts gX3_setOpen_X3_checkRow rfl rfl rfl (by decide +kernel) ⟨Nat.le_of_ble_eq_true rfl, Nat.le_of_ble_eq_true rfl⟩) hE hP hD hS hA (List.Perm.refl _) (List.Perm.refl _) rfl hl.1 rfl (Nat.le_of_ble_eq_true rfl) dX3_setOpen_1 ⟨Nat.le_of_ble_eq_true rfl, Nat.le_of_ble_eq_true rfl⟩ (fun H locs hP hD hS => ?_)
  have hP : va_P g.1 vwCl ((wU u (ah 0) (a0 0) (at9 0)) ++ ((wH g ah h) ++ ((wT g at9 (sg, (nI n))) ++ ((wK0 g a0 ak ((nI od), (nI sz))) ++ (wHs g ak hs 6))))) _ := hP
  have hD : va_D A ((wU u (ah 0) (a0 0) (at9 0)) ++ ((wH g ah h) ++ ((wT g at9 (sg, (nI n))) ++ ((wK0 g a0 ak ((nI od), (nI sz))) ++ (wHs g ak hs 6))))) := hD
  refine lv_aload_n hx hb dX3_setOpen_4 rfl (lv_at hl 0 rfl) ?_
  refine va_get (D := g.1) (ci := 3) (v := .ref (a0 0)) (C := RX3) (T := TX3) (N := 3) hx hb hts hiX3 hown hE.1 hP 0 rfl rfl 1 (by decide) f19 (fun _ h9 => h9) rfl dX3_setOpen_5 ?_
  refine lv_aload_n hx hb dX3_setOpen_8 rfl (lv_at hl 0 rfl) ?_
  refine va_get (D := g.1) (ci := 3) (v := .ref (ah 0)) (C := RX3) (T := TX3) (N := 3) hx hb hts hiX3 hown hE.1 hP 0 rfl rfl 0 (by decide) f12 (fun _ h9 => h9) rfl dX3_setOpen_9 ?_
  refine k_Vv (As := [.ref (ah 0)]) hF (c_X2_keep l g a0 ak ah od sz (by omega) (by omega) hs h hbo) (cwV 1 hts gX3_setOpen_X2_keep rfl rfl rfl (by decide +kernel) ⟨Nat.le_of_ble_eq_true rfl, Nat.le_of_ble_eq_true rfl⟩) hE hP hD hS hA (pm_5_341 _ _ _ _ _) ((pm_5_341 _ _ _ _ _).symm) 7 rfl rfl rfl rfl hl.1 rfl (Nat.le_of_ble_eq_true rfl) dX3_setOpen_12 ⟨Nat.le_of_ble_eq_true rfl, Nat.le_of_ble_eq_true rfl⟩ (fun H locs hP hD hS => ?_)
  have hP : va_P g.1 vwCl ((wU u (ah 0) (a0 0) (at9 0)) ++ ((wH g ah h) ++ ((wT g at9 (sg, (nI n))) ++ ((wK0 g a0 ak ((nI (kOd od sz)), (nI (kSz sz)))) ++ (wHs g ak (va_up hs (kJ od sz) h) 6))))) _ := hP
  have hD : va_D A ((wU u (ah 0) (a0 0) (at9 0)) ++ ((wH g ah h) ++ ((wT g at9 (sg, (nI n))) ++ ((wK0 g a0 ak ((nI (kOd od sz)), (nI (kSz sz)))) ++ (wHs g ak (va_up hs (kJ od sz) h) 6))))) := hD
  rw [kOd5 sz5, kSz5 sz5, kJ5 sz5] at hP hD
  refine lv_aload_n hx hb dX3_setOpen_15 rfl (lv_at hl 0 rfl) ?_
  refine va_get (D := g.1) (ci := 3) (v := .ref (ah 0)) (C := RX3) (T := TX3) (N := 3) hx hb hts hiX3 hown hE.1 hP 0 rfl rfl 0 (by decide) f12 (fun _ h9 => h9) rfl dX3_setOpen_16 ?_
  refine lv_iload_n hx hb dX3_setOpen_19 rfl (lv_at hl 1 rfl) ?_
  refine k_Vi (As := [.int (nI r9)]) (r := (bI (Hopen h r9))) hF (c_X1_isRowOpen l g ah h r9 (by omega)) (cwV 1 hts gX3_setOpen_X1_isRowOpen rfl rfl rfl (by decide +kernel) ⟨Nat.le_of_ble_eq_true rfl, Nat.le_of_ble_eq_true rfl⟩) hE hP hD hS hA (pm_5_1 _ _ _ _ _) ((pm_5_1 _ _ _ _ _).symm) 1 rfl rfl rfl rfl hl.1 rfl (Nat.le_of_ble_eq_true rfl) dX3_setOpen_20 ⟨Nat.le_of_ble_eq_true rfl, Nat.le_of_ble_eq_true rfl⟩ (fun H locs hP hD hS => ?_)
  have hP : va_P g.1 vwCl ((wU u (ah 0) (a0 0) (at9 0)) ++ ((wH g ah h) ++ ((wT g at9 (sg, (nI n))) ++ ((wK0 g a0 ak ((nI od), (nI (sz + 1)))) ++ (wHs g ak (va_up hs ((od + sz) % 6) h) 6))))) _ := hP
  have hD : va_D A ((wU u (ah 0) (a0 0) (at9 0)) ++ ((wH g ah h) ++ ((wT g at9 (sg, (nI n))) ++ ((wK0 g a0 ak ((nI od), (nI (sz + 1)))) ++ (wHs g ak (va_up hs ((od + sz) % 6) h) 6))))) := hD
  refine lv_istore_n (lv' := [(3, .int (bI (Hopen h r9))), (0, .ref u), (1, .int (nI r9)), (2, .int (nI b))]) hx hb dX3_setOpen_23 rfl hl (by decide) rfl (fun ls hl => ?_)
  refine lv_iload_n hx hb dX3_setOpen_24 rfl (lv_at hl 0 rfl) ?_
  refine lv_iload_n hx hb dX3_setOpen_25 rfl (lv_at hl 3 rfl) ?_
  refine lv_icmp_eq (tgt := 37) hx hb dX3_setOpen_26 (by decide) (fun c1 => ?_) (fun c1 => ?_)
  ·
    refine lv_iload_n hx hb dX3_setOpen_37 rfl (lv_at hl 0 rfl) ?_
    have e2 : (Lopen r9 b h) = h := (by first | (simp only [Lopen, if_pos c1, if_neg (not_not_intro c1)]; done) | (simp only [Lopen, if_pos c1, if_neg (not_not_intro c1)]; rfl) | rfl | (simp [Lopen, if_pos c1, if_neg (not_not_intro c1)]; done))
    have e3 : (nI od, nI (sz + 1)) = ((nI od), (nI (sz + 1))) := (by first | (simp only [Lopen, if_pos c1, if_neg (not_not_intro c1)]; done) | (simp only [Lopen, if_pos c1, if_neg (not_not_intro c1)]; rfl) | rfl | (simp [Lopen, if_pos c1, if_neg (not_not_intro c1)]; done))
    have hP : va_P g.1 vwCl ((wU u (ah 0) (a0 0) (at9 0)) ++ ((wH g ah (Lopen r9 b h)) ++ ((wT g at9 (sg, (nI n))) ++ ((wK0 g a0 ak (nI od, nI (sz + 1))) ++ (wHs g ak (va_up hs ((od + sz) % 6) h) 6))))) H := by rw [e2, e3]; exact hP
    have hD : va_D A ((wU u (ah 0) (a0 0) (at9 0)) ++ ((wH g ah (Lopen r9 b h)) ++ ((wT g at9 (sg, (nI n))) ++ ((wK0 g a0 ak (nI od, nI (sz + 1))) ++ (wHs g ak (va_up hs ((od + sz) % 6) h) 6))))) := by rw [e2, e3]; exact hD
    exact k_iret hx hb hr hlocks bI_nar rfl hP hD hS (Nat.le_of_ble_eq_true rfl) (Nat.le_of_ble_eq_true rfl) dX3_setOpen_38
  ·
    refine lv_aload_n hx hb dX3_setOpen_29 rfl (lv_at hl 1 rfl) ?_
    refine va_get (D := g.1) (ci := 3) (v := .ref (ah 0)) (C := RX3) (T := TX3) (N := 3) hx hb hts hiX3 hown hE.1 hP 0 rfl rfl 0 (by decide) f12 (fun _ h9 => h9) rfl dX3_setOpen_30 ?_
    refine lv_iload_n hx hb dX3_setOpen_33 rfl (lv_at hl 2 rfl) ?_
    refine k_Vv (As := [.int (nI r9)]) hF (c_X1_turnRow l g ah h r9 (by omega)) (cwV 1 hts gX3_setOpen_X1_turnRow rfl rfl rfl (by decide +kernel) ⟨Nat.le_of_ble_eq_true rfl, Nat.le_of_ble_eq_true rfl⟩) hE hP hD hS hA (pm_5_1 _ _ _ _ _) ((pm_5_1 _ _ _ _ _).symm) 1 rfl rfl rfl rfl hl.1 rfl (Nat.le_of_ble_eq_true rfl) dX3_setOpen_34 ⟨Nat.le_of_ble_eq_true rfl, Nat.le_of_ble_eq_true rfl⟩ (fun H locs hP hD hS => ?_)
    have hP : va_P g.1 vwCl ((wU u (ah 0) (a0 0) (at9 0)) ++ ((wH g ah (Hturn r9 h)) ++ ((wT g at9 (sg, (nI n))) ++ ((wK0 g a0 ak ((nI od), (nI (sz + 1)))) ++ (wHs g ak (va_up hs ((od + sz) % 6) h) 6))))) _ := hP
    have hD : va_D A ((wU u (ah 0) (a0 0) (at9 0)) ++ ((wH g ah (Hturn r9 h)) ++ ((wT g at9 (sg, (nI n))) ++ ((wK0 g a0 ak ((nI od), (nI (sz + 1)))) ++ (wHs g ak (va_up hs ((od + sz) % 6) h) 6))))) := hD
    obtain ⟨z4, ez4⟩ : ∃ x : HSt, (Hturn r9 h) = x := ⟨_, rfl⟩
    rw [ez4] at hP hD
    refine lv_iload_n hx hb dX3_setOpen_37 rfl (lv_at hl 0 rfl) ?_
    have e5 : (Lopen r9 b h) = z4 := (by subst ez4; first | (simp only [Lopen, if_neg c1, if_pos c1]; done) | (simp only [Lopen, if_neg c1, if_pos c1]; rfl) | rfl | (simp [Lopen, if_neg c1, if_pos c1]; done))
    have e6 : (nI od, nI (sz + 1)) = ((nI od), (nI (sz + 1))) := (by subst ez4; first | (simp only [Lopen, if_neg c1, if_pos c1]; done) | (simp only [Lopen, if_neg c1, if_pos c1]; rfl) | rfl | (simp [Lopen, if_neg c1, if_pos c1]; done))
    have hP : va_P g.1 vwCl ((wU u (ah 0) (a0 0) (at9 0)) ++ ((wH g ah (Lopen r9 b h)) ++ ((wT g at9 (sg, (nI n))) ++ ((wK0 g a0 ak (nI od, nI (sz + 1))) ++ (wHs g ak (va_up hs ((od + sz) % 6) h) 6))))) H := by rw [e5, e6]; exact hP
    have hD : va_D A ((wU u (ah 0) (a0 0) (at9 0)) ++ ((wH g ah (Lopen r9 b h)) ++ ((wT g at9 (sg, (nI n))) ++ ((wK0 g a0 ak (nI od, nI (sz + 1))) ++ (wHs g ak (va_up hs ((od + sz) % 6) h) 6))))) := by rw [e5, e6]; exact hD
    exact k_iret hx hb hr hlocks bI_nar (by subst ez4; first | (simp only [Lopen, bI, if_neg c1, if_pos c1]; done) | (simp only [Lopen, bI, if_neg c1, if_pos c1]; rfl) | rfl | (simp [Lopen, bI, if_neg c1, if_pos c1]; done)) hP hD hS (Nat.le_of_ble_eq_true rfl) (Nat.le_of_ble_eq_true rfl) dX3_setOpen_38
set_option maxHeartbeats 4000000 in
set_option maxRecDepth 100000 in
theorem c_X3_isOpen (l : Launch) (g : kG) (u : Nat) (ah at9 a0 : Nat → Nat) (ak : Nat → Nat → Nat) (h : HSt) (sg : Nat → Int32) (n od sz : Nat) (hs : Nat → HSt) (r9 : Nat) (hr9 : r9 < 8) : KI l yX3_isOpen wsX3_isOpen ({ frames := 2, cells := 0, slots := 0, locals := 40 }) g [.ref u, .int (nI r9)] ((wU u (ah 0) (a0 0) (at9 0)) ++ ((wH g ah h) ++ ((wT g at9 (sg, (nI n))) ++ ((wK0 g a0 ak ((nI od), (nI sz))) ++ (wHs g ak hs 6))))) (bI (Hopen h r9)) ((wU u (ah 0) (a0 0) (at9 0)) ++ ((wH g ah h) ++ ((wT g at9 (sg, (nI n))) ++ ((wK0 g a0 ak ((nI od), (nI sz))) ++ (wHs g ak hs 6))))) 0 0 := by
  refine k_begin (cc := cX3_isOpen) (maxL := 2) (ret := (some .boolean)) (Qc := fun A => kQi g (bI (Hopen h r9)) ((wU u (ah 0) (a0 0) (at9 0)) ++ ((wH g ah h) ++ ((wT g at9 (sg, (nI n))) ++ ((wK0 g a0 ak ((nI od), (nI sz))) ++ (wHs g ak hs 6))))) A) (by decide) rfl (Nat.le_of_ble_eq_true rfl) ?_
  intro p e s m below meth c A ls hF hr hlocks hin hE hP hD hS hA hl
  obtain ⟨hx, hb, hml, hown, hts⟩ := id hF
  have hown : s.vm.findClass RX3 = some m.cls := hown
  have hl : lv_has ls 2 [(0, .ref u), (1, .int (nI r9))] := hl
  have hiX3 : ∀ w ∈ wsX30, w ∈ wsX3_isOpen := fun _ h => List.mem_cons_of_mem _ (List.mem_append_left _ (List.mem_append_left _ (List.mem_append_right _ (h))))
  have f12 : (Cond.fieldLink RX3 12 "ConcertUsher" "hall" "LConcertUsher$Hall;").before _ s = true := hts _ (List.mem_of_getElem? (i := 1) rfl)
  refine lv_iload_n hx hb dX3_isOpen_0 rfl (lv_at hl 1 rfl) ?_
  refine k_Sv (w0 := []) (w1 := []) (As := [.int (nI r9)]) hF (c_X3_checkRow l g r9 (by omega)) (va_cwS 1 hts gX3_isOpen_X3_checkRow rfl rfl rfl (by decide +kernel) ⟨Nat.le_of_ble_eq_true rfl, Nat.le_of_ble_eq_true rfl⟩) hE hP hD hS hA (List.Perm.refl _) (List.Perm.refl _) rfl hl.1 rfl (Nat.le_of_ble_eq_true rfl) dX3_isOpen_1 ⟨Nat.le_of_ble_eq_true rfl, Nat.le_of_ble_eq_true rfl⟩ (fun H locs hP hD hS => ?_)
  have hP : va_P g.1 vwCl ((wU u (ah 0) (a0 0) (at9 0)) ++ ((wH g ah h) ++ ((wT g at9 (sg, (nI n))) ++ ((wK0 g a0 ak ((nI od), (nI sz))) ++ (wHs g ak hs 6))))) _ := hP
  have hD : va_D A ((wU u (ah 0) (a0 0) (at9 0)) ++ ((wH g ah h) ++ ((wT g at9 (sg, (nI n))) ++ ((wK0 g a0 ak ((nI od), (nI sz))) ++ (wHs g ak hs 6))))) := hD
  refine lv_aload_n hx hb dX3_isOpen_4 rfl (lv_at hl 0 rfl) ?_
  refine va_get (D := g.1) (ci := 3) (v := .ref (ah 0)) (C := RX3) (T := TX3) (N := 3) hx hb hts hiX3 hown hE.1 hP 0 rfl rfl 0 (by decide) f12 (fun _ h9 => h9) rfl dX3_isOpen_5 ?_
  refine lv_iload_n hx hb dX3_isOpen_8 rfl (lv_at hl 1 rfl) ?_
  refine k_Vi (As := [.int (nI r9)]) (r := (bI (Hopen h r9))) hF (c_X1_isRowOpen l g ah h r9 (by omega)) (cwV 1 hts gX3_isOpen_X1_isRowOpen rfl rfl rfl (by decide +kernel) ⟨Nat.le_of_ble_eq_true rfl, Nat.le_of_ble_eq_true rfl⟩) hE hP hD hS hA (pm_5_1 _ _ _ _ _) ((pm_5_1 _ _ _ _ _).symm) 1 rfl rfl rfl rfl hl.1 rfl (Nat.le_of_ble_eq_true rfl) dX3_isOpen_9 ⟨Nat.le_of_ble_eq_true rfl, Nat.le_of_ble_eq_true rfl⟩ (fun H locs hP hD hS => ?_)
  have hP : va_P g.1 vwCl ((wU u (ah 0) (a0 0) (at9 0)) ++ ((wH g ah h) ++ ((wT g at9 (sg, (nI n))) ++ ((wK0 g a0 ak ((nI od), (nI sz))) ++ (wHs g ak hs 6))))) _ := hP
  have hD : va_D A ((wU u (ah 0) (a0 0) (at9 0)) ++ ((wH g ah h) ++ ((wT g at9 (sg, (nI n))) ++ ((wK0 g a0 ak ((nI od), (nI sz))) ++ (wHs g ak hs 6))))) := hD
  have hP : va_P g.1 vwCl ((wU u (ah 0) (a0 0) (at9 0)) ++ ((wH g ah h) ++ ((wT g at9 (sg, (nI n))) ++ ((wK0 g a0 ak ((nI od), (nI sz))) ++ (wHs g ak hs 6))))) _ := hP
  have hD : va_D A ((wU u (ah 0) (a0 0) (at9 0)) ++ ((wH g ah h) ++ ((wT g at9 (sg, (nI n))) ++ ((wK0 g a0 ak ((nI od), (nI sz))) ++ (wHs g ak hs 6))))) := hD
  exact k_iret hx hb hr hlocks bI_nar rfl hP hD hS (Nat.le_of_ble_eq_true rfl) (Nat.le_of_ble_eq_true rfl) dX3_isOpen_12
set_option maxHeartbeats 4000000 in
set_option maxRecDepth 100000 in
theorem c_X3_setQuick (l : Launch) (g : kG) (u : Nat) (ah at9 a0 : Nat → Nat) (ak : Nat → Nat → Nat) (h : HSt) (sg : Nat → Int32) (n od sz : Nat) (hs : Nat → HSt) (hod : od < 6) (sz5 : sz ≤ 5) (hbo : Hbo h) (b : Nat) (hb2 : b < 2) : KI l yX3_setQuick wsX3_setQuick ({ frames := 3, cells := 0, slots := 0, locals := 102 }) g [.ref u, .int (nI b)] ((wU u (ah 0) (a0 0) (at9 0)) ++ ((wH g ah h) ++ ((wT g at9 (sg, (nI n))) ++ ((wK0 g a0 ak ((nI od), (nI sz))) ++ (wHs g ak hs 6))))) (hqk h) ((wU u (ah 0) (a0 0) (at9 0)) ++ ((wH g ah (sHqk h (nI b))) ++ ((wT g at9 (sg, (nI n))) ++ ((wK0 g a0 ak (nI od, nI (sz + 1))) ++ (wHs g ak (va_up hs ((od + sz) % 6) h) 6))))) 0 0 := by
  refine k_begin (cc := cX3_setQuick) (maxL := 3) (ret := (some .boolean)) (Qc := fun A => kQi g (hqk h) ((wU u (ah 0) (a0 0) (at9 0)) ++ ((wH g ah (sHqk h (nI b))) ++ ((wT g at9 (sg, (nI n))) ++ ((wK0 g a0 ak (nI od, nI (sz + 1))) ++ (wHs g ak (va_up hs ((od + sz) % 6) h) 6))))) A) (by decide) rfl (Nat.le_of_ble_eq_true rfl) ?_
  intro p e s m below meth c A ls hF hr hlocks hin hE hP hD hS hA hl
  obtain ⟨hx, hb, hml, hown, hts⟩ := id hF
  have hown : s.vm.findClass RX3 = some m.cls := hown
  have hl : lv_has ls 3 [(0, .ref u), (1, .int (nI b))] := hl
  have hiX3 : ∀ w ∈ wsX30, w ∈ wsX3_setQuick := fun _ h => List.mem_cons_of_mem _ (List.mem_append_left _ (List.mem_append_left _ (List.mem_append_right _ (h))))
  have hiX1 : ∀ w ∈ wsX10, w ∈ wsX3_setQuick := fun _ h => List.mem_cons_of_mem _ (List.mem_append_left _ (List.mem_append_right _ (h)))
  have f19 : (Cond.fieldLink RX3 19 "ConcertUsher" "history" "LConcertUsher$History;").before _ s = true := hts _ (List.mem_of_getElem? (i := 1) rfl)
  have f12 : (Cond.fieldLink RX3 12 "ConcertUsher" "hall" "LConcertUsher$Hall;").before _ s = true := hts _ (List.mem_of_getElem? (i := 2) rfl)
  have f78 : (Cond.fieldLink RX3 78 "ConcertUsher$Hall" "isQuick" "Z").before _ s = true := hts _ (List.mem_of_getElem? (i := 3) rfl)
  refine lv_aload_n hx hb dX3_setQuick_0 rfl (lv_at hl 0 rfl) ?_
  refine va_get (D := g.1) (ci := 3) (v := .ref (a0 0)) (C := RX3) (T := TX3) (N := 3) hx hb hts hiX3 hown hE.1 hP 0 rfl rfl 1 (by decide) f19 (fun _ h9 => h9) rfl dX3_setQuick_1 ?_
  refine lv_aload_n hx hb dX3_setQuick_4 rfl (lv_at hl 0 rfl) ?_
  refine va_get (D := g.1) (ci := 3) (v := .ref (ah 0)) (C := RX3) (T := TX3) (N := 3) hx hb hts hiX3 hown hE.1 hP 0 rfl rfl 0 (by decide) f12 (fun _ h9 => h9) rfl dX3_setQuick_5 ?_
  refine k_Vv (As := [.ref (ah 0)]) hF (c_X2_keep l g a0 ak ah od sz (by omega) (by omega) hs h hbo) (cwV 1 hts gX3_setQuick_X2_keep rfl rfl rfl (by decide +kernel) ⟨Nat.le_of_ble_eq_true rfl, Nat.le_of_ble_eq_true rfl⟩) hE hP hD hS hA (pm_5_341 _ _ _ _ _) ((pm_5_341 _ _ _ _ _).symm) 7 rfl rfl rfl rfl hl.1 rfl (Nat.le_of_ble_eq_true rfl) dX3_setQuick_8 ⟨Nat.le_of_ble_eq_true rfl, Nat.le_of_ble_eq_true rfl⟩ (fun H locs hP hD hS => ?_)
  have hP : va_P g.1 vwCl ((wU u (ah 0) (a0 0) (at9 0)) ++ ((wH g ah h) ++ ((wT g at9 (sg, (nI n))) ++ ((wK0 g a0 ak ((nI (kOd od sz)), (nI (kSz sz)))) ++ (wHs g ak (va_up hs (kJ od sz) h) 6))))) _ := hP
  have hD : va_D A ((wU u (ah 0) (a0 0) (at9 0)) ++ ((wH g ah h) ++ ((wT g at9 (sg, (nI n))) ++ ((wK0 g a0 ak ((nI (kOd od sz)), (nI (kSz sz)))) ++ (wHs g ak (va_up hs (kJ od sz) h) 6))))) := hD
  rw [kOd5 sz5, kSz5 sz5, kJ5 sz5] at hP hD
  refine lv_aload_n hx hb dX3_setQuick_11 rfl (lv_at hl 0 rfl) ?_
  refine va_get (D := g.1) (ci := 3) (v := .ref (ah 0)) (C := RX3) (T := TX3) (N := 3) hx hb hts hiX3 hown hE.1 hP 0 rfl rfl 0 (by decide) f12 (fun _ h9 => h9) rfl dX3_setQuick_12 ?_
  refine va_get (D := g.1) (ci := 1) (v := .int (hqk h)) (C := RX1) (T := TX1) (N := 12) hx hb hts hiX1 hown hE.1 hP 1 rfl rfl 4 (by decide) f78 (fun _ h9 => h9) rfl dX3_setQuick_15 ?_
  refine lv_istore_n (lv' := [(2, .int (hqk h)), (0, .ref u), (1, .int (nI b))]) hx hb dX3_setQuick_18 rfl hl (by decide) rfl (fun ls hl => ?_)
  refine lv_aload_n hx hb dX3_setQuick_19 rfl (lv_at hl 1 rfl) ?_
  refine va_get (D := g.1) (ci := 3) (v := .ref (ah 0)) (C := RX3) (T := TX3) (N := 3) hx hb hts hiX3 hown hE.1 hP 0 rfl rfl 0 (by decide) f12 (fun _ h9 => h9) rfl dX3_setQuick_20 ?_
  refine lv_iload_n hx hb dX3_setQuick_23 rfl (lv_at hl 2 rfl) ?_
  refine va_put (D := g.1) (ci := 1) (v := .int (nI b)) (ty := .boolean) (C := RX1) (T := TX1) (N := 12) hx hb hts hiX1 tyX1 tyX1_ok nmX1 hown hE.1 hP hD hS 1 rfl rfl 4 (by decide) f78 (fun _ h9 => h9) rfl (tyX1_ok 4 (by decide)) (bo_nar (k_b2 hb2)) (bo_fits (k_b2 hb2)) (Nat.le_of_ble_eq_true rfl) dX3_setQuick_24 (fun H locs hP hD hS => ?_)
  have hP : va_P g.1 vwCl ((wU u (ah 0) (a0 0) (at9 0)) ++ ((wH g ah (sHqk h (nI b))) ++ ((wT g at9 (sg, (nI n))) ++ ((wK0 g a0 ak ((nI od), (nI (sz + 1)))) ++ (wHs g ak (va_up hs ((od + sz) % 6) h) 6))))) _ := hP
  have hD : va_D A ((wU u (ah 0) (a0 0) (at9 0)) ++ ((wH g ah (sHqk h (nI b))) ++ ((wT g at9 (sg, (nI n))) ++ ((wK0 g a0 ak ((nI od), (nI (sz + 1)))) ++ (wHs g ak (va_up hs ((od + sz) % 6) h) 6))))) := hD
  refine lv_iload_n hx hb dX3_setQuick_27 rfl (lv_at hl 0 rfl) ?_
  have hP : va_P g.1 vwCl ((wU u (ah 0) (a0 0) (at9 0)) ++ ((wH g ah (sHqk h (nI b))) ++ ((wT g at9 (sg, (nI n))) ++ ((wK0 g a0 ak (nI od, nI (sz + 1))) ++ (wHs g ak (va_up hs ((od + sz) % 6) h) 6))))) _ := hP
  have hD : va_D A ((wU u (ah 0) (a0 0) (at9 0)) ++ ((wH g ah (sHqk h (nI b))) ++ ((wT g at9 (sg, (nI n))) ++ ((wK0 g a0 ak (nI od, nI (sz + 1))) ++ (wHs g ak (va_up hs ((od + sz) % 6) h) 6))))) := hD
  exact k_iret hx hb hr hlocks (bo_nar hbo.1) rfl hP hD hS (Nat.le_of_ble_eq_true rfl) (Nat.le_of_ble_eq_true rfl) dX3_setQuick_28
set_option maxHeartbeats 4000000 in
set_option maxRecDepth 100000 in
theorem c_X3_setTimes (l : Launch) (g : kG) (u : Nat) (ah at9 a0 : Nat → Nat) (ak : Nat → Nat → Nat) (h : HSt) (sg : Nat → Int32) (n od sz : Nat) (hs : Nat → HSt) (hod : od < 6) (sz5 : sz ≤ 5) (hbo : Hbo h) (t1 t2 t3 : Nat) (g1 : 2 ≤ t1 ∧ t1 ≤ 60) (g2 : 1 ≤ t2 ∧ t2 ≤ 10) (g3 : 1 ≤ t3 ∧ t3 ≤ 30) : KI l yX3_setTimes wsX3_setTimes ({ frames := 3, cells := 0, slots := 0, locals := 102 }) g [.ref u, .int (nI t1), .int (nI t2), .int (nI t3)] ((wU u (ah 0) (a0 0) (at9 0)) ++ ((wH g ah h) ++ ((wT g at9 (sg, (nI n))) ++ ((wK0 g a0 ak ((nI od), (nI sz))) ++ (wHs g ak hs 6))))) (hfd h) ((wU u (ah 0) (a0 0) (at9 0)) ++ ((wH g ah (Ltimes t1 t2 t3 h)) ++ ((wT g at9 (sg, (nI n))) ++ ((wK0 g a0 ak (nI od, nI (sz + 1))) ++ (wHs g ak (va_up hs ((od + sz) % 6) h) 6))))) 0 0 := by
  refine k_begin (cc := cX3_setTimes) (maxL := 5) (ret := (some .int)) (Qc := fun A => kQi g (hfd h) ((wU u (ah 0) (a0 0) (at9 0)) ++ ((wH g ah (Ltimes t1 t2 t3 h)) ++ ((wT g at9 (sg, (nI n))) ++ ((wK0 g a0 ak (nI od, nI (sz + 1))) ++ (wHs g ak (va_up hs ((od + sz) % 6) h) 6))))) A) (by decide) rfl (Nat.le_of_ble_eq_true rfl) ?_
  intro p e s m below meth c A ls hF hr hlocks hin hE hP hD hS hA hl
  obtain ⟨hx, hb, hml, hown, hts⟩ := id hF
  have hown : s.vm.findClass RX3 = some m.cls := hown
  have hl : lv_has ls 5 [(0, .ref u), (1, .int (nI t1)), (2, .int (nI t2)), (3, .int (nI t3))] := hl
  have hiX3 : ∀ w ∈ wsX30, w ∈ wsX3_setTimes := fun _ h => List.mem_cons_of_mem _ (List.mem_append_left _ (List.mem_append_left _ (List.mem_append_left _ (List.mem_append_right _ (h)))))
  have hiX1 : ∀ w ∈ wsX10, w ∈ wsX3_setTimes := fun _ h => List.mem_cons_of_mem _ (List.mem_append_left _ (List.mem_append_left _ (List.mem_append_right _ (h))))
  have f19 : (Cond.fieldLink RX3 19 "ConcertUsher" "history" "LConcertUsher$History;").before _ s = true := hts _ (List.mem_of_getElem? (i := 3) rfl)
  have f12 : (Cond.fieldLink RX3 12 "ConcertUsher" "hall" "LConcertUsher$Hall;").before _ s = true := hts _ (List.mem_of_getElem? (i := 4) rfl)
  have f91 : (Cond.fieldLink RX3 91 "ConcertUsher$Hall" "fading" "I").before _ s = true := hts _ (List.mem_of_getElem? (i := 5) rfl)
  have f95 : (Cond.fieldLink RX3 95 "ConcertUsher$Hall" "patience" "I").before _ s = true := hts _ (List.mem_of_getElem? (i := 6) rfl)
  have f98 : (Cond.fieldLink RX3 98 "ConcertUsher$Hall" "asking" "I").before _ s = true := hts _ (List.mem_of_getElem? (i := 7) rfl)
  refine lv_iload_n hx hb dX3_setTimes_0 rfl (lv_at hl 1 rfl) ?_
  refine lv_iconst (v := (nI 2)) hx hb dX3_setTimes_1 (by decide) ?_
  refine k_ltN (tgt := 11) hx hb (by omega) (by decide) dX3_setTimes_2 (by decide) (fun c1 => ?_) (fun c1 => ?_)
  ·
    exact absurd c1 (by omega)
  ·
    refine lv_iload_n hx hb dX3_setTimes_5 rfl (lv_at hl 1 rfl) ?_
    refine lv_bipush (v := (nI 60)) hx hb dX3_setTimes_6 (by decide) ?_
    refine k_leN (tgt := 21) hx hb (by omega) (by decide) dX3_setTimes_8 (by decide) (fun c2 => ?_) (fun c2 => ?_)
    ·
      refine lv_iload_n hx hb dX3_setTimes_21 rfl (lv_at hl 2 rfl) ?_
      refine lv_iconst (v := (nI 1)) hx hb dX3_setTimes_22 (by decide) ?_
      refine k_ltN (tgt := 32) hx hb (by omega) (by decide) dX3_setTimes_23 (by decide) (fun c3 => ?_) (fun c3 => ?_)
      ·
        exact absurd c3 (by omega)
      ·
        refine lv_iload_n hx hb dX3_setTimes_26 rfl (lv_at hl 2 rfl) ?_
        refine lv_bipush (v := (nI 10)) hx hb dX3_setTimes_27 (by decide) ?_
        refine k_leN (tgt := 42) hx hb (by omega) (by decide) dX3_setTimes_29 (by decide) (fun c4 => ?_) (fun c4 => ?_)
        ·
          refine lv_iload_n hx hb dX3_setTimes_42 rfl (lv_at hl 3 rfl) ?_
          refine lv_iconst (v := (nI 1)) hx hb dX3_setTimes_43 (by decide) ?_
          refine k_ltN (tgt := 53) hx hb (by omega) (by decide) dX3_setTimes_44 (by decide) (fun c5 => ?_) (fun c5 => ?_)
          ·
            exact absurd c5 (by omega)
          ·
            refine lv_iload_n hx hb dX3_setTimes_47 rfl (lv_at hl 3 rfl) ?_
            refine lv_bipush (v := (nI 30)) hx hb dX3_setTimes_48 (by decide) ?_
            refine k_leN (tgt := 63) hx hb (by omega) (by decide) dX3_setTimes_50 (by decide) (fun c6 => ?_) (fun c6 => ?_)
            ·
              refine lv_aload_n hx hb dX3_setTimes_63 rfl (lv_at hl 0 rfl) ?_
              refine va_get (D := g.1) (ci := 3) (v := .ref (a0 0)) (C := RX3) (T := TX3) (N := 3) hx hb hts hiX3 hown hE.1 hP 0 rfl rfl 1 (by decide) f19 (fun _ h9 => h9) rfl dX3_setTimes_64 ?_
              refine lv_aload_n hx hb dX3_setTimes_67 rfl (lv_at hl 0 rfl) ?_
              refine va_get (D := g.1) (ci := 3) (v := .ref (ah 0)) (C := RX3) (T := TX3) (N := 3) hx hb hts hiX3 hown hE.1 hP 0 rfl rfl 0 (by decide) f12 (fun _ h9 => h9) rfl dX3_setTimes_68 ?_
              refine k_Vv (As := [.ref (ah 0)]) hF (c_X2_keep l g a0 ak ah od sz (by omega) (by omega) hs h hbo) (cwV 1 hts gX3_setTimes_X2_keep rfl rfl rfl (by decide +kernel) ⟨Nat.le_of_ble_eq_true rfl, Nat.le_of_ble_eq_true rfl⟩) hE hP hD hS hA (pm_5_341 _ _ _ _ _) ((pm_5_341 _ _ _ _ _).symm) 7 rfl rfl rfl rfl hl.1 rfl (Nat.le_of_ble_eq_true rfl) dX3_setTimes_71 ⟨Nat.le_of_ble_eq_true rfl, Nat.le_of_ble_eq_true rfl⟩ (fun H locs hP hD hS => ?_)
              have hP : va_P g.1 vwCl ((wU u (ah 0) (a0 0) (at9 0)) ++ ((wH g ah h) ++ ((wT g at9 (sg, (nI n))) ++ ((wK0 g a0 ak ((nI (kOd od sz)), (nI (kSz sz)))) ++ (wHs g ak (va_up hs (kJ od sz) h) 6))))) _ := hP
              have hD : va_D A ((wU u (ah 0) (a0 0) (at9 0)) ++ ((wH g ah h) ++ ((wT g at9 (sg, (nI n))) ++ ((wK0 g a0 ak ((nI (kOd od sz)), (nI (kSz sz)))) ++ (wHs g ak (va_up hs (kJ od sz) h) 6))))) := hD
              rw [kOd5 sz5, kSz5 sz5, kJ5 sz5] at hP hD
              refine lv_aload_n hx hb dX3_setTimes_74 rfl (lv_at hl 0 rfl) ?_
              refine va_get (D := g.1) (ci := 3) (v := .ref (ah 0)) (C := RX3) (T := TX3) (N := 3) hx hb hts hiX3 hown hE.1 hP 0 rfl rfl 0 (by decide) f12 (fun _ h9 => h9) rfl dX3_setTimes_75 ?_
              refine va_get (D := g.1) (ci := 1) (v := .int (hfd h)) (C := RX1) (T := TX1) (N := 12) hx hb hts hiX1 hown hE.1 hP 1 rfl rfl 7 (by decide) f91 (fun _ h9 => h9) rfl dX3_setTimes_78 ?_
              refine lv_istore (lv' := [(4, .int (hfd h)), (0, .ref u), (1, .int (nI t1)), (2, .int (nI t2)), (3, .int (nI t3))]) hx hb dX3_setTimes_81 hl (by decide) rfl (fun ls hl => ?_)
              refine lv_aload_n hx hb dX3_setTimes_83 rfl (lv_at hl 1 rfl) ?_
              refine va_get (D := g.1) (ci := 3) (v := .ref (ah 0)) (C := RX3) (T := TX3) (N := 3) hx hb hts hiX3 hown hE.1 hP 0 rfl rfl 0 (by decide) f12 (fun _ h9 => h9) rfl dX3_setTimes_84 ?_
              refine lv_iload_n hx hb dX3_setTimes_87 rfl (lv_at hl 2 rfl) ?_
              refine va_put (D := g.1) (ci := 1) (v := .int (nI t1)) (ty := .int) (C := RX1) (T := TX1) (N := 12) hx hb hts hiX1 tyX1 tyX1_ok nmX1 hown hE.1 hP hD hS 1 rfl rfl 7 (by decide) f91 (fun _ h9 => h9) rfl (tyX1_ok 7 (by decide)) rfl rfl (Nat.le_of_ble_eq_true rfl) dX3_setTimes_88 (fun H locs hP hD hS => ?_)
              have hP : va_P g.1 vwCl ((wU u (ah 0) (a0 0) (at9 0)) ++ ((wH g ah (sHfd h (nI t1))) ++ ((wT g at9 (sg, (nI n))) ++ ((wK0 g a0 ak ((nI od), (nI (sz + 1)))) ++ (wHs g ak (va_up hs ((od + sz) % 6) h) 6))))) _ := hP
              have hD : va_D A ((wU u (ah 0) (a0 0) (at9 0)) ++ ((wH g ah (sHfd h (nI t1))) ++ ((wT g at9 (sg, (nI n))) ++ ((wK0 g a0 ak ((nI od), (nI (sz + 1)))) ++ (wHs g ak (va_up hs ((od + sz) % 6) h) 6))))) := hD
              refine lv_aload_n hx hb dX3_setTimes_91 rfl (lv_at hl 1 rfl) ?_
              refine va_get (D := g.1) (ci := 3) (v := .ref (ah 0)) (C := RX3) (T := TX3) (N := 3) hx hb hts hiX3 hown hE.1 hP 0 rfl rfl 0 (by decide) f12 (fun _ h9 => h9) rfl dX3_setTimes_92 ?_
              refine lv_iload_n hx hb dX3_setTimes_95 rfl (lv_at hl 3 rfl) ?_
              refine va_put (D := g.1) (ci := 1) (v := .int (nI t2)) (ty := .int) (C := RX1) (T := TX1) (N := 12) hx hb hts hiX1 tyX1 tyX1_ok nmX1 hown hE.1 hP hD hS 1 rfl rfl 8 (by decide) f95 (fun _ h9 => h9) rfl (tyX1_ok 8 (by decide)) rfl rfl (Nat.le_of_ble_eq_true rfl) dX3_setTimes_96 (fun H locs hP hD hS => ?_)
              have hP : va_P g.1 vwCl ((wU u (ah 0) (a0 0) (at9 0)) ++ ((wH g ah (sHpt (sHfd h (nI t1)) (nI t2))) ++ ((wT g at9 (sg, (nI n))) ++ ((wK0 g a0 ak ((nI od), (nI (sz + 1)))) ++ (wHs g ak (va_up hs ((od + sz) % 6) h) 6))))) _ := hP
              have hD : va_D A ((wU u (ah 0) (a0 0) (at9 0)) ++ ((wH g ah (sHpt (sHfd h (nI t1)) (nI t2))) ++ ((wT g at9 (sg, (nI n))) ++ ((wK0 g a0 ak ((nI od), (nI (sz + 1)))) ++ (wHs g ak (va_up hs ((od + sz) % 6) h) 6))))) := hD
              refine lv_aload_n hx hb dX3_setTimes_99 rfl (lv_at hl 1 rfl) ?_
              refine va_get (D := g.1) (ci := 3) (v := .ref (ah 0)) (C := RX3) (T := TX3) (N := 3) hx hb hts hiX3 hown hE.1 hP 0 rfl rfl 0 (by decide) f12 (fun _ h9 => h9) rfl dX3_setTimes_100 ?_
              refine lv_iload_n hx hb dX3_setTimes_103 rfl (lv_at hl 4 rfl) ?_
              refine va_put (D := g.1) (ci := 1) (v := .int (nI t3)) (ty := .int) (C := RX1) (T := TX1) (N := 12) hx hb hts hiX1 tyX1 tyX1_ok nmX1 hown hE.1 hP hD hS 1 rfl rfl 9 (by decide) f98 (fun _ h9 => h9) rfl (tyX1_ok 9 (by decide)) rfl rfl (Nat.le_of_ble_eq_true rfl) dX3_setTimes_104 (fun H locs hP hD hS => ?_)
              have hP : va_P g.1 vwCl ((wU u (ah 0) (a0 0) (at9 0)) ++ ((wH g ah (sHas (sHpt (sHfd h (nI t1)) (nI t2)) (nI t3))) ++ ((wT g at9 (sg, (nI n))) ++ ((wK0 g a0 ak ((nI od), (nI (sz + 1)))) ++ (wHs g ak (va_up hs ((od + sz) % 6) h) 6))))) _ := hP
              have hD : va_D A ((wU u (ah 0) (a0 0) (at9 0)) ++ ((wH g ah (sHas (sHpt (sHfd h (nI t1)) (nI t2)) (nI t3))) ++ ((wT g at9 (sg, (nI n))) ++ ((wK0 g a0 ak ((nI od), (nI (sz + 1)))) ++ (wHs g ak (va_up hs ((od + sz) % 6) h) 6))))) := hD
              refine lv_iload hx hb dX3_setTimes_107 (lv_at hl 0 rfl) ?_
              have e7 : (Ltimes t1 t2 t3 h) = (sHas (sHpt (sHfd h (nI t1)) (nI t2)) (nI t3)) := (by first | (simp only [Ltimes, if_neg (Nat.not_lt.mpr c1), if_pos (Nat.not_lt.mpr c1), if_pos c2, if_neg (not_not_intro c2), if_neg (Nat.not_lt.mpr c3), if_pos (Nat.not_lt.mpr c3), if_pos c4, if_neg (not_not_intro c4), if_neg (Nat.not_lt.mpr c5), if_pos (Nat.not_lt.mpr c5), if_pos c6, if_neg (not_not_intro c6)]; done) | (simp only [Ltimes, if_neg (Nat.not_lt.mpr c1), if_pos (Nat.not_lt.mpr c1), if_pos c2, if_neg (not_not_intro c2), if_neg (Nat.not_lt.mpr c3), if_pos (Nat.not_lt.mpr c3), if_pos c4, if_neg (not_not_intro c4), if_neg (Nat.not_lt.mpr c5), if_pos (Nat.not_lt.mpr c5), if_pos c6, if_neg (not_not_intro c6)]; rfl) | rfl | (simp [Ltimes, if_neg (Nat.not_lt.mpr c1), if_pos (Nat.not_lt.mpr c1), if_pos c2, if_neg (not_not_intro c2), if_neg (Nat.not_lt.mpr c3), if_pos (Nat.not_lt.mpr c3), if_pos c4, if_neg (not_not_intro c4), if_neg (Nat.not_lt.mpr c5), if_pos (Nat.not_lt.mpr c5), if_pos c6, if_neg (not_not_intro c6)]; done))
              have e8 : (nI od, nI (sz + 1)) = ((nI od), (nI (sz + 1))) := (by first | (simp only [Ltimes, if_neg (Nat.not_lt.mpr c1), if_pos (Nat.not_lt.mpr c1), if_pos c2, if_neg (not_not_intro c2), if_neg (Nat.not_lt.mpr c3), if_pos (Nat.not_lt.mpr c3), if_pos c4, if_neg (not_not_intro c4), if_neg (Nat.not_lt.mpr c5), if_pos (Nat.not_lt.mpr c5), if_pos c6, if_neg (not_not_intro c6)]; done) | (simp only [Ltimes, if_neg (Nat.not_lt.mpr c1), if_pos (Nat.not_lt.mpr c1), if_pos c2, if_neg (not_not_intro c2), if_neg (Nat.not_lt.mpr c3), if_pos (Nat.not_lt.mpr c3), if_pos c4, if_neg (not_not_intro c4), if_neg (Nat.not_lt.mpr c5), if_pos (Nat.not_lt.mpr c5), if_pos c6, if_neg (not_not_intro c6)]; rfl) | rfl | (simp [Ltimes, if_neg (Nat.not_lt.mpr c1), if_pos (Nat.not_lt.mpr c1), if_pos c2, if_neg (not_not_intro c2), if_neg (Nat.not_lt.mpr c3), if_pos (Nat.not_lt.mpr c3), if_pos c4, if_neg (not_not_intro c4), if_neg (Nat.not_lt.mpr c5), if_pos (Nat.not_lt.mpr c5), if_pos c6, if_neg (not_not_intro c6)]; done))
              have hP : va_P g.1 vwCl ((wU u (ah 0) (a0 0) (at9 0)) ++ ((wH g ah (Ltimes t1 t2 t3 h)) ++ ((wT g at9 (sg, (nI n))) ++ ((wK0 g a0 ak (nI od, nI (sz + 1))) ++ (wHs g ak (va_up hs ((od + sz) % 6) h) 6))))) H := by rw [e7, e8]; exact hP
              have hD : va_D A ((wU u (ah 0) (a0 0) (at9 0)) ++ ((wH g ah (Ltimes t1 t2 t3 h)) ++ ((wT g at9 (sg, (nI n))) ++ ((wK0 g a0 ak (nI od, nI (sz + 1))) ++ (wHs g ak (va_up hs ((od + sz) % 6) h) 6))))) := by rw [e7, e8]; exact hD
              exact k_iret hx hb hr hlocks rfl rfl hP hD hS (Nat.le_of_ble_eq_true rfl) (Nat.le_of_ble_eq_true rfl) dX3_setTimes_109
            ·
              exact absurd c6 (by omega)
        ·
          exact absurd c4 (by omega)
    ·
      exact absurd c2 (by omega)
set_option maxHeartbeats 4000000 in
set_option maxRecDepth 100000 in
theorem c_X3_setPresent (l : Launch) (g : kG) (u : Nat) (ah at9 a0 : Nat → Nat) (ak : Nat → Nat → Nat) (h : HSt) (sg : Nat → Int32) (n od sz : Nat) (hs : Nat → HSt) (hod : od < 6) (sz5 : sz ≤ 5) (hbo : Hbo h) (w9 : Nat) (hw9 : w9 = 1 ∨ w9 = 2) (b : Nat) (hb2 : b < 2) : KI l yX3_setPresent wsX3_setPresent ({ frames := 3, cells := 0, slots := 0, locals := 102 }) g [.ref u, .int (nI w9), .int (nI b)] ((wU u (ah 0) (a0 0) (at9 0)) ++ ((wH g ah h) ++ ((wT g at9 (sg, (nI n))) ++ ((wK0 g a0 ak ((nI od), (nI sz))) ++ (wHs g ak hs 6))))) (Hchief (Lpres w9 b h)) ((wU u (ah 0) (a0 0) (at9 0)) ++ ((wH g ah (Lpres w9 b h)) ++ ((wT g at9 (sg, (nI n))) ++ ((wK0 g a0 ak (nI od, nI (sz + 1))) ++ (wHs g ak (va_up hs ((od + sz) % 6) h) 6))))) 0 0 := by
  refine k_begin (cc := cX3_setPresent) (maxL := 3) (ret := (some .int)) (Qc := fun A => kQi g (Hchief (Lpres w9 b h)) ((wU u (ah 0) (a0 0) (at9 0)) ++ ((wH g ah (Lpres w9 b h)) ++ ((wT g at9 (sg, (nI n))) ++ ((wK0 g a0 ak (nI od, nI (sz + 1))) ++ (wHs g ak (va_up hs ((od + sz) % 6) h) 6))))) A) (by decide) rfl (Nat.le_of_ble_eq_true rfl) ?_
  intro p e s m below meth c A ls hF hr hlocks hin hE hP hD hS hA hl
  obtain ⟨hx, hb, hml, hown, hts⟩ := id hF
  have hown : s.vm.findClass RX3 = some m.cls := hown
  have hl : lv_has ls 3 [(0, .ref u), (1, .int (nI w9)), (2, .int (nI b))] := hl
  have hiX3 : ∀ w ∈ wsX30, w ∈ wsX3_setPresent := fun _ h => List.mem_cons_of_mem _ (List.mem_append_left _ (List.mem_append_left _ (List.mem_append_left _ (List.mem_append_right _ (h)))))
  have hiX1 : ∀ w ∈ wsX10, w ∈ wsX3_setPresent := fun _ h => List.mem_cons_of_mem _ (List.mem_append_left _ (List.mem_append_left _ (List.mem_append_right _ (h))))
  have f19 : (Cond.fieldLink RX3 19 "ConcertUsher" "history" "LConcertUsher$History;").before _ s = true := hts _ (List.mem_of_getElem? (i := 3) rfl)
  have f12 : (Cond.fieldLink RX3 12 "ConcertUsher" "hall" "LConcertUsher$Hall;").before _ s = true := hts _ (List.mem_of_getElem? (i := 4) rfl)
  have f106 : (Cond.fieldLink RX3 106 "ConcertUsher$Hall" "isFirstPresent" "Z").before _ s = true := hts _ (List.mem_of_getElem? (i := 5) rfl)
  have f109 : (Cond.fieldLink RX3 109 "ConcertUsher$Hall" "isSecondPresent" "Z").before _ s = true := hts _ (List.mem_of_getElem? (i := 6) rfl)
  refine lv_iload_n hx hb dX3_setPresent_0 rfl (lv_at hl 1 rfl) ?_
  refine lv_iconst (v := (nI 1)) hx hb dX3_setPresent_1 (by decide) ?_
  refine k_eqN (tgt := 20) hx hb (by omega) (by decide) dX3_setPresent_2 (by decide) (fun c1 => ?_) (fun c1 => ?_)
  ·
    refine lv_aload_n hx hb dX3_setPresent_20 rfl (lv_at hl 0 rfl) ?_
    refine va_get (D := g.1) (ci := 3) (v := .ref (a0 0)) (C := RX3) (T := TX3) (N := 3) hx hb hts hiX3 hown hE.1 hP 0 rfl rfl 1 (by decide) f19 (fun _ h9 => h9) rfl dX3_setPresent_21 ?_
    refine lv_aload_n hx hb dX3_setPresent_24 rfl (lv_at hl 0 rfl) ?_
    refine va_get (D := g.1) (ci := 3) (v := .ref (ah 0)) (C := RX3) (T := TX3) (N := 3) hx hb hts hiX3 hown hE.1 hP 0 rfl rfl 0 (by decide) f12 (fun _ h9 => h9) rfl dX3_setPresent_25 ?_
    refine k_Vv (As := [.ref (ah 0)]) hF (c_X2_keep l g a0 ak ah od sz (by omega) (by omega) hs h hbo) (cwV 1 hts gX3_setPresent_X2_keep rfl rfl rfl (by decide +kernel) ⟨Nat.le_of_ble_eq_true rfl, Nat.le_of_ble_eq_true rfl⟩) hE hP hD hS hA (pm_5_341 _ _ _ _ _) ((pm_5_341 _ _ _ _ _).symm) 7 rfl rfl rfl rfl hl.1 rfl (Nat.le_of_ble_eq_true rfl) dX3_setPresent_28 ⟨Nat.le_of_ble_eq_true rfl, Nat.le_of_ble_eq_true rfl⟩ (fun H locs hP hD hS => ?_)
    have hP : va_P g.1 vwCl ((wU u (ah 0) (a0 0) (at9 0)) ++ ((wH g ah h) ++ ((wT g at9 (sg, (nI n))) ++ ((wK0 g a0 ak ((nI (kOd od sz)), (nI (kSz sz)))) ++ (wHs g ak (va_up hs (kJ od sz) h) 6))))) _ := hP
    have hD : va_D A ((wU u (ah 0) (a0 0) (at9 0)) ++ ((wH g ah h) ++ ((wT g at9 (sg, (nI n))) ++ ((wK0 g a0 ak ((nI (kOd od sz)), (nI (kSz sz)))) ++ (wHs g ak (va_up hs (kJ od sz) h) 6))))) := hD
    rw [kOd5 sz5, kSz5 sz5, kJ5 sz5] at hP hD
    refine lv_iload_n hx hb dX3_setPresent_31 rfl (lv_at hl 1 rfl) ?_
    refine lv_iconst (v := (nI 1)) hx hb dX3_setPresent_32 (by decide) ?_
    refine k_neN (tgt := 47) hx hb (by omega) (by decide) dX3_setPresent_33 (by decide) (fun c2 => ?_) (fun c2 => ?_)
    ·
      exact absurd c1 c2
    ·
      refine lv_aload_n hx hb dX3_setPresent_36 rfl (lv_at hl 0 rfl) ?_
      refine va_get (D := g.1) (ci := 3) (v := .ref (ah 0)) (C := RX3) (T := TX3) (N := 3) hx hb hts hiX3 hown hE.1 hP 0 rfl rfl 0 (by decide) f12 (fun _ h9 => h9) rfl dX3_setPresent_37 ?_
      refine lv_iload_n hx hb dX3_setPresent_40 rfl (lv_at hl 2 rfl) ?_
      refine va_put (D := g.1) (ci := 1) (v := .int (nI b)) (ty := .boolean) (C := RX1) (T := TX1) (N := 12) hx hb hts hiX1 tyX1 tyX1_ok nmX1 hown hE.1 hP hD hS 1 rfl rfl 5 (by decide) f106 (fun _ h9 => h9) rfl (tyX1_ok 5 (by decide)) (bo_nar (k_b2 hb2)) (bo_fits (k_b2 hb2)) (Nat.le_of_ble_eq_true rfl) dX3_setPresent_41 (fun H locs hP hD hS => ?_)
      have hP : va_P g.1 vwCl ((wU u (ah 0) (a0 0) (at9 0)) ++ ((wH g ah (sHf1 h (nI b))) ++ ((wT g at9 (sg, (nI n))) ++ ((wK0 g a0 ak ((nI od), (nI (sz + 1)))) ++ (wHs g ak (va_up hs ((od + sz) % 6) h) 6))))) _ := hP
      have hD : va_D A ((wU u (ah 0) (a0 0) (at9 0)) ++ ((wH g ah (sHf1 h (nI b))) ++ ((wT g at9 (sg, (nI n))) ++ ((wK0 g a0 ak ((nI od), (nI (sz + 1)))) ++ (wHs g ak (va_up hs ((od + sz) % 6) h) 6))))) := hD
      refine lv_goto (tgt := 55) hx hb dX3_setPresent_44 (by decide) ?_
      refine lv_aload_n hx hb dX3_setPresent_55 rfl (lv_at hl 0 rfl) ?_
      refine va_get (D := g.1) (ci := 3) (v := .ref (ah 0)) (C := RX3) (T := TX3) (N := 3) hx hb hts hiX3 hown hE.1 hP 0 rfl rfl 0 (by decide) f12 (fun _ h9 => h9) rfl dX3_setPresent_56 ?_
      refine k_Vi (As := []) (r := (Hchief (sHf1 h (nI b)))) hF (c_X1_chiefAsker l g ah (sHf1 h (nI b))) (cwV 0 hts gX3_setPresent_X1_chiefAsker rfl rfl rfl (by decide +kernel) ⟨Nat.le_of_ble_eq_true rfl, Nat.le_of_ble_eq_true rfl⟩) hE hP hD hS hA (pm_5_1 _ _ _ _ _) ((pm_5_1 _ _ _ _ _).symm) 1 rfl rfl rfl rfl hl.1 rfl (Nat.le_of_ble_eq_true rfl) dX3_setPresent_59 ⟨Nat.le_of_ble_eq_true rfl, Nat.le_of_ble_eq_true rfl⟩ (fun H locs hP hD hS => ?_)
      have hP : va_P g.1 vwCl ((wU u (ah 0) (a0 0) (at9 0)) ++ ((wH g ah (sHf1 h (nI b))) ++ ((wT g at9 (sg, (nI n))) ++ ((wK0 g a0 ak ((nI od), (nI (sz + 1)))) ++ (wHs g ak (va_up hs ((od + sz) % 6) h) 6))))) _ := hP
      have hD : va_D A ((wU u (ah 0) (a0 0) (at9 0)) ++ ((wH g ah (sHf1 h (nI b))) ++ ((wT g at9 (sg, (nI n))) ++ ((wK0 g a0 ak ((nI od), (nI (sz + 1)))) ++ (wHs g ak (va_up hs ((od + sz) % 6) h) 6))))) := hD
      have e3 : (Lpres w9 b h) = (sHf1 h (nI b)) := (by first | (simp only [Lpres, if_pos c1, if_neg (not_not_intro c1), if_pos c2, if_neg (not_not_intro c2)]; done) | (simp only [Lpres, if_pos c1, if_neg (not_not_intro c1), if_pos c2, if_neg (not_not_intro c2)]; rfl) | rfl | (simp [Lpres, if_pos c1, if_neg (not_not_intro c1), if_pos c2, if_neg (not_not_intro c2)]; done))
      have e4 : (nI od, nI (sz + 1)) = ((nI od), (nI (sz + 1))) := (by first | (simp only [Lpres, if_pos c1, if_neg (not_not_intro c1), if_pos c2, if_neg (not_not_intro c2)]; done) | (simp only [Lpres, if_pos c1, if_neg (not_not_intro c1), if_pos c2, if_neg (not_not_intro c2)]; rfl) | rfl | (simp [Lpres, if_pos c1, if_neg (not_not_intro c1), if_pos c2, if_neg (not_not_intro c2)]; done))
      have hP : va_P g.1 vwCl ((wU u (ah 0) (a0 0) (at9 0)) ++ ((wH g ah (Lpres w9 b h)) ++ ((wT g at9 (sg, (nI n))) ++ ((wK0 g a0 ak (nI od, nI (sz + 1))) ++ (wHs g ak (va_up hs ((od + sz) % 6) h) 6))))) H := by rw [e3, e4]; exact hP
      have hD : va_D A ((wU u (ah 0) (a0 0) (at9 0)) ++ ((wH g ah (Lpres w9 b h)) ++ ((wT g at9 (sg, (nI n))) ++ ((wK0 g a0 ak (nI od, nI (sz + 1))) ++ (wHs g ak (va_up hs ((od + sz) % 6) h) 6))))) := by rw [e3, e4]; exact hD
      exact k_iret hx hb hr hlocks rfl (by first | (simp only [Lpres, bI, if_pos c1, if_neg (not_not_intro c1), if_pos c2, if_neg (not_not_intro c2)]; done) | (simp only [Lpres, bI, if_pos c1, if_neg (not_not_intro c1), if_pos c2, if_neg (not_not_intro c2)]; rfl) | rfl | (simp [Lpres, bI, if_pos c1, if_neg (not_not_intro c1), if_pos c2, if_neg (not_not_intro c2)]; done)) hP hD hS (Nat.le_of_ble_eq_true rfl) (Nat.le_of_ble_eq_true rfl) dX3_setPresent_62
  ·
    refine lv_iload_n hx hb dX3_setPresent_5 rfl (lv_at hl 1 rfl) ?_
    refine lv_iconst (v := (nI 2)) hx hb dX3_setPresent_6 (by decide) ?_
    refine k_eqN (tgt := 20) hx hb (by omega) (by decide) dX3_setPresent_7 (by decide) (fun c5 => ?_) (fun c5 => ?_)
    ·
      refine lv_aload_n hx hb dX3_setPresent_20 rfl (lv_at hl 0 rfl) ?_
      refine va_get (D := g.1) (ci := 3) (v := .ref (a0 0)) (C := RX3) (T := TX3) (N := 3) hx hb hts hiX3 hown hE.1 hP 0 rfl rfl 1 (by decide) f19 (fun _ h9 => h9) rfl dX3_setPresent_21 ?_
      refine lv_aload_n hx hb dX3_setPresent_24 rfl (lv_at hl 0 rfl) ?_
      refine va_get (D := g.1) (ci := 3) (v := .ref (ah 0)) (C := RX3) (T := TX3) (N := 3) hx hb hts hiX3 hown hE.1 hP 0 rfl rfl 0 (by decide) f12 (fun _ h9 => h9) rfl dX3_setPresent_25 ?_
      refine k_Vv (As := [.ref (ah 0)]) hF (c_X2_keep l g a0 ak ah od sz (by omega) (by omega) hs h hbo) (cwV 1 hts gX3_setPresent_X2_keep rfl rfl rfl (by decide +kernel) ⟨Nat.le_of_ble_eq_true rfl, Nat.le_of_ble_eq_true rfl⟩) hE hP hD hS hA (pm_5_341 _ _ _ _ _) ((pm_5_341 _ _ _ _ _).symm) 7 rfl rfl rfl rfl hl.1 rfl (Nat.le_of_ble_eq_true rfl) dX3_setPresent_28 ⟨Nat.le_of_ble_eq_true rfl, Nat.le_of_ble_eq_true rfl⟩ (fun H locs hP hD hS => ?_)
      have hP : va_P g.1 vwCl ((wU u (ah 0) (a0 0) (at9 0)) ++ ((wH g ah h) ++ ((wT g at9 (sg, (nI n))) ++ ((wK0 g a0 ak ((nI (kOd od sz)), (nI (kSz sz)))) ++ (wHs g ak (va_up hs (kJ od sz) h) 6))))) _ := hP
      have hD : va_D A ((wU u (ah 0) (a0 0) (at9 0)) ++ ((wH g ah h) ++ ((wT g at9 (sg, (nI n))) ++ ((wK0 g a0 ak ((nI (kOd od sz)), (nI (kSz sz)))) ++ (wHs g ak (va_up hs (kJ od sz) h) 6))))) := hD
      rw [kOd5 sz5, kSz5 sz5, kJ5 sz5] at hP hD
      refine lv_iload_n hx hb dX3_setPresent_31 rfl (lv_at hl 1 rfl) ?_
      refine lv_iconst (v := (nI 1)) hx hb dX3_setPresent_32 (by decide) ?_
      refine k_neN (tgt := 47) hx hb (by omega) (by decide) dX3_setPresent_33 (by decide) (fun c6 => ?_) (fun c6 => ?_)
      ·
        refine lv_aload_n hx hb dX3_setPresent_47 rfl (lv_at hl 0 rfl) ?_
        refine va_get (D := g.1) (ci := 3) (v := .ref (ah 0)) (C := RX3) (T := TX3) (N := 3) hx hb hts hiX3 hown hE.1 hP 0 rfl rfl 0 (by decide) f12 (fun _ h9 => h9) rfl dX3_setPresent_48 ?_
        refine lv_iload_n hx hb dX3_setPresent_51 rfl (lv_at hl 2 rfl) ?_
        refine va_put (D := g.1) (ci := 1) (v := .int (nI b)) (ty := .boolean) (C := RX1) (T := TX1) (N := 12) hx hb hts hiX1 tyX1 tyX1_ok nmX1 hown hE.1 hP hD hS 1 rfl rfl 6 (by decide) f109 (fun _ h9 => h9) rfl (tyX1_ok 6 (by decide)) (bo_nar (k_b2 hb2)) (bo_fits (k_b2 hb2)) (Nat.le_of_ble_eq_true rfl) dX3_setPresent_52 (fun H locs hP hD hS => ?_)
        have hP : va_P g.1 vwCl ((wU u (ah 0) (a0 0) (at9 0)) ++ ((wH g ah (sHf2 h (nI b))) ++ ((wT g at9 (sg, (nI n))) ++ ((wK0 g a0 ak ((nI od), (nI (sz + 1)))) ++ (wHs g ak (va_up hs ((od + sz) % 6) h) 6))))) _ := hP
        have hD : va_D A ((wU u (ah 0) (a0 0) (at9 0)) ++ ((wH g ah (sHf2 h (nI b))) ++ ((wT g at9 (sg, (nI n))) ++ ((wK0 g a0 ak ((nI od), (nI (sz + 1)))) ++ (wHs g ak (va_up hs ((od + sz) % 6) h) 6))))) := hD
        refine lv_aload_n hx hb dX3_setPresent_55 rfl (lv_at hl 0 rfl) ?_
        refine va_get (D := g.1) (ci := 3) (v := .ref (ah 0)) (C := RX3) (T := TX3) (N := 3) hx hb hts hiX3 hown hE.1 hP 0 rfl rfl 0 (by decide) f12 (fun _ h9 => h9) rfl dX3_setPresent_56 ?_
        refine k_Vi (As := []) (r := (Hchief (sHf2 h (nI b)))) hF (c_X1_chiefAsker l g ah (sHf2 h (nI b))) (cwV 0 hts gX3_setPresent_X1_chiefAsker rfl rfl rfl (by decide +kernel) ⟨Nat.le_of_ble_eq_true rfl, Nat.le_of_ble_eq_true rfl⟩) hE hP hD hS hA (pm_5_1 _ _ _ _ _) ((pm_5_1 _ _ _ _ _).symm) 1 rfl rfl rfl rfl hl.1 rfl (Nat.le_of_ble_eq_true rfl) dX3_setPresent_59 ⟨Nat.le_of_ble_eq_true rfl, Nat.le_of_ble_eq_true rfl⟩ (fun H locs hP hD hS => ?_)
        have hP : va_P g.1 vwCl ((wU u (ah 0) (a0 0) (at9 0)) ++ ((wH g ah (sHf2 h (nI b))) ++ ((wT g at9 (sg, (nI n))) ++ ((wK0 g a0 ak ((nI od), (nI (sz + 1)))) ++ (wHs g ak (va_up hs ((od + sz) % 6) h) 6))))) _ := hP
        have hD : va_D A ((wU u (ah 0) (a0 0) (at9 0)) ++ ((wH g ah (sHf2 h (nI b))) ++ ((wT g at9 (sg, (nI n))) ++ ((wK0 g a0 ak ((nI od), (nI (sz + 1)))) ++ (wHs g ak (va_up hs ((od + sz) % 6) h) 6))))) := hD
        have e7 : (Lpres w9 b h) = (sHf2 h (nI b)) := (by first | (simp only [Lpres, if_neg c1, if_pos c1, if_pos c5, if_neg (not_not_intro c5), if_neg c6, if_pos c6]; done) | (simp only [Lpres, if_neg c1, if_pos c1, if_pos c5, if_neg (not_not_intro c5), if_neg c6, if_pos c6]; rfl) | rfl | (simp [Lpres, if_neg c1, if_pos c1, if_pos c5, if_neg (not_not_intro c5), if_neg c6, if_pos c6]; done))
        have e8 : (nI od, nI (sz + 1)) = ((nI od), (nI (sz + 1))) := (by first | (simp only [Lpres, if_neg c1, if_pos c1, if_pos c5, if_neg (not_not_intro c5), if_neg c6, if_pos c6]; done) | (simp only [Lpres, if_neg c1, if_pos c1, if_pos c5, if_neg (not_not_intro c5), if_neg c6, if_pos c6]; rfl) | rfl | (simp [Lpres, if_neg c1, if_pos c1, if_pos c5, if_neg (not_not_intro c5), if_neg c6, if_pos c6]; done))
        have hP : va_P g.1 vwCl ((wU u (ah 0) (a0 0) (at9 0)) ++ ((wH g ah (Lpres w9 b h)) ++ ((wT g at9 (sg, (nI n))) ++ ((wK0 g a0 ak (nI od, nI (sz + 1))) ++ (wHs g ak (va_up hs ((od + sz) % 6) h) 6))))) H := by rw [e7, e8]; exact hP
        have hD : va_D A ((wU u (ah 0) (a0 0) (at9 0)) ++ ((wH g ah (Lpres w9 b h)) ++ ((wT g at9 (sg, (nI n))) ++ ((wK0 g a0 ak (nI od, nI (sz + 1))) ++ (wHs g ak (va_up hs ((od + sz) % 6) h) 6))))) := by rw [e7, e8]; exact hD
        exact k_iret hx hb hr hlocks rfl (by first | (simp only [Lpres, bI, if_neg c1, if_pos c1, if_pos c5, if_neg (not_not_intro c5), if_neg c6, if_pos c6]; done) | (simp only [Lpres, bI, if_neg c1, if_pos c1, if_pos c5, if_neg (not_not_intro c5), if_neg c6, if_pos c6]; rfl) | rfl | (simp [Lpres, bI, if_neg c1, if_pos c1, if_pos c5, if_neg (not_not_intro c5), if_neg c6, if_pos c6]; done)) hP hD hS (Nat.le_of_ble_eq_true rfl) (Nat.le_of_ble_eq_true rfl) dX3_setPresent_62
      ·
        exact absurd c6 (by omega)
    ·
      exact absurd hw9 (by omega)
set_option maxHeartbeats 4000000 in
set_option maxRecDepth 100000 in
theorem c_X3_rows (l : Launch) (g : kG) (u : Nat) (ah at9 a0 : Nat → Nat) (ak : Nat → Nat → Nat) (h : HSt) (sg : Nat → Int32) (n od sz : Nat) (hs : Nat → HSt) (c9 : Nat) (hc9 : c9 < 6) : KI l yX3_rows wsX3_rows ({ frames := 2, cells := 0, slots := 0, locals := 44 }) g [.ref u, .int (nI c9)] ((wU u (ah 0) (a0 0) (at9 0)) ++ ((wH g ah h) ++ ((wT g at9 (sg, (nI n))) ++ ((wK0 g a0 ak ((nI od), (nI sz))) ++ (wHs g ak hs 6))))) (Hget h c9 8) ((wU u (ah 0) (a0 0) (at9 0)) ++ ((wH g ah h) ++ ((wT g at9 (sg, (nI n))) ++ ((wK0 g a0 ak ((nI od), (nI sz))) ++ (wHs g ak hs 6))))) 0 0 := by
  refine k_begin (cc := cX3_rows) (maxL := 2) (ret := (some .int)) (Qc := fun A => kQi g (Hget h c9 8) ((wU u (ah 0) (a0 0) (at9 0)) ++ ((wH g ah h) ++ ((wT g at9 (sg, (nI n))) ++ ((wK0 g a0 ak ((nI od), (nI sz))) ++ (wHs g ak hs 6))))) A) (by decide) rfl (Nat.le_of_ble_eq_true rfl) ?_
  intro p e s m below meth c A ls hF hr hlocks hin hE hP hD hS hA hl
  obtain ⟨hx, hb, hml, hown, hts⟩ := id hF
  have hown : s.vm.findClass RX3 = some m.cls := hown
  have hl : lv_has ls 2 [(0, .ref u), (1, .int (nI c9))] := hl
  have hiX3 : ∀ w ∈ wsX30, w ∈ wsX3_rows := fun _ h => List.mem_cons_of_mem _ (List.mem_append_left _ (List.mem_append_left _ (List.mem_append_right _ (h))))
  have f12 : (Cond.fieldLink RX3 12 "ConcertUsher" "hall" "LConcertUsher$Hall;").before _ s = true := hts _ (List.mem_of_getElem? (i := 1) rfl)
  refine lv_iload_n hx hb dX3_rows_0 rfl (lv_at hl 1 rfl) ?_
  refine k_Sv (w0 := []) (w1 := []) (As := [.int (nI c9)]) hF (c_X3_checkConcert l g c9 (by omega)) (va_cwS 1 hts gX3_rows_X3_checkConcert rfl rfl rfl (by decide +kernel) ⟨Nat.le_of_ble_eq_true rfl, Nat.le_of_ble_eq_true rfl⟩) hE hP hD hS hA (List.Perm.refl _) (List.Perm.refl _) rfl hl.1 rfl (Nat.le_of_ble_eq_true rfl) dX3_rows_1 ⟨Nat.le_of_ble_eq_true rfl, Nat.le_of_ble_eq_true rfl⟩ (fun H locs hP hD hS => ?_)
  have hP : va_P g.1 vwCl ((wU u (ah 0) (a0 0) (at9 0)) ++ ((wH g ah h) ++ ((wT g at9 (sg, (nI n))) ++ ((wK0 g a0 ak ((nI od), (nI sz))) ++ (wHs g ak hs 6))))) _ := hP
  have hD : va_D A ((wU u (ah 0) (a0 0) (at9 0)) ++ ((wH g ah h) ++ ((wT g at9 (sg, (nI n))) ++ ((wK0 g a0 ak ((nI od), (nI sz))) ++ (wHs g ak hs 6))))) := hD
  refine lv_aload_n hx hb dX3_rows_4 rfl (lv_at hl 0 rfl) ?_
  refine va_get (D := g.1) (ci := 3) (v := .ref (ah 0)) (C := RX3) (T := TX3) (N := 3) hx hb hts hiX3 hown hE.1 hP 0 rfl rfl 0 (by decide) f12 (fun _ h9 => h9) rfl dX3_rows_5 ?_
  refine lv_iload_n hx hb dX3_rows_8 rfl (lv_at hl 1 rfl) ?_
  refine k_Vi (As := [.int (nI c9)]) (r := (Hget h c9 8)) hF (c_X1_rowsThatGet l g ah h c9 (by omega)) (cwV 1 hts gX3_rows_X1_rowsThatGet rfl rfl rfl (by decide +kernel) ⟨Nat.le_of_ble_eq_true rfl, Nat.le_of_ble_eq_true rfl⟩) hE hP hD hS hA (pm_5_1 _ _ _ _ _) ((pm_5_1 _ _ _ _ _).symm) 1 rfl rfl rfl rfl hl.1 rfl (Nat.le_of_ble_eq_true rfl) dX3_rows_9 ⟨Nat.le_of_ble_eq_true rfl, Nat.le_of_ble_eq_true rfl⟩ (fun H locs hP hD hS => ?_)
  have hP : va_P g.1 vwCl ((wU u (ah 0) (a0 0) (at9 0)) ++ ((wH g ah h) ++ ((wT g at9 (sg, (nI n))) ++ ((wK0 g a0 ak ((nI od), (nI sz))) ++ (wHs g ak hs 6))))) _ := hP
  have hD : va_D A ((wU u (ah 0) (a0 0) (at9 0)) ++ ((wH g ah h) ++ ((wT g at9 (sg, (nI n))) ++ ((wK0 g a0 ak ((nI od), (nI sz))) ++ (wHs g ak hs 6))))) := hD
  have hP : va_P g.1 vwCl ((wU u (ah 0) (a0 0) (at9 0)) ++ ((wH g ah h) ++ ((wT g at9 (sg, (nI n))) ++ ((wK0 g a0 ak ((nI od), (nI sz))) ++ (wHs g ak hs 6))))) _ := hP
  have hD : va_D A ((wU u (ah 0) (a0 0) (at9 0)) ++ ((wH g ah h) ++ ((wT g at9 (sg, (nI n))) ++ ((wK0 g a0 ak ((nI od), (nI sz))) ++ (wHs g ak hs 6))))) := hD
  exact k_iret hx hb hr hlocks rfl rfl hP hD hS (Nat.le_of_ble_eq_true rfl) (Nat.le_of_ble_eq_true rfl) dX3_rows_12
set_option maxHeartbeats 4000000 in
set_option maxRecDepth 100000 in
theorem c_X3_wanted (l : Launch) (g : kG) (u : Nat) (ah at9 a0 : Nat → Nat) (ak : Nat → Nat → Nat) (h : HSt) (sg : Nat → Int32) (n od sz : Nat) (hs : Nat → HSt) (c9 : Nat) (hc9 : c9 < 6) : KI l yX3_wanted wsX3_wanted ({ frames := 2, cells := 0, slots := 0, locals := 44 }) g [.ref u, .int (nI c9)] ((wU u (ah 0) (a0 0) (at9 0)) ++ ((wH g ah h) ++ ((wT g at9 (sg, (nI n))) ++ ((wK0 g a0 ak ((nI od), (nI sz))) ++ (wHs g ak hs 6))))) (Hwant h c9 8) ((wU u (ah 0) (a0 0) (at9 0)) ++ ((wH g ah h) ++ ((wT g at9 (sg, (nI n))) ++ ((wK0 g a0 ak ((nI od), (nI sz))) ++ (wHs g ak hs 6))))) 0 0 := by
  refine k_begin (cc := cX3_wanted) (maxL := 2) (ret := (some .int)) (Qc := fun A => kQi g (Hwant h c9 8) ((wU u (ah 0) (a0 0) (at9 0)) ++ ((wH g ah h) ++ ((wT g at9 (sg, (nI n))) ++ ((wK0 g a0 ak ((nI od), (nI sz))) ++ (wHs g ak hs 6))))) A) (by decide) rfl (Nat.le_of_ble_eq_true rfl) ?_
  intro p e s m below meth c A ls hF hr hlocks hin hE hP hD hS hA hl
  obtain ⟨hx, hb, hml, hown, hts⟩ := id hF
  have hown : s.vm.findClass RX3 = some m.cls := hown
  have hl : lv_has ls 2 [(0, .ref u), (1, .int (nI c9))] := hl
  have hiX3 : ∀ w ∈ wsX30, w ∈ wsX3_wanted := fun _ h => List.mem_cons_of_mem _ (List.mem_append_left _ (List.mem_append_left _ (List.mem_append_right _ (h))))
  have f12 : (Cond.fieldLink RX3 12 "ConcertUsher" "hall" "LConcertUsher$Hall;").before _ s = true := hts _ (List.mem_of_getElem? (i := 1) rfl)
  refine lv_iload_n hx hb dX3_wanted_0 rfl (lv_at hl 1 rfl) ?_
  refine k_Sv (w0 := []) (w1 := []) (As := [.int (nI c9)]) hF (c_X3_checkConcert l g c9 (by omega)) (va_cwS 1 hts gX3_wanted_X3_checkConcert rfl rfl rfl (by decide +kernel) ⟨Nat.le_of_ble_eq_true rfl, Nat.le_of_ble_eq_true rfl⟩) hE hP hD hS hA (List.Perm.refl _) (List.Perm.refl _) rfl hl.1 rfl (Nat.le_of_ble_eq_true rfl) dX3_wanted_1 ⟨Nat.le_of_ble_eq_true rfl, Nat.le_of_ble_eq_true rfl⟩ (fun H locs hP hD hS => ?_)
  have hP : va_P g.1 vwCl ((wU u (ah 0) (a0 0) (at9 0)) ++ ((wH g ah h) ++ ((wT g at9 (sg, (nI n))) ++ ((wK0 g a0 ak ((nI od), (nI sz))) ++ (wHs g ak hs 6))))) _ := hP
  have hD : va_D A ((wU u (ah 0) (a0 0) (at9 0)) ++ ((wH g ah h) ++ ((wT g at9 (sg, (nI n))) ++ ((wK0 g a0 ak ((nI od), (nI sz))) ++ (wHs g ak hs 6))))) := hD
  refine lv_aload_n hx hb dX3_wanted_4 rfl (lv_at hl 0 rfl) ?_
  refine va_get (D := g.1) (ci := 3) (v := .ref (ah 0)) (C := RX3) (T := TX3) (N := 3) hx hb hts hiX3 hown hE.1 hP 0 rfl rfl 0 (by decide) f12 (fun _ h9 => h9) rfl dX3_wanted_5 ?_
  refine lv_iload_n hx hb dX3_wanted_8 rfl (lv_at hl 1 rfl) ?_
  refine k_Vi (As := [.int (nI c9)]) (r := (Hwant h c9 8)) hF (c_X1_rowsThatWant l g ah h c9 (by omega)) (cwV 1 hts gX3_wanted_X1_rowsThatWant rfl rfl rfl (by decide +kernel) ⟨Nat.le_of_ble_eq_true rfl, Nat.le_of_ble_eq_true rfl⟩) hE hP hD hS hA (pm_5_1 _ _ _ _ _) ((pm_5_1 _ _ _ _ _).symm) 1 rfl rfl rfl rfl hl.1 rfl (Nat.le_of_ble_eq_true rfl) dX3_wanted_9 ⟨Nat.le_of_ble_eq_true rfl, Nat.le_of_ble_eq_true rfl⟩ (fun H locs hP hD hS => ?_)
  have hP : va_P g.1 vwCl ((wU u (ah 0) (a0 0) (at9 0)) ++ ((wH g ah h) ++ ((wT g at9 (sg, (nI n))) ++ ((wK0 g a0 ak ((nI od), (nI sz))) ++ (wHs g ak hs 6))))) _ := hP
  have hD : va_D A ((wU u (ah 0) (a0 0) (at9 0)) ++ ((wH g ah h) ++ ((wT g at9 (sg, (nI n))) ++ ((wK0 g a0 ak ((nI od), (nI sz))) ++ (wHs g ak hs 6))))) := hD
  have hP : va_P g.1 vwCl ((wU u (ah 0) (a0 0) (at9 0)) ++ ((wH g ah h) ++ ((wT g at9 (sg, (nI n))) ++ ((wK0 g a0 ak ((nI od), (nI sz))) ++ (wHs g ak hs 6))))) _ := hP
  have hD : va_D A ((wU u (ah 0) (a0 0) (at9 0)) ++ ((wH g ah h) ++ ((wT g at9 (sg, (nI n))) ++ ((wK0 g a0 ak ((nI od), (nI sz))) ++ (wHs g ak hs 6))))) := hD
  exact k_iret hx hb hr hlocks rfl rfl hP hD hS (Nat.le_of_ble_eq_true rfl) (Nat.le_of_ble_eq_true rfl) dX3_wanted_12
set_option maxHeartbeats 4000000 in
set_option maxRecDepth 100000 in
theorem c_X3_play (l : Launch) (g : kG) (u : Nat) (ah at9 a0 : Nat → Nat) (ak : Nat → Nat → Nat) (h : HSt) (sg : Nat → Int32) (n od sz : Nat) (hs : Nat → HSt) (hod : od < 6) (sz5 : sz ≤ 5) (hbo : Hbo h) (c9 : Nat) (hc9 : c9 < 6) : KI l yX3_play wsX3_play ({ frames := 3, cells := 0, slots := 0, locals := 102 }) g [.ref u, .int (nI c9)] ((wU u (ah 0) (a0 0) (at9 0)) ++ ((wH g ah h) ++ ((wT g at9 (sg, (nI n))) ++ ((wK0 g a0 ak ((nI od), (nI sz))) ++ (wHs g ak hs 6))))) (bc (Hget h c9 8)) ((wU u (ah 0) (a0 0) (at9 0)) ++ ((wH g ah (Hperf c9 h)) ++ ((wT g at9 (sg, (nI n))) ++ ((wK0 g a0 ak (nI od, nI (sz + 1))) ++ (wHs g ak (va_up hs ((od + sz) % 6) h) 6))))) 0 0 := by
  refine k_begin (cc := cX3_play) (maxL := 2) (ret := (some .int)) (Qc := fun A => kQi g (bc (Hget h c9 8)) ((wU u (ah 0) (a0 0) (at9 0)) ++ ((wH g ah (Hperf c9 h)) ++ ((wT g at9 (sg, (nI n))) ++ ((wK0 g a0 ak (nI od, nI (sz + 1))) ++ (wHs g ak (va_up hs ((od + sz) % 6) h) 6))))) A) (by decide) rfl (Nat.le_of_ble_eq_true rfl) ?_
  intro p e s m below meth c A ls hF hr hlocks hin hE hP hD hS hA hl
  obtain ⟨hx, hb, hml, hown, hts⟩ := id hF
  have hown : s.vm.findClass RX3 = some m.cls := hown
  have hl : lv_has ls 2 [(0, .ref u), (1, .int (nI c9))] := hl
  have hiX3 : ∀ w ∈ wsX30, w ∈ wsX3_play := fun _ h => List.mem_cons_of_mem _ (List.mem_append_left _ (List.mem_append_left _ (List.mem_append_left _ (List.mem_append_right _ (h)))))
  have f19 : (Cond.fieldLink RX3 19 "ConcertUsher" "history" "LConcertUsher$History;").before _ s = true := hts _ (List.mem_of_getElem? (i := 1) rfl)
  have f12 : (Cond.fieldLink RX3 12 "ConcertUsher" "hall" "LConcertUsher$Hall;").before _ s = true := hts _ (List.mem_of_getElem? (i := 2) rfl)
  refine lv_iload_n hx hb dX3_play_0 rfl (lv_at hl 1 rfl) ?_
  refine k_Sv (w0 := []) (w1 := []) (As := [.int (nI c9)]) hF (c_X3_checkConcert l g c9 (by omega)) (va_cwS 1 hts gX3_play_X3_checkConcert rfl rfl rfl (by decide +kernel) ⟨Nat.le_of_ble_eq_true rfl, Nat.le_of_ble_eq_true rfl⟩) hE hP hD hS hA (List.Perm.refl _) (List.Perm.refl _) rfl hl.1 rfl (Nat.le_of_ble_eq_true rfl) dX3_play_1 ⟨Nat.le_of_ble_eq_true rfl, Nat.le_of_ble_eq_true rfl⟩ (fun H locs hP hD hS => ?_)
  have hP : va_P g.1 vwCl ((wU u (ah 0) (a0 0) (at9 0)) ++ ((wH g ah h) ++ ((wT g at9 (sg, (nI n))) ++ ((wK0 g a0 ak ((nI od), (nI sz))) ++ (wHs g ak hs 6))))) _ := hP
  have hD : va_D A ((wU u (ah 0) (a0 0) (at9 0)) ++ ((wH g ah h) ++ ((wT g at9 (sg, (nI n))) ++ ((wK0 g a0 ak ((nI od), (nI sz))) ++ (wHs g ak hs 6))))) := hD
  refine lv_aload_n hx hb dX3_play_4 rfl (lv_at hl 0 rfl) ?_
  refine va_get (D := g.1) (ci := 3) (v := .ref (a0 0)) (C := RX3) (T := TX3) (N := 3) hx hb hts hiX3 hown hE.1 hP 0 rfl rfl 1 (by decide) f19 (fun _ h9 => h9) rfl dX3_play_5 ?_
  refine lv_aload_n hx hb dX3_play_8 rfl (lv_at hl 0 rfl) ?_
  refine va_get (D := g.1) (ci := 3) (v := .ref (ah 0)) (C := RX3) (T := TX3) (N := 3) hx hb hts hiX3 hown hE.1 hP 0 rfl rfl 0 (by decide) f12 (fun _ h9 => h9) rfl dX3_play_9 ?_
  refine k_Vv (As := [.ref (ah 0)]) hF (c_X2_keep l g a0 ak ah od sz (by omega) (by omega) hs h hbo) (cwV 1 hts gX3_play_X2_keep rfl rfl rfl (by decide +kernel) ⟨Nat.le_of_ble_eq_true rfl, Nat.le_of_ble_eq_true rfl⟩) hE hP hD hS hA (pm_5_341 _ _ _ _ _) ((pm_5_341 _ _ _ _ _).symm) 7 rfl rfl rfl rfl hl.1 rfl (Nat.le_of_ble_eq_true rfl) dX3_play_12 ⟨Nat.le_of_ble_eq_true rfl, Nat.le_of_ble_eq_true rfl⟩ (fun H locs hP hD hS => ?_)
  have hP : va_P g.1 vwCl ((wU u (ah 0) (a0 0) (at9 0)) ++ ((wH g ah h) ++ ((wT g at9 (sg, (nI n))) ++ ((wK0 g a0 ak ((nI (kOd od sz)), (nI (kSz sz)))) ++ (wHs g ak (va_up hs (kJ od sz) h) 6))))) _ := hP
  have hD : va_D A ((wU u (ah 0) (a0 0) (at9 0)) ++ ((wH g ah h) ++ ((wT g at9 (sg, (nI n))) ++ ((wK0 g a0 ak ((nI (kOd od sz)), (nI (kSz sz)))) ++ (wHs g ak (va_up hs (kJ od sz) h) 6))))) := hD
  rw [kOd5 sz5, kSz5 sz5, kJ5 sz5] at hP hD
  refine lv_aload_n hx hb dX3_play_15 rfl (lv_at hl 0 rfl) ?_
  refine va_get (D := g.1) (ci := 3) (v := .ref (ah 0)) (C := RX3) (T := TX3) (N := 3) hx hb hts hiX3 hown hE.1 hP 0 rfl rfl 0 (by decide) f12 (fun _ h9 => h9) rfl dX3_play_16 ?_
  refine lv_iload_n hx hb dX3_play_19 rfl (lv_at hl 1 rfl) ?_
  refine k_Vi (As := [.int (nI c9)]) (r := (bc (Hget h c9 8))) hF (c_X1_perform l g ah h c9 (by omega)) (cwV 1 hts gX3_play_X1_perform rfl rfl rfl (by decide +kernel) ⟨Nat.le_of_ble_eq_true rfl, Nat.le_of_ble_eq_true rfl⟩) hE hP hD hS hA (pm_5_1 _ _ _ _ _) ((pm_5_1 _ _ _ _ _).symm) 1 rfl rfl rfl rfl hl.1 rfl (Nat.le_of_ble_eq_true rfl) dX3_play_20 ⟨Nat.le_of_ble_eq_true rfl, Nat.le_of_ble_eq_true rfl⟩ (fun H locs hP hD hS => ?_)
  have hP : va_P g.1 vwCl ((wU u (ah 0) (a0 0) (at9 0)) ++ ((wH g ah (Hperf c9 h)) ++ ((wT g at9 (sg, (nI n))) ++ ((wK0 g a0 ak ((nI od), (nI (sz + 1)))) ++ (wHs g ak (va_up hs ((od + sz) % 6) h) 6))))) _ := hP
  have hD : va_D A ((wU u (ah 0) (a0 0) (at9 0)) ++ ((wH g ah (Hperf c9 h)) ++ ((wT g at9 (sg, (nI n))) ++ ((wK0 g a0 ak ((nI od), (nI (sz + 1)))) ++ (wHs g ak (va_up hs ((od + sz) % 6) h) 6))))) := hD
  obtain ⟨z1, ez1⟩ : ∃ x : HSt, (Hperf c9 h) = x := ⟨_, rfl⟩
  rw [ez1] at hP hD
  have e2 : (Hperf c9 h) = z1 := (by subst ez1; first | rfl | (simp only [if_true]; done) | (simp only [if_true]; rfl) | (simp [if_true]; done))
  have e3 : (nI od, nI (sz + 1)) = ((nI od), (nI (sz + 1))) := (by subst ez1; first | rfl | (simp only [if_true]; done) | (simp only [if_true]; rfl) | (simp [if_true]; done))
  have hP : va_P g.1 vwCl ((wU u (ah 0) (a0 0) (at9 0)) ++ ((wH g ah (Hperf c9 h)) ++ ((wT g at9 (sg, (nI n))) ++ ((wK0 g a0 ak (nI od, nI (sz + 1))) ++ (wHs g ak (va_up hs ((od + sz) % 6) h) 6))))) H := by rw [e2, e3]; exact hP
  have hD : va_D A ((wU u (ah 0) (a0 0) (at9 0)) ++ ((wH g ah (Hperf c9 h)) ++ ((wT g at9 (sg, (nI n))) ++ ((wK0 g a0 ak (nI od, nI (sz + 1))) ++ (wHs g ak (va_up hs ((od + sz) % 6) h) 6))))) := by rw [e2, e3]; exact hD
  exact k_iret hx hb hr hlocks rfl (by subst ez1; first | rfl | (simp only [bI]; done) | (simp only [bI]; rfl) | (simp [bI]; done)) hP hD hS (Nat.le_of_ble_eq_true rfl) (Nat.le_of_ble_eq_true rfl) dX3_play_23
set_option maxHeartbeats 4000000 in
set_option maxRecDepth 100000 in
theorem c_X3_pass (l : Launch) (g : kG) (u : Nat) (ah at9 a0 : Nat → Nat) (ak : Nat → Nat → Nat) (h : HSt) (sg : Nat → Int32) (n od sz : Nat) (hs : Nat → HSt) (hod : od < 6) (sz5 : sz ≤ 5) (hbo : Hbo h) (m9 : Nat) (g1 : 1 ≤ m9) (g2 : m9 ≤ 60) : KI l yX3_pass wsX3_pass ({ frames := 3, cells := 0, slots := 0, locals := 102 }) g [.ref u, .int (nI m9)] ((wU u (ah 0) (a0 0) (at9 0)) ++ ((wH g ah h) ++ ((wT g at9 (sg, (nI n))) ++ ((wK0 g a0 ak ((nI od), (nI sz))) ++ (wHs g ak hs 6))))) (nI (HpassQ h m9)) ((wU u (ah 0) (a0 0) (at9 0)) ++ ((wH g ah (HpassN h m9)) ++ ((wT g at9 (sg, (nI n))) ++ ((wK0 g a0 ak (nI od, nI (sz + 1))) ++ (wHs g ak (va_up hs ((od + sz) % 6) h) 6))))) 0 0 := by
  refine k_begin (cc := cX3_pass) (maxL := 2) (ret := (some .int)) (Qc := fun A => kQi g (nI (HpassQ h m9)) ((wU u (ah 0) (a0 0) (at9 0)) ++ ((wH g ah (HpassN h m9)) ++ ((wT g at9 (sg, (nI n))) ++ ((wK0 g a0 ak (nI od, nI (sz + 1))) ++ (wHs g ak (va_up hs ((od + sz) % 6) h) 6))))) A) (by decide) rfl (Nat.le_of_ble_eq_true rfl) ?_
  intro p e s m below meth c A ls hF hr hlocks hin hE hP hD hS hA hl
  obtain ⟨hx, hb, hml, hown, hts⟩ := id hF
  have hown : s.vm.findClass RX3 = some m.cls := hown
  have hl : lv_has ls 2 [(0, .ref u), (1, .int (nI m9))] := hl
  have hiX3 : ∀ w ∈ wsX30, w ∈ wsX3_pass := fun _ h => List.mem_cons_of_mem _ (List.mem_append_left _ (List.mem_append_left _ (List.mem_append_left _ (List.mem_append_right _ (h)))))
  have f19 : (Cond.fieldLink RX3 19 "ConcertUsher" "history" "LConcertUsher$History;").before _ s = true := hts _ (List.mem_of_getElem? (i := 1) rfl)
  have f12 : (Cond.fieldLink RX3 12 "ConcertUsher" "hall" "LConcertUsher$Hall;").before _ s = true := hts _ (List.mem_of_getElem? (i := 2) rfl)
  refine lv_iload_n hx hb dX3_pass_0 rfl (lv_at hl 1 rfl) ?_
  refine k_Sv (w0 := []) (w1 := []) (As := [.int (nI m9)]) hF (c_X3_checkMinutes l g m9 (by omega) (by omega)) (va_cwS 1 hts gX3_pass_X3_checkMinutes rfl rfl rfl (by decide +kernel) ⟨Nat.le_of_ble_eq_true rfl, Nat.le_of_ble_eq_true rfl⟩) hE hP hD hS hA (List.Perm.refl _) (List.Perm.refl _) rfl hl.1 rfl (Nat.le_of_ble_eq_true rfl) dX3_pass_1 ⟨Nat.le_of_ble_eq_true rfl, Nat.le_of_ble_eq_true rfl⟩ (fun H locs hP hD hS => ?_)
  have hP : va_P g.1 vwCl ((wU u (ah 0) (a0 0) (at9 0)) ++ ((wH g ah h) ++ ((wT g at9 (sg, (nI n))) ++ ((wK0 g a0 ak ((nI od), (nI sz))) ++ (wHs g ak hs 6))))) _ := hP
  have hD : va_D A ((wU u (ah 0) (a0 0) (at9 0)) ++ ((wH g ah h) ++ ((wT g at9 (sg, (nI n))) ++ ((wK0 g a0 ak ((nI od), (nI sz))) ++ (wHs g ak hs 6))))) := hD
  refine lv_aload_n hx hb dX3_pass_4 rfl (lv_at hl 0 rfl) ?_
  refine va_get (D := g.1) (ci := 3) (v := .ref (a0 0)) (C := RX3) (T := TX3) (N := 3) hx hb hts hiX3 hown hE.1 hP 0 rfl rfl 1 (by decide) f19 (fun _ h9 => h9) rfl dX3_pass_5 ?_
  refine lv_aload_n hx hb dX3_pass_8 rfl (lv_at hl 0 rfl) ?_
  refine va_get (D := g.1) (ci := 3) (v := .ref (ah 0)) (C := RX3) (T := TX3) (N := 3) hx hb hts hiX3 hown hE.1 hP 0 rfl rfl 0 (by decide) f12 (fun _ h9 => h9) rfl dX3_pass_9 ?_
  refine k_Vv (As := [.ref (ah 0)]) hF (c_X2_keep l g a0 ak ah od sz (by omega) (by omega) hs h hbo) (cwV 1 hts gX3_pass_X2_keep rfl rfl rfl (by decide +kernel) ⟨Nat.le_of_ble_eq_true rfl, Nat.le_of_ble_eq_true rfl⟩) hE hP hD hS hA (pm_5_341 _ _ _ _ _) ((pm_5_341 _ _ _ _ _).symm) 7 rfl rfl rfl rfl hl.1 rfl (Nat.le_of_ble_eq_true rfl) dX3_pass_12 ⟨Nat.le_of_ble_eq_true rfl, Nat.le_of_ble_eq_true rfl⟩ (fun H locs hP hD hS => ?_)
  have hP : va_P g.1 vwCl ((wU u (ah 0) (a0 0) (at9 0)) ++ ((wH g ah h) ++ ((wT g at9 (sg, (nI n))) ++ ((wK0 g a0 ak ((nI (kOd od sz)), (nI (kSz sz)))) ++ (wHs g ak (va_up hs (kJ od sz) h) 6))))) _ := hP
  have hD : va_D A ((wU u (ah 0) (a0 0) (at9 0)) ++ ((wH g ah h) ++ ((wT g at9 (sg, (nI n))) ++ ((wK0 g a0 ak ((nI (kOd od sz)), (nI (kSz sz)))) ++ (wHs g ak (va_up hs (kJ od sz) h) 6))))) := hD
  rw [kOd5 sz5, kSz5 sz5, kJ5 sz5] at hP hD
  refine lv_aload_n hx hb dX3_pass_15 rfl (lv_at hl 0 rfl) ?_
  refine va_get (D := g.1) (ci := 3) (v := .ref (ah 0)) (C := RX3) (T := TX3) (N := 3) hx hb hts hiX3 hown hE.1 hP 0 rfl rfl 0 (by decide) f12 (fun _ h9 => h9) rfl dX3_pass_16 ?_
  refine lv_iload_n hx hb dX3_pass_19 rfl (lv_at hl 1 rfl) ?_
  refine k_Vi (As := [.int (nI m9)]) (r := (nI (HpassQ h m9))) hF (c_X1_letPass l g ah h m9 (by omega)) (cwV 1 hts gX3_pass_X1_letPass rfl rfl rfl (by decide +kernel) ⟨Nat.le_of_ble_eq_true rfl, Nat.le_of_ble_eq_true rfl⟩) hE hP hD hS hA (pm_5_1 _ _ _ _ _) ((pm_5_1 _ _ _ _ _).symm) 1 rfl rfl rfl rfl hl.1 rfl (Nat.le_of_ble_eq_true rfl) dX3_pass_20 ⟨Nat.le_of_ble_eq_true rfl, Nat.le_of_ble_eq_true rfl⟩ (fun H locs hP hD hS => ?_)
  have hP : va_P g.1 vwCl ((wU u (ah 0) (a0 0) (at9 0)) ++ ((wH g ah (HpassN h m9)) ++ ((wT g at9 (sg, (nI n))) ++ ((wK0 g a0 ak ((nI od), (nI (sz + 1)))) ++ (wHs g ak (va_up hs ((od + sz) % 6) h) 6))))) _ := hP
  have hD : va_D A ((wU u (ah 0) (a0 0) (at9 0)) ++ ((wH g ah (HpassN h m9)) ++ ((wT g at9 (sg, (nI n))) ++ ((wK0 g a0 ak ((nI od), (nI (sz + 1)))) ++ (wHs g ak (va_up hs ((od + sz) % 6) h) 6))))) := hD
  obtain ⟨z1, ez1⟩ : ∃ x : HSt, (HpassN h m9) = x := ⟨_, rfl⟩
  rw [ez1] at hP hD
  have e2 : (HpassN h m9) = z1 := (by subst ez1; first | rfl | (simp only [if_true]; done) | (simp only [if_true]; rfl) | (simp [if_true]; done))
  have e3 : (nI od, nI (sz + 1)) = ((nI od), (nI (sz + 1))) := (by subst ez1; first | rfl | (simp only [if_true]; done) | (simp only [if_true]; rfl) | (simp [if_true]; done))
  have hP : va_P g.1 vwCl ((wU u (ah 0) (a0 0) (at9 0)) ++ ((wH g ah (HpassN h m9)) ++ ((wT g at9 (sg, (nI n))) ++ ((wK0 g a0 ak (nI od, nI (sz + 1))) ++ (wHs g ak (va_up hs ((od + sz) % 6) h) 6))))) H := by rw [e2, e3]; exact hP
  have hD : va_D A ((wU u (ah 0) (a0 0) (at9 0)) ++ ((wH g ah (HpassN h m9)) ++ ((wT g at9 (sg, (nI n))) ++ ((wK0 g a0 ak (nI od, nI (sz + 1))) ++ (wHs g ak (va_up hs ((od + sz) % 6) h) 6))))) := by rw [e2, e3]; exact hD
  exact k_iret hx hb hr hlocks rfl (by subst ez1; first | rfl | (simp only [bI]; done) | (simp only [bI]; rfl) | (simp [bI]; done)) hP hD hS (Nat.le_of_ble_eq_true rfl) (Nat.le_of_ble_eq_true rfl) dX3_pass_23
set_option maxHeartbeats 4000000 in
set_option maxRecDepth 100000 in
theorem c_X3_count (l : Launch) (g : kG) (u : Nat) (ah at9 a0 : Nat → Nat) (ak : Nat → Nat → Nat) (h : HSt) (sg : Nat → Int32) (n od sz : Nat) (hs : Nat → HSt) (q9 : Nat) (hq9 : q9 < 6) : KI l yX3_count wsX3_count ({ frames := 0, cells := 0, slots := 0, locals := 0 }) g [.ref u, .int (nI q9)] ((wU u (ah 0) (a0 0) (at9 0)) ++ ((wH g ah h) ++ ((wT g at9 (sg, (nI n))) ++ ((wK0 g a0 ak ((nI od), (nI sz))) ++ (wHs g ak hs 6))))) ((hC h) q9) ((wU u (ah 0) (a0 0) (at9 0)) ++ ((wH g ah h) ++ ((wT g at9 (sg, (nI n))) ++ ((wK0 g a0 ak ((nI od), (nI sz))) ++ (wHs g ak hs 6))))) 0 0 := by
  refine k_begin (cc := cX3_count) (maxL := 2) (ret := (some .int)) (Qc := fun A => kQi g ((hC h) q9) ((wU u (ah 0) (a0 0) (at9 0)) ++ ((wH g ah h) ++ ((wT g at9 (sg, (nI n))) ++ ((wK0 g a0 ak ((nI od), (nI sz))) ++ (wHs g ak hs 6))))) A) (by decide) rfl (Nat.le_of_ble_eq_true rfl) ?_
  intro p e s m below meth c A ls hF hr hlocks hin hE hP hD hS hA hl
  obtain ⟨hx, hb, hml, hown, hts⟩ := id hF
  have hown : s.vm.findClass RX3 = some m.cls := hown
  have hl : lv_has ls 2 [(0, .ref u), (1, .int (nI q9))] := hl
  have hiX3 : ∀ w ∈ wsX30, w ∈ wsX3_count := fun _ h => List.mem_cons_of_mem _ (List.mem_append_left _ (List.mem_append_left _ (List.mem_append_right _ (h))))
  have hiX1 : ∀ w ∈ wsX10, w ∈ wsX3_count := fun _ h => List.mem_cons_of_mem _ (List.mem_append_left _ (List.mem_append_right _ (h)))
  have f12 : (Cond.fieldLink RX3 12 "ConcertUsher" "hall" "LConcertUsher$Hall;").before _ s = true := hts _ (List.mem_of_getElem? (i := 3) rfl)
  have f146 : (Cond.fieldLink RX3 146 "ConcertUsher$Hall" "counts" "[I").before _ s = true := hts _ (List.mem_of_getElem? (i := 4) rfl)
  refine lv_iload_n hx hb dX3_count_0 rfl (lv_at hl 1 rfl) ?_
  refine lv_if_lt (tgt := 10) hx hb dX3_count_1 (by decide) (fun c1 => ?_) (fun c1 => ?_)
  ·
    exact absurd c1 (nI_pos (by omega))
  ·
    refine lv_iload_n hx hb dX3_count_4 rfl (lv_at hl 1 rfl) ?_
    refine lv_bipush (v := (nI 6)) hx hb dX3_count_5 (by decide) ?_
    refine k_ltN (tgt := 20) hx hb (by omega) (by decide) dX3_count_7 (by decide) (fun c2 => ?_) (fun c2 => ?_)
    ·
      refine lv_aload_n hx hb dX3_count_20 rfl (lv_at hl 0 rfl) ?_
      refine va_get (D := g.1) (ci := 3) (v := .ref (ah 0)) (C := RX3) (T := TX3) (N := 3) hx hb hts hiX3 hown hE.1 hP 0 rfl rfl 0 (by decide) f12 (fun _ h9 => h9) rfl dX3_count_21 ?_
      refine va_get (D := g.1) (ci := 1) (v := .ref (ah 3)) (C := RX1) (T := TX1) (N := 12) hx hb hts hiX1 hown hE.1 hP 1 rfl rfl 2 (by decide) f146 (fun _ h9 => h9) rfl dX3_count_24 ?_
      refine lv_iload_n hx hb dX3_count_27 rfl (lv_at hl 1 rfl) ?_
      refine k_iald (f := (hC h)) hx hb hE hP 4 rfl q9 rfl (by omega) (by decide) dX3_count_28 ?_
      have hP : va_P g.1 vwCl ((wU u (ah 0) (a0 0) (at9 0)) ++ ((wH g ah h) ++ ((wT g at9 (sg, (nI n))) ++ ((wK0 g a0 ak ((nI od), (nI sz))) ++ (wHs g ak hs 6))))) _ := hP
      have hD : va_D A ((wU u (ah 0) (a0 0) (at9 0)) ++ ((wH g ah h) ++ ((wT g at9 (sg, (nI n))) ++ ((wK0 g a0 ak ((nI od), (nI sz))) ++ (wHs g ak hs 6))))) := hD
      exact k_iret hx hb hr hlocks rfl rfl hP hD hS (Nat.le_of_ble_eq_true rfl) (Nat.le_of_ble_eq_true rfl) dX3_count_29
    ·
      exact absurd c2 (by omega)
set_option maxHeartbeats 4000000 in
set_option maxRecDepth 100000 in
theorem c_X3_undo (l : Launch) (g : kG) (u : Nat) (ah at9 a0 : Nat → Nat) (ak : Nat → Nat → Nat) (h : HSt) (sg : Nat → Int32) (n od sz : Nat) (hs : Nat → HSt) (hod : od < 6) (hsz : sz + 1 ≤ 6) (hbs : ∀ j, Hbo (hs j)) : KI l yX3_undo wsX3_undo ({ frames := 3, cells := 0, slots := 0, locals := 102 }) g [.ref u] ((wU u (ah 0) (a0 0) (at9 0)) ++ ((wH g ah h) ++ ((wT g at9 (sg, (nI n))) ++ ((wK0 g a0 ak ((nI od), (nI (sz + 1)))) ++ (wHs g ak hs 6))))) (nI sz) ((wU u (ah 0) (a0 0) (at9 0)) ++ ((wH g ah (hs ((od + sz) % 6))) ++ ((wT g at9 (sg, (nI n))) ++ ((wK0 g a0 ak (nI od, nI sz)) ++ (wHs g ak hs 6))))) 0 0 := by
  refine k_begin (cc := cX3_undo) (maxL := 1) (ret := (some .int)) (Qc := fun A => kQi g (nI sz) ((wU u (ah 0) (a0 0) (at9 0)) ++ ((wH g ah (hs ((od + sz) % 6))) ++ ((wT g at9 (sg, (nI n))) ++ ((wK0 g a0 ak (nI od, nI sz)) ++ (wHs g ak hs 6))))) A) (by decide) rfl (Nat.le_of_ble_eq_true rfl) ?_
  intro p e s m below meth c A ls hF hr hlocks hin hE hP hD hS hA hl
  obtain ⟨hx, hb, hml, hown, hts⟩ := id hF
  have hown : s.vm.findClass RX3 = some m.cls := hown
  have hl : lv_has ls 1 [(0, .ref u)] := hl
  have hiX3 : ∀ w ∈ wsX30, w ∈ wsX3_undo := fun _ h => List.mem_cons_of_mem _ (List.mem_append_left _ (List.mem_append_left _ (List.mem_append_left _ (List.mem_append_right _ (h)))))
  have hiX2 : ∀ w ∈ wsX20, w ∈ wsX3_undo := fun _ h => List.mem_cons_of_mem _ (List.mem_append_left _ (List.mem_append_left _ (List.mem_append_right _ (h))))
  have f19 : (Cond.fieldLink RX3 19 "ConcertUsher" "history" "LConcertUsher$History;").before _ s = true := hts _ (List.mem_of_getElem? (i := 3) rfl)
  have f181 : (Cond.fieldLink RX3 181 "ConcertUsher$History" "size" "I").before _ s = true := hts _ (List.mem_of_getElem? (i := 4) rfl)
  have f12 : (Cond.fieldLink RX3 12 "ConcertUsher" "hall" "LConcertUsher$Hall;").before _ s = true := hts _ (List.mem_of_getElem? (i := 5) rfl)
  refine lv_aload_n hx hb dX3_undo_0 rfl (lv_at hl 0 rfl) ?_
  refine va_get (D := g.1) (ci := 3) (v := .ref (a0 0)) (C := RX3) (T := TX3) (N := 3) hx hb hts hiX3 hown hE.1 hP 0 rfl rfl 1 (by decide) f19 (fun _ h9 => h9) rfl dX3_undo_1 ?_
  refine va_get (D := g.1) (ci := 2) (v := .int (nI (sz + 1))) (C := RX2) (T := TX2) (N := 3) hx hb hts hiX2 hown hE.1 hP 7 rfl rfl 2 (by decide) f181 (fun _ h9 => h9) rfl dX3_undo_4 ?_
  refine k_ifn0 (tgt := 20) hx hb (by omega) dX3_undo_7 (by decide) (fun c1 => ?_) (fun c1 => ?_)
  ·
    refine lv_aload_n hx hb dX3_undo_20 rfl (lv_at hl 0 rfl) ?_
    refine va_get (D := g.1) (ci := 3) (v := .ref (a0 0)) (C := RX3) (T := TX3) (N := 3) hx hb hts hiX3 hown hE.1 hP 0 rfl rfl 1 (by decide) f19 (fun _ h9 => h9) rfl dX3_undo_21 ?_
    refine lv_aload_n hx hb dX3_undo_24 rfl (lv_at hl 0 rfl) ?_
    refine va_get (D := g.1) (ci := 3) (v := .ref (ah 0)) (C := RX3) (T := TX3) (N := 3) hx hb hts hiX3 hown hE.1 hP 0 rfl rfl 0 (by decide) f12 (fun _ h9 => h9) rfl dX3_undo_25 ?_
    refine k_Vv (As := [.ref (ah 0)]) hF (c_X2_takeBack l g a0 ak ah od (sz + 1) (by omega) (by omega) hs h (by omega) hbs) (cwV 1 hts gX3_undo_X2_takeBack rfl rfl rfl (by decide +kernel) ⟨Nat.le_of_ble_eq_true rfl, Nat.le_of_ble_eq_true rfl⟩) hE hP hD hS hA (pm_5_341 _ _ _ _ _) ((pm_5_341 _ _ _ _ _).symm) 7 rfl rfl rfl rfl hl.1 rfl (Nat.le_of_ble_eq_true rfl) dX3_undo_28 ⟨Nat.le_of_ble_eq_true rfl, Nat.le_of_ble_eq_true rfl⟩ (fun H locs hP hD hS => ?_)
    have hP : va_P g.1 vwCl ((wU u (ah 0) (a0 0) (at9 0)) ++ ((wH g ah (hs ((od + ((sz + 1) - 1)) % 6))) ++ ((wT g at9 (sg, (nI n))) ++ ((wK0 g a0 ak ((nI od), (nI ((sz + 1) - 1)))) ++ (wHs g ak hs 6))))) _ := hP
    have hD : va_D A ((wU u (ah 0) (a0 0) (at9 0)) ++ ((wH g ah (hs ((od + ((sz + 1) - 1)) % 6))) ++ ((wT g at9 (sg, (nI n))) ++ ((wK0 g a0 ak ((nI od), (nI ((sz + 1) - 1)))) ++ (wHs g ak hs 6))))) := hD
    obtain ⟨z2, ez2⟩ : ∃ x : HSt, (hs ((od + ((sz + 1) - 1)) % 6)) = x := ⟨_, rfl⟩
    rw [ez2] at hP hD
    refine lv_aload_n hx hb dX3_undo_31 rfl (lv_at hl 0 rfl) ?_
    refine va_get (D := g.1) (ci := 3) (v := .ref (a0 0)) (C := RX3) (T := TX3) (N := 3) hx hb hts hiX3 hown hE.1 hP 0 rfl rfl 1 (by decide) f19 (fun _ h9 => h9) rfl dX3_undo_32 ?_
    refine va_get (D := g.1) (ci := 2) (v := .int (nI ((sz + 1) - 1))) (C := RX2) (T := TX2) (N := 3) hx hb hts hiX2 hown hE.1 hP 7 rfl rfl 2 (by decide) f181 (fun _ h9 => h9) rfl dX3_undo_35 ?_
    have e3 : (hs ((od + sz) % 6)) = z2 := (by subst ez2; first | (simp only [if_neg c1, if_pos c1]; done) | (simp only [if_neg c1, if_pos c1]; rfl) | rfl | (simp [if_neg c1, if_pos c1]; done))
    have e4 : (nI od, nI sz) = ((nI od), (nI ((sz + 1) - 1))) := (by subst ez2; first | (simp only [if_neg c1, if_pos c1]; done) | (simp only [if_neg c1, if_pos c1]; rfl) | rfl | (simp [if_neg c1, if_pos c1]; done))
    have hP : va_P g.1 vwCl ((wU u (ah 0) (a0 0) (at9 0)) ++ ((wH g ah (hs ((od + sz) % 6))) ++ ((wT g at9 (sg, (nI n))) ++ ((wK0 g a0 ak (nI od, nI sz)) ++ (wHs g ak hs 6))))) H := by rw [e3, e4]; exact hP
    have hD : va_D A ((wU u (ah 0) (a0 0) (at9 0)) ++ ((wH g ah (hs ((od + sz) % 6))) ++ ((wT g at9 (sg, (nI n))) ++ ((wK0 g a0 ak (nI od, nI sz)) ++ (wHs g ak hs 6))))) := by rw [e3, e4]; exact hD
    exact k_iret hx hb hr hlocks rfl (by subst ez2; first | (simp only [bI, if_neg c1, if_pos c1]; done) | (simp only [bI, if_neg c1, if_pos c1]; rfl) | rfl | (simp [bI, if_neg c1, if_pos c1]; done)) hP hD hS (Nat.le_of_ble_eq_true rfl) (Nat.le_of_ble_eq_true rfl) dX3_undo_38
  ·
    exact absurd c1 (by omega)
set_option maxHeartbeats 4000000 in
set_option maxRecDepth 100000 in
theorem c_X3_chief (l : Launch) (g : kG) (u : Nat) (ah at9 a0 : Nat → Nat) (ak : Nat → Nat → Nat) (h : HSt) (sg : Nat → Int32) (n od sz : Nat) (hs : Nat → HSt) : KI l yX3_chief wsX3_chief ({ frames := 1, cells := 0, slots := 0, locals := 20 }) g [.ref u] ((wU u (ah 0) (a0 0) (at9 0)) ++ ((wH g ah h) ++ ((wT g at9 (sg, (nI n))) ++ ((wK0 g a0 ak ((nI od), (nI sz))) ++ (wHs g ak hs 6))))) (Hchief h) ((wU u (ah 0) (a0 0) (at9 0)) ++ ((wH g ah h) ++ ((wT g at9 (sg, (nI n))) ++ ((wK0 g a0 ak ((nI od), (nI sz))) ++ (wHs g ak hs 6))))) 0 0 := by
  refine k_begin (cc := cX3_chief) (maxL := 1) (ret := (some .int)) (Qc := fun A => kQi g (Hchief h) ((wU u (ah 0) (a0 0) (at9 0)) ++ ((wH g ah h) ++ ((wT g at9 (sg, (nI n))) ++ ((wK0 g a0 ak ((nI od), (nI sz))) ++ (wHs g ak hs 6))))) A) (by decide) rfl (Nat.le_of_ble_eq_true rfl) ?_
  intro p e s m below meth c A ls hF hr hlocks hin hE hP hD hS hA hl
  obtain ⟨hx, hb, hml, hown, hts⟩ := id hF
  have hown : s.vm.findClass RX3 = some m.cls := hown
  have hl : lv_has ls 1 [(0, .ref u)] := hl
  have hiX3 : ∀ w ∈ wsX30, w ∈ wsX3_chief := fun _ h => List.mem_cons_of_mem _ (List.mem_append_left _ (List.mem_append_right _ (h)))
  have f12 : (Cond.fieldLink RX3 12 "ConcertUsher" "hall" "LConcertUsher$Hall;").before _ s = true := hts _ (List.mem_of_getElem? (i := 1) rfl)
  refine lv_aload_n hx hb dX3_chief_0 rfl (lv_at hl 0 rfl) ?_
  refine va_get (D := g.1) (ci := 3) (v := .ref (ah 0)) (C := RX3) (T := TX3) (N := 3) hx hb hts hiX3 hown hE.1 hP 0 rfl rfl 0 (by decide) f12 (fun _ h9 => h9) rfl dX3_chief_1 ?_
  refine k_Vi (As := []) (r := (Hchief h)) hF (c_X1_chiefAsker l g ah h) (cwV 0 hts gX3_chief_X1_chiefAsker rfl rfl rfl (by decide +kernel) ⟨Nat.le_of_ble_eq_true rfl, Nat.le_of_ble_eq_true rfl⟩) hE hP hD hS hA (pm_5_1 _ _ _ _ _) ((pm_5_1 _ _ _ _ _).symm) 1 rfl rfl rfl rfl hl.1 rfl (Nat.le_of_ble_eq_true rfl) dX3_chief_4 ⟨Nat.le_of_ble_eq_true rfl, Nat.le_of_ble_eq_true rfl⟩ (fun H locs hP hD hS => ?_)
  have hP : va_P g.1 vwCl ((wU u (ah 0) (a0 0) (at9 0)) ++ ((wH g ah h) ++ ((wT g at9 (sg, (nI n))) ++ ((wK0 g a0 ak ((nI od), (nI sz))) ++ (wHs g ak hs 6))))) _ := hP
  have hD : va_D A ((wU u (ah 0) (a0 0) (at9 0)) ++ ((wH g ah h) ++ ((wT g at9 (sg, (nI n))) ++ ((wK0 g a0 ak ((nI od), (nI sz))) ++ (wHs g ak hs 6))))) := hD
  have hP : va_P g.1 vwCl ((wU u (ah 0) (a0 0) (at9 0)) ++ ((wH g ah h) ++ ((wT g at9 (sg, (nI n))) ++ ((wK0 g a0 ak ((nI od), (nI sz))) ++ (wHs g ak hs 6))))) _ := hP
  have hD : va_D A ((wU u (ah 0) (a0 0) (at9 0)) ++ ((wH g ah h) ++ ((wT g at9 (sg, (nI n))) ++ ((wK0 g a0 ak ((nI od), (nI sz))) ++ (wHs g ak hs 6))))) := hD
  exact k_iret hx hb hr hlocks rfl rfl hP hD hS (Nat.le_of_ble_eq_true rfl) (Nat.le_of_ble_eq_true rfl) dX3_chief_7
set_option maxHeartbeats 4000000 in
set_option maxRecDepth 100000 in
theorem c_X3_minutes (l : Launch) (g : kG) (u : Nat) (ah at9 a0 : Nat → Nat) (ak : Nat → Nat → Nat) (h : HSt) (sg : Nat → Int32) (n od sz : Nat) (hs : Nat → HSt) : KI l yX3_minutes wsX3_minutes ({ frames := 0, cells := 0, slots := 0, locals := 0 }) g [.ref u] ((wU u (ah 0) (a0 0) (at9 0)) ++ ((wH g ah h) ++ ((wT g at9 (sg, (nI n))) ++ ((wK0 g a0 ak ((nI od), (nI sz))) ++ (wHs g ak hs 6))))) (hmn h) ((wU u (ah 0) (a0 0) (at9 0)) ++ ((wH g ah h) ++ ((wT g at9 (sg, (nI n))) ++ ((wK0 g a0 ak ((nI od), (nI sz))) ++ (wHs g ak hs 6))))) 0 0 := by
  refine k_begin (cc := cX3_minutes) (maxL := 1) (ret := (some .int)) (Qc := fun A => kQi g (hmn h) ((wU u (ah 0) (a0 0) (at9 0)) ++ ((wH g ah h) ++ ((wT g at9 (sg, (nI n))) ++ ((wK0 g a0 ak ((nI od), (nI sz))) ++ (wHs g ak hs 6))))) A) (by decide) rfl (Nat.le_of_ble_eq_true rfl) ?_
  intro p e s m below meth c A ls hF hr hlocks hin hE hP hD hS hA hl
  obtain ⟨hx, hb, hml, hown, hts⟩ := id hF
  have hown : s.vm.findClass RX3 = some m.cls := hown
  have hl : lv_has ls 1 [(0, .ref u)] := hl
  have hiX3 : ∀ w ∈ wsX30, w ∈ wsX3_minutes := fun _ h => List.mem_cons_of_mem _ (List.mem_append_left _ (List.mem_append_right _ (h)))
  have hiX1 : ∀ w ∈ wsX10, w ∈ wsX3_minutes := fun _ h => List.mem_cons_of_mem _ (List.mem_append_right _ (h))
  have f12 : (Cond.fieldLink RX3 12 "ConcertUsher" "hall" "LConcertUsher$Hall;").before _ s = true := hts _ (List.mem_of_getElem? (i := 1) rfl)
  have f138 : (Cond.fieldLink RX3 138 "ConcertUsher$Hall" "minutes" "I").before _ s = true := hts _ (List.mem_of_getElem? (i := 2) rfl)
  refine lv_aload_n hx hb dX3_minutes_0 rfl (lv_at hl 0 rfl) ?_
  refine va_get (D := g.1) (ci := 3) (v := .ref (ah 0)) (C := RX3) (T := TX3) (N := 3) hx hb hts hiX3 hown hE.1 hP 0 rfl rfl 0 (by decide) f12 (fun _ h9 => h9) rfl dX3_minutes_1 ?_
  refine va_get (D := g.1) (ci := 1) (v := .int (hmn h)) (C := RX1) (T := TX1) (N := 12) hx hb hts hiX1 hown hE.1 hP 1 rfl rfl 10 (by decide) f138 (fun _ h9 => h9) rfl dX3_minutes_4 ?_
  have hP : va_P g.1 vwCl ((wU u (ah 0) (a0 0) (at9 0)) ++ ((wH g ah h) ++ ((wT g at9 (sg, (nI n))) ++ ((wK0 g a0 ak ((nI od), (nI sz))) ++ (wHs g ak hs 6))))) _ := hP
  have hD : va_D A ((wU u (ah 0) (a0 0) (at9 0)) ++ ((wH g ah h) ++ ((wT g at9 (sg, (nI n))) ++ ((wK0 g a0 ak ((nI od), (nI sz))) ++ (wHs g ak hs 6))))) := hD
  exact k_iret hx hb hr hlocks rfl rfl hP hD hS (Nat.le_of_ble_eq_true rfl) (Nat.le_of_ble_eq_true rfl) dX3_minutes_7
set_option maxHeartbeats 4000000 in
set_option maxRecDepth 100000 in
theorem c_X3_sinceQuestion (l : Launch) (g : kG) (u : Nat) (ah at9 a0 : Nat → Nat) (ak : Nat → Nat → Nat) (h : HSt) (sg : Nat → Int32) (n od sz : Nat) (hs : Nat → HSt) : KI l yX3_sinceQuestion wsX3_sinceQuestion ({ frames := 0, cells := 0, slots := 0, locals := 0 }) g [.ref u] ((wU u (ah 0) (a0 0) (at9 0)) ++ ((wH g ah h) ++ ((wT g at9 (sg, (nI n))) ++ ((wK0 g a0 ak ((nI od), (nI sz))) ++ (wHs g ak hs 6))))) (hsn h) ((wU u (ah 0) (a0 0) (at9 0)) ++ ((wH g ah h) ++ ((wT g at9 (sg, (nI n))) ++ ((wK0 g a0 ak ((nI od), (nI sz))) ++ (wHs g ak hs 6))))) 0 0 := by
  refine k_begin (cc := cX3_sinceQuestion) (maxL := 1) (ret := (some .int)) (Qc := fun A => kQi g (hsn h) ((wU u (ah 0) (a0 0) (at9 0)) ++ ((wH g ah h) ++ ((wT g at9 (sg, (nI n))) ++ ((wK0 g a0 ak ((nI od), (nI sz))) ++ (wHs g ak hs 6))))) A) (by decide) rfl (Nat.le_of_ble_eq_true rfl) ?_
  intro p e s m below meth c A ls hF hr hlocks hin hE hP hD hS hA hl
  obtain ⟨hx, hb, hml, hown, hts⟩ := id hF
  have hown : s.vm.findClass RX3 = some m.cls := hown
  have hl : lv_has ls 1 [(0, .ref u)] := hl
  have hiX3 : ∀ w ∈ wsX30, w ∈ wsX3_sinceQuestion := fun _ h => List.mem_cons_of_mem _ (List.mem_append_left _ (List.mem_append_right _ (h)))
  have hiX1 : ∀ w ∈ wsX10, w ∈ wsX3_sinceQuestion := fun _ h => List.mem_cons_of_mem _ (List.mem_append_right _ (h))
  have f12 : (Cond.fieldLink RX3 12 "ConcertUsher" "hall" "LConcertUsher$Hall;").before _ s = true := hts _ (List.mem_of_getElem? (i := 1) rfl)
  have f141 : (Cond.fieldLink RX3 141 "ConcertUsher$Hall" "sinceQuestion" "I").before _ s = true := hts _ (List.mem_of_getElem? (i := 2) rfl)
  refine lv_aload_n hx hb dX3_sinceQuestion_0 rfl (lv_at hl 0 rfl) ?_
  refine va_get (D := g.1) (ci := 3) (v := .ref (ah 0)) (C := RX3) (T := TX3) (N := 3) hx hb hts hiX3 hown hE.1 hP 0 rfl rfl 0 (by decide) f12 (fun _ h9 => h9) rfl dX3_sinceQuestion_1 ?_
  refine va_get (D := g.1) (ci := 1) (v := .int (hsn h)) (C := RX1) (T := TX1) (N := 12) hx hb hts hiX1 hown hE.1 hP 1 rfl rfl 11 (by decide) f141 (fun _ h9 => h9) rfl dX3_sinceQuestion_4 ?_
  have hP : va_P g.1 vwCl ((wU u (ah 0) (a0 0) (at9 0)) ++ ((wH g ah h) ++ ((wT g at9 (sg, (nI n))) ++ ((wK0 g a0 ak ((nI od), (nI sz))) ++ (wHs g ak hs 6))))) _ := hP
  have hD : va_D A ((wU u (ah 0) (a0 0) (at9 0)) ++ ((wH g ah h) ++ ((wT g at9 (sg, (nI n))) ++ ((wK0 g a0 ak ((nI od), (nI sz))) ++ (wHs g ak hs 6))))) := hD
  exact k_iret hx hb hr hlocks rfl rfl hP hD hS (Nat.le_of_ble_eq_true rfl) (Nat.le_of_ble_eq_true rfl) dX3_sinceQuestion_7
set_option maxHeartbeats 4000000 in
set_option maxRecDepth 100000 in
theorem c_X3_minutesToQuestion (l : Launch) (g : kG) (u : Nat) (ah at9 a0 : Nat → Nat) (ak : Nat → Nat → Nat) (h : HSt) (sg : Nat → Int32) (n od sz : Nat) (hs : Nat → HSt) : KI l yX3_minutesToQuestion wsX3_minutesToQuestion ({ frames := 3, cells := 0, slots := 0, locals := 60 }) g [.ref u] ((wU u (ah 0) (a0 0) (at9 0)) ++ ((wH g ah h) ++ ((wT g at9 (sg, (nI n))) ++ ((wK0 g a0 ak ((nI od), (nI sz))) ++ (wHs g ak hs 6))))) (HasksIn h) ((wU u (ah 0) (a0 0) (at9 0)) ++ ((wH g ah h) ++ ((wT g at9 (sg, (nI n))) ++ ((wK0 g a0 ak ((nI od), (nI sz))) ++ (wHs g ak hs 6))))) 0 0 := by
  refine k_begin (cc := cX3_minutesToQuestion) (maxL := 1) (ret := (some .int)) (Qc := fun A => kQi g (HasksIn h) ((wU u (ah 0) (a0 0) (at9 0)) ++ ((wH g ah h) ++ ((wT g at9 (sg, (nI n))) ++ ((wK0 g a0 ak ((nI od), (nI sz))) ++ (wHs g ak hs 6))))) A) (by decide) rfl (Nat.le_of_ble_eq_true rfl) ?_
  intro p e s m below meth c A ls hF hr hlocks hin hE hP hD hS hA hl
  obtain ⟨hx, hb, hml, hown, hts⟩ := id hF
  have hown : s.vm.findClass RX3 = some m.cls := hown
  have hl : lv_has ls 1 [(0, .ref u)] := hl
  have hiX3 : ∀ w ∈ wsX30, w ∈ wsX3_minutesToQuestion := fun _ h => List.mem_cons_of_mem _ (List.mem_append_left _ (List.mem_append_right _ (h)))
  have f12 : (Cond.fieldLink RX3 12 "ConcertUsher" "hall" "LConcertUsher$Hall;").before _ s = true := hts _ (List.mem_of_getElem? (i := 1) rfl)
  refine lv_aload_n hx hb dX3_minutesToQuestion_0 rfl (lv_at hl 0 rfl) ?_
  refine va_get (D := g.1) (ci := 3) (v := .ref (ah 0)) (C := RX3) (T := TX3) (N := 3) hx hb hts hiX3 hown hE.1 hP 0 rfl rfl 0 (by decide) f12 (fun _ h9 => h9) rfl dX3_minutesToQuestion_1 ?_
  refine k_Vi (As := []) (r := (HasksIn h)) hF (c_X1_asksIn l g ah h) (cwV 0 hts gX3_minutesToQuestion_X1_asksIn rfl rfl rfl (by decide +kernel) ⟨Nat.le_of_ble_eq_true rfl, Nat.le_of_ble_eq_true rfl⟩) hE hP hD hS hA (pm_5_1 _ _ _ _ _) ((pm_5_1 _ _ _ _ _).symm) 1 rfl rfl rfl rfl hl.1 rfl (Nat.le_of_ble_eq_true rfl) dX3_minutesToQuestion_4 ⟨Nat.le_of_ble_eq_true rfl, Nat.le_of_ble_eq_true rfl⟩ (fun H locs hP hD hS => ?_)
  have hP : va_P g.1 vwCl ((wU u (ah 0) (a0 0) (at9 0)) ++ ((wH g ah h) ++ ((wT g at9 (sg, (nI n))) ++ ((wK0 g a0 ak ((nI od), (nI sz))) ++ (wHs g ak hs 6))))) _ := hP
  have hD : va_D A ((wU u (ah 0) (a0 0) (at9 0)) ++ ((wH g ah h) ++ ((wT g at9 (sg, (nI n))) ++ ((wK0 g a0 ak ((nI od), (nI sz))) ++ (wHs g ak hs 6))))) := hD
  have hP : va_P g.1 vwCl ((wU u (ah 0) (a0 0) (at9 0)) ++ ((wH g ah h) ++ ((wT g at9 (sg, (nI n))) ++ ((wK0 g a0 ak ((nI od), (nI sz))) ++ (wHs g ak hs 6))))) _ := hP
  have hD : va_D A ((wU u (ah 0) (a0 0) (at9 0)) ++ ((wH g ah h) ++ ((wT g at9 (sg, (nI n))) ++ ((wK0 g a0 ak ((nI od), (nI sz))) ++ (wHs g ak hs 6))))) := hD
  exact k_iret hx hb hr hlocks rfl rfl hP hD hS (Nat.le_of_ble_eq_true rfl) (Nat.le_of_ble_eq_true rfl) dX3_minutesToQuestion_7
set_option maxHeartbeats 4000000 in
set_option maxRecDepth 100000 in
theorem c_X3_entries (l : Launch) (g : kG) (u : Nat) (ah at9 a0 : Nat → Nat) (ak : Nat → Nat → Nat) (h : HSt) (sg : Nat → Int32) (n od sz : Nat) (hs : Nat → HSt) : KI l yX3_entries wsX3_entries ({ frames := 1, cells := 0, slots := 0, locals := 22 }) g [.ref u] ((wU u (ah 0) (a0 0) (at9 0)) ++ ((wH g ah h) ++ ((wT g at9 (sg, (nI n))) ++ ((wK0 g a0 ak ((nI od), (nI sz))) ++ (wHs g ak hs 6))))) (nI (Hent (hR h) 48)) ((wU u (ah 0) (a0 0) (at9 0)) ++ ((wH g ah h) ++ ((wT g at9 (sg, (nI n))) ++ ((wK0 g a0 ak ((nI od), (nI sz))) ++ (wHs g ak hs 6))))) 0 0 := by
  refine k_begin (cc := cX3_entries) (maxL := 1) (ret := (some .int)) (Qc := fun A => kQi g (nI (Hent (hR h) 48)) ((wU u (ah 0) (a0 0) (at9 0)) ++ ((wH g ah h) ++ ((wT g at9 (sg, (nI n))) ++ ((wK0 g a0 ak ((nI od), (nI sz))) ++ (wHs g ak hs 6))))) A) (by decide) rfl (Nat.le_of_ble_eq_true rfl) ?_
  intro p e s m below meth c A ls hF hr hlocks hin hE hP hD hS hA hl
  obtain ⟨hx, hb, hml, hown, hts⟩ := id hF
  have hown : s.vm.findClass RX3 = some m.cls := hown
  have hl : lv_has ls 1 [(0, .ref u)] := hl
  have hiX3 : ∀ w ∈ wsX30, w ∈ wsX3_entries := fun _ h => List.mem_cons_of_mem _ (List.mem_append_left _ (List.mem_append_right _ (h)))
  have f12 : (Cond.fieldLink RX3 12 "ConcertUsher" "hall" "LConcertUsher$Hall;").before _ s = true := hts _ (List.mem_of_getElem? (i := 1) rfl)
  refine lv_aload_n hx hb dX3_entries_0 rfl (lv_at hl 0 rfl) ?_
  refine va_get (D := g.1) (ci := 3) (v := .ref (ah 0)) (C := RX3) (T := TX3) (N := 3) hx hb hts hiX3 hown hE.1 hP 0 rfl rfl 0 (by decide) f12 (fun _ h9 => h9) rfl dX3_entries_1 ?_
  refine k_Vi (As := []) (r := (nI (Hent (hR h) 48))) hF (c_X1_entriesInAll l g ah h) (cwV 0 hts gX3_entries_X1_entriesInAll rfl rfl rfl (by decide +kernel) ⟨Nat.le_of_ble_eq_true rfl, Nat.le_of_ble_eq_true rfl⟩) hE hP hD hS hA (pm_5_1 _ _ _ _ _) ((pm_5_1 _ _ _ _ _).symm) 1 rfl rfl rfl rfl hl.1 rfl (Nat.le_of_ble_eq_true rfl) dX3_entries_4 ⟨Nat.le_of_ble_eq_true rfl, Nat.le_of_ble_eq_true rfl⟩ (fun H locs hP hD hS => ?_)
  have hP : va_P g.1 vwCl ((wU u (ah 0) (a0 0) (at9 0)) ++ ((wH g ah h) ++ ((wT g at9 (sg, (nI n))) ++ ((wK0 g a0 ak ((nI od), (nI sz))) ++ (wHs g ak hs 6))))) _ := hP
  have hD : va_D A ((wU u (ah 0) (a0 0) (at9 0)) ++ ((wH g ah h) ++ ((wT g at9 (sg, (nI n))) ++ ((wK0 g a0 ak ((nI od), (nI sz))) ++ (wHs g ak hs 6))))) := hD
  have hP : va_P g.1 vwCl ((wU u (ah 0) (a0 0) (at9 0)) ++ ((wH g ah h) ++ ((wT g at9 (sg, (nI n))) ++ ((wK0 g a0 ak ((nI od), (nI sz))) ++ (wHs g ak hs 6))))) _ := hP
  have hD : va_D A ((wU u (ah 0) (a0 0) (at9 0)) ++ ((wH g ah h) ++ ((wT g at9 (sg, (nI n))) ++ ((wK0 g a0 ak ((nI od), (nI sz))) ++ (wHs g ak hs 6))))) := hD
  exact k_iret hx hb hr hlocks rfl rfl hP hD hS (Nat.le_of_ble_eq_true rfl) (Nat.le_of_ble_eq_true rfl) dX3_entries_7
set_option maxHeartbeats 4000000 in
set_option maxRecDepth 100000 in
theorem c_X3_savedStates (l : Launch) (g : kG) (u : Nat) (ah at9 a0 : Nat → Nat) (ak : Nat → Nat → Nat) (h : HSt) (sg : Nat → Int32) (n od sz : Nat) (hs : Nat → HSt) : KI l yX3_savedStates wsX3_savedStates ({ frames := 0, cells := 0, slots := 0, locals := 0 }) g [.ref u] ((wU u (ah 0) (a0 0) (at9 0)) ++ ((wH g ah h) ++ ((wT g at9 (sg, (nI n))) ++ ((wK0 g a0 ak ((nI od), (nI sz))) ++ (wHs g ak hs 6))))) (nI sz) ((wU u (ah 0) (a0 0) (at9 0)) ++ ((wH g ah h) ++ ((wT g at9 (sg, (nI n))) ++ ((wK0 g a0 ak ((nI od), (nI sz))) ++ (wHs g ak hs 6))))) 0 0 := by
  refine k_begin (cc := cX3_savedStates) (maxL := 1) (ret := (some .int)) (Qc := fun A => kQi g (nI sz) ((wU u (ah 0) (a0 0) (at9 0)) ++ ((wH g ah h) ++ ((wT g at9 (sg, (nI n))) ++ ((wK0 g a0 ak ((nI od), (nI sz))) ++ (wHs g ak hs 6))))) A) (by decide) rfl (Nat.le_of_ble_eq_true rfl) ?_
  intro p e s m below meth c A ls hF hr hlocks hin hE hP hD hS hA hl
  obtain ⟨hx, hb, hml, hown, hts⟩ := id hF
  have hown : s.vm.findClass RX3 = some m.cls := hown
  have hl : lv_has ls 1 [(0, .ref u)] := hl
  have hiX3 : ∀ w ∈ wsX30, w ∈ wsX3_savedStates := fun _ h => List.mem_cons_of_mem _ (List.mem_append_left _ (List.mem_append_right _ (h)))
  have hiX2 : ∀ w ∈ wsX20, w ∈ wsX3_savedStates := fun _ h => List.mem_cons_of_mem _ (List.mem_append_right _ (h))
  have f19 : (Cond.fieldLink RX3 19 "ConcertUsher" "history" "LConcertUsher$History;").before _ s = true := hts _ (List.mem_of_getElem? (i := 1) rfl)
  have f181 : (Cond.fieldLink RX3 181 "ConcertUsher$History" "size" "I").before _ s = true := hts _ (List.mem_of_getElem? (i := 2) rfl)
  refine lv_aload_n hx hb dX3_savedStates_0 rfl (lv_at hl 0 rfl) ?_
  refine va_get (D := g.1) (ci := 3) (v := .ref (a0 0)) (C := RX3) (T := TX3) (N := 3) hx hb hts hiX3 hown hE.1 hP 0 rfl rfl 1 (by decide) f19 (fun _ h9 => h9) rfl dX3_savedStates_1 ?_
  refine va_get (D := g.1) (ci := 2) (v := .int (nI sz)) (C := RX2) (T := TX2) (N := 3) hx hb hts hiX2 hown hE.1 hP 7 rfl rfl 2 (by decide) f181 (fun _ h9 => h9) rfl dX3_savedStates_4 ?_
  have hP : va_P g.1 vwCl ((wU u (ah 0) (a0 0) (at9 0)) ++ ((wH g ah h) ++ ((wT g at9 (sg, (nI n))) ++ ((wK0 g a0 ak ((nI od), (nI sz))) ++ (wHs g ak hs 6))))) _ := hP
  have hD : va_D A ((wU u (ah 0) (a0 0) (at9 0)) ++ ((wH g ah h) ++ ((wT g at9 (sg, (nI n))) ++ ((wK0 g a0 ak ((nI od), (nI sz))) ++ (wHs g ak hs 6))))) := hD
  exact k_iret hx hb hr hlocks rfl rfl hP hD hS (Nat.le_of_ble_eq_true rfl) (Nat.le_of_ble_eq_true rfl) dX3_savedStates_7
set_option maxHeartbeats 4000000 in
set_option maxRecDepth 100000 in
theorem c_X3_usefulShare (l : Launch) (g : kG) (u : Nat) (ah at9 a0 : Nat → Nat) (ak : Nat → Nat → Nat) (h : HSt) (sg : Nat → Int32) (n od sz : Nat) (hs : Nat → HSt) : KD l yX3_usefulShare wsX3_usefulShare ({ frames := 0, cells := 0, slots := 0, locals := 0 }) g [.ref u] ((wU u (ah 0) (a0 0) (at9 0)) ++ ((wH g ah h) ++ ((wT g at9 (sg, (nI n))) ++ ((wK0 g a0 ak ((nI od), (nI sz))) ++ (wHs g ak hs 6))))) (dSh ((hC h) 0) ((hC h) 1)) ((wU u (ah 0) (a0 0) (at9 0)) ++ ((wH g ah h) ++ ((wT g at9 (sg, (nI n))) ++ ((wK0 g a0 ak ((nI od), (nI sz))) ++ (wHs g ak hs 6))))) 0 0 := by
  refine k_begin (cc := cX3_usefulShare) (maxL := 3) (ret := (some .double)) (Qc := fun A => kQd g (dSh ((hC h) 0) ((hC h) 1)) ((wU u (ah 0) (a0 0) (at9 0)) ++ ((wH g ah h) ++ ((wT g at9 (sg, (nI n))) ++ ((wK0 g a0 ak ((nI od), (nI sz))) ++ (wHs g ak hs 6))))) A) (by decide) rfl (Nat.le_of_ble_eq_true rfl) ?_
  intro p e s m below meth c A ls hF hr hlocks hin hE hP hD hS hA hl
  obtain ⟨hx, hb, hml, hown, hts⟩ := id hF
  have hown : s.vm.findClass RX3 = some m.cls := hown
  have hl : lv_has ls 3 [(0, .ref u)] := hl
  have hiX3 : ∀ w ∈ wsX30, w ∈ wsX3_usefulShare := fun _ h => List.mem_cons_of_mem _ (List.mem_append_left _ (List.mem_append_right _ (h)))
  have hiX1 : ∀ w ∈ wsX10, w ∈ wsX3_usefulShare := fun _ h => List.mem_cons_of_mem _ (List.mem_append_right _ (h))
  have f12 : (Cond.fieldLink RX3 12 "ConcertUsher" "hall" "LConcertUsher$Hall;").before _ s = true := hts _ (List.mem_of_getElem? (i := 1) rfl)
  have f146 : (Cond.fieldLink RX3 146 "ConcertUsher$Hall" "counts" "[I").before _ s = true := hts _ (List.mem_of_getElem? (i := 2) rfl)
  refine lv_aload_n hx hb dX3_usefulShare_0 rfl (lv_at hl 0 rfl) ?_
  refine va_get (D := g.1) (ci := 3) (v := .ref (ah 0)) (C := RX3) (T := TX3) (N := 3) hx hb hts hiX3 hown hE.1 hP 0 rfl rfl 0 (by decide) f12 (fun _ h9 => h9) rfl dX3_usefulShare_1 ?_
  refine va_get (D := g.1) (ci := 1) (v := .ref (ah 3)) (C := RX1) (T := TX1) (N := 12) hx hb hts hiX1 hown hE.1 hP 1 rfl rfl 2 (by decide) f146 (fun _ h9 => h9) rfl dX3_usefulShare_4 ?_
  refine lv_iconst (v := (nI 0)) hx hb dX3_usefulShare_7 (by decide) ?_
  refine k_iald (f := (hC h)) hx hb hE hP 4 rfl 0 rfl (by decide) (by decide) dX3_usefulShare_8 ?_
  refine lv_istore_n (lv' := [(1, .int ((hC h) 0)), (0, .ref u)]) hx hb dX3_usefulShare_9 rfl hl (by decide) rfl (fun ls hl => ?_)
  refine lv_iload_n hx hb dX3_usefulShare_10 rfl (lv_at hl 0 rfl) ?_
  refine lv_aload_n hx hb dX3_usefulShare_11 rfl (lv_at hl 1 rfl) ?_
  refine va_get (D := g.1) (ci := 3) (v := .ref (ah 0)) (C := RX3) (T := TX3) (N := 3) hx hb hts hiX3 hown hE.1 hP 0 rfl rfl 0 (by decide) f12 (fun _ h9 => h9) rfl dX3_usefulShare_12 ?_
  refine va_get (D := g.1) (ci := 1) (v := .ref (ah 3)) (C := RX1) (T := TX1) (N := 12) hx hb hts hiX1 hown hE.1 hP 1 rfl rfl 2 (by decide) f146 (fun _ h9 => h9) rfl dX3_usefulShare_15 ?_
  refine lv_iconst (v := (nI 1)) hx hb dX3_usefulShare_18 (by decide) ?_
  refine k_iald (f := (hC h)) hx hb hE hP 4 rfl 1 rfl (by decide) (by decide) dX3_usefulShare_19 ?_
  refine lv_iadd hx hb dX3_usefulShare_20 ?_
  refine lv_istore_n (lv' := [(2, .int (((hC h) 0) + ((hC h) 1))), (1, .int ((hC h) 0)), (0, .ref u)]) hx hb dX3_usefulShare_21 rfl hl (by decide) rfl (fun ls hl => ?_)
  refine lv_iload_n hx hb dX3_usefulShare_22 rfl (lv_at hl 0 rfl) ?_
  refine lv_if_ne (tgt := 28) hx hb dX3_usefulShare_23 (by decide) (fun c1 => ?_) (fun c1 => ?_)
  ·
    refine lv_iload_n hx hb dX3_usefulShare_28 rfl (lv_at hl 1 rfl) ?_
    refine lv_i2d hx hb dX3_usefulShare_29 ?_
    refine lv_iload_n hx hb dX3_usefulShare_30 rfl (lv_at hl 0 rfl) ?_
    refine lv_i2d hx hb dX3_usefulShare_31 ?_
    refine lv_ddiv hx hb dX3_usefulShare_32 (dSh_n64 ‹_›) ?_
    have hP : va_P g.1 vwCl ((wU u (ah 0) (a0 0) (at9 0)) ++ ((wH g ah h) ++ ((wT g at9 (sg, (nI n))) ++ ((wK0 g a0 ak ((nI od), (nI sz))) ++ (wHs g ak hs 6))))) _ := hP
    have hD : va_D A ((wU u (ah 0) (a0 0) (at9 0)) ++ ((wH g ah h) ++ ((wT g at9 (sg, (nI n))) ++ ((wK0 g a0 ak ((nI od), (nI sz))) ++ (wHs g ak hs 6))))) := hD
    exact k_dret hx hb hr hlocks (if_neg c1).symm hP hD hS (Nat.le_of_ble_eq_true rfl) (Nat.le_of_ble_eq_true rfl) dX3_usefulShare_33
  ·
    refine lv_dconst1 hx hb dX3_usefulShare_26 ?_
    have hP : va_P g.1 vwCl ((wU u (ah 0) (a0 0) (at9 0)) ++ ((wH g ah h) ++ ((wT g at9 (sg, (nI n))) ++ ((wK0 g a0 ak ((nI od), (nI sz))) ++ (wHs g ak hs 6))))) _ := hP
    have hD : va_D A ((wU u (ah 0) (a0 0) (at9 0)) ++ ((wH g ah h) ++ ((wT g at9 (sg, (nI n))) ++ ((wK0 g a0 ak ((nI od), (nI sz))) ++ (wHs g ak hs 6))))) := hD
    exact k_dret hx hb hr hlocks (if_pos c1).symm hP hD hS (Nat.le_of_ble_eq_true rfl) (Nat.le_of_ble_eq_true rfl) dX3_usefulShare_27
