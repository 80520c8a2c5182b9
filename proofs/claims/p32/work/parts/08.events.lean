/-! events out of the buffer -/
/-! the flags stay -/
/-! a whole text: every event in it stands -/
theorem pm_5_2 {α : Type} (b0 b1 b2 b3 b4 : List α) : ((b0 ++ (b1 ++ (b2 ++ (b3 ++ b4))))).Perm (b2 ++ (b0 ++ (b1 ++ (b3 ++ b4)))) := by
  classical exact List.perm_iff_count.mpr (fun x => by simp only [List.count_append]; omega)
set_option maxHeartbeats 4000000 in
set_option maxRecDepth 100000 in
theorem c_X3_chief (l : Launch) (g : kG) (u : Nat) (ah at9 a0 : Nat → Nat) (ak : Nat → Nat → Nat) (h : HSt) (sg : Nat → Int32) (n : Nat) (hn : n ≤ 60) (hch : Tok sg n) (od sz : Nat) (hod : od < 6) (hsz : sz ≤ 6) (hs : Nat → HSt) (hbo : Hbo h) (hbs : ∀ j, Hbo (hs j)) : KI l yX3_chief wsX3_chief ({ frames := 1, cells := 0, slots := 0, locals := 20 }) g [.ref u] ((wU u (ah 0) (a0 0) (at9 0)) ++ ((wH g ah h) ++ ((wT g at9 (sg, (nI n))) ++ ((wK0 g a0 ak ((nI od), (nI sz))) ++ (wHs g ak hs 6))))) (Hchief h) ((wU u (ah 0) (a0 0) (at9 0)) ++ ((wH g ah h) ++ ((wT g at9 (sg, (nI n))) ++ ((wK0 g a0 ak ((nI od), (nI sz))) ++ (wHs g ak hs 6))))) 0 0 := by
  refine k_begin (cc := cX3_chief) (maxL := 1) (ret := (some .int)) (Qc := fun A => kQi g (Hchief h) ((wU u (ah 0) (a0 0) (at9 0)) ++ ((wH g ah h) ++ ((wT g at9 (sg, (nI n))) ++ ((wK0 g a0 ak ((nI od), (nI sz))) ++ (wHs g ak hs 6))))) A) (by decide) rfl (Nat.le_of_ble_eq_true rfl) ?_
  intro p e s m below meth c A ls hF hr hlocks hin hE hP hD hS hA hl
  obtain ⟨hx, hb, hml, hown, hts⟩ := id hF
  have hown : s.vm.findClass RX3 = some m.cls := hown
  have hl : lv_has ls 1 [(0, .ref u)] := hl
  have hiX3 : ∀ w ∈ wsX30, w ∈ wsX3_chief := fun _ h => List.mem_cons_of_mem _ (List.mem_append_left _ (List.mem_append_right _ (h)))
  have f12 : (Cond.fieldLink RX3 12 "ConcertUsher" "hall" "LConcertUsher$Hall;").before _ s = true := hts _ (List.mem_of_getElem? (i := 1) rfl)
  refine lv_aload_n hx hb dX3_chief_0 rfl (lv_at hl 0 rfl) ?_
  refine va_get (D := g.1) (ci := 3) (v := .ref (ah 0)) (C := RX3) (T := TX3) (N := 3) hx hb hts hiX3 hown hE.1 hP 0 rfl rfl 0 (by decide) f12 (fun _ h9 => h9) rfl dX3_chief_1 ?_
  refine k_Vi (As := []) (r := (Hchief h)) hF (c_X1_chiefAsker l g ah h) (cwV 0 hts gX3_chief_X1_chiefAsker rfl rfl rfl (by decide +kernel) ⟨Nat.le_of_ble_eq_true rfl, Nat.le_of_ble_eq_true rfl⟩) hE hP hD hS hA (pm_5_1 _ _ _ _ _) ((pm_5_1 _ _ _ _ _).symm) 1 rfl rfl rfl rfl hl.1 rfl (Nat.le_of_ble_eq_true rfl) dX3_chief_4 ⟨Nat.le_of_ble_eq_true rfl, Nat.le_of_ble_eq_true rfl⟩ (fun H locs hP hD hS => ?_)
  have hP : va_P g.1 vwCl ((wU u (ah 0) (a0 0) (at9 0)) ++ ((wH g ah h) ++ ((wT g at9 (sg, (nI n))) ++ ((wK0 g a0 ak ((nI od), (nI sz))) ++ (wHs g ak hs 6))))) _ := hP
  have hD : va_D A ((wU u (ah 0) (a0 0) (at9 0)) ++ ((wH g ah h) ++ ((wT g at9 (sg, (nI n))) ++ ((wK0 g a0 ak ((nI od), (nI sz))) ++ (wHs g ak hs 6))))) := hD
  have hP : va_P g.1 vwCl ((wU u (ah 0) (a0 0) (at9 0)) ++ ((wH g ah h) ++ ((wT g at9 (sg, (nI n))) ++ ((wK0 g a0 ak ((nI od), (nI sz))) ++ (wHs g ak hs 6))))) _ := hP
  have hD : va_D A ((wU u (ah 0) (a0 0) (at9 0)) ++ ((wH g ah h) ++ ((wT g at9 (sg, (nI n))) ++ ((wK0 g a0 ak ((nI od), (nI sz))) ++ (wHs g ak hs 6))))) := hD
  exact k_iret hx hb hr hlocks rfl rfl hP hD hS (Nat.le_of_ble_eq_true rfl) (Nat.le_of_ble_eq_true rfl) dX3_chief_7
set_option maxHeartbeats 4000000 in
set_option maxRecDepth 100000 in
theorem c_X3_entries (l : Launch) (g : kG) (u : Nat) (ah at9 a0 : Nat → Nat) (ak : Nat → Nat → Nat) (h : HSt) (sg : Nat → Int32) (n : Nat) (hn : n ≤ 60) (hch : Tok sg n) (od sz : Nat) (hod : od < 6) (hsz : sz ≤ 6) (hs : Nat → HSt) (hbo : Hbo h) (hbs : ∀ j, Hbo (hs j)) : KI l yX3_entries wsX3_entries ({ frames := 1, cells := 0, slots := 0, locals := 22 }) g [.ref u] ((wU u (ah 0) (a0 0) (at9 0)) ++ ((wH g ah h) ++ ((wT g at9 (sg, (nI n))) ++ ((wK0 g a0 ak ((nI od), (nI sz))) ++ (wHs g ak hs 6))))) (nI (Hent (hR h) 48)) ((wU u (ah 0) (a0 0) (at9 0)) ++ ((wH g ah h) ++ ((wT g at9 (sg, (nI n))) ++ ((wK0 g a0 ak ((nI od), (nI sz))) ++ (wHs g ak hs 6))))) 0 0 := by
  refine k_begin (cc := cX3_entries) (maxL := 1) (ret := (some .int)) (Qc := fun A => kQi g (nI (Hent (hR h) 48)) ((wU u (ah 0) (a0 0) (at9 0)) ++ ((wH g ah h) ++ ((wT g at9 (sg, (nI n))) ++ ((wK0 g a0 ak ((nI od), (nI sz))) ++ (wHs g ak hs 6))))) A) (by decide) rfl (Nat.le_of_ble_eq_true rfl) ?_
  intro p e s m below meth c A ls hF hr hlocks hin hE hP hD hS hA hl
  obtain ⟨hx, hb, hml, hown, hts⟩ := id hF
  have hown : s.vm.findClass RX3 = some m.cls := hown
  have hl : lv_has ls 1 [(0, .ref u)] := hl
  have hiX3 : ∀ w ∈ wsX30, w ∈ wsX3_entries := fun _ h => List.mem_cons_of_mem _ (List.mem_append_left _ (List.mem_append_right _ (h)))
  have f12 : (Cond.fieldLink RX3 12 "ConcertUsher" "hall" "LConcertUsher$Hall;").before _ s = true := hts _ (List.mem_of_getElem? (i := 1) rfl)
  refine lv_aload_n hx hb dX3_entries_0 rfl (lv_at hl 0 rfl) ?_
  refine va_get (D := g.1) (ci := 3) (v := .ref (ah 0)) (C := RX3) (T := TX3) (N := 3) hx hb hts hiX3 hown hE.1 hP 0 rfl rfl 0 (by decide) f12 (fun _ h9 => h9) rfl dX3_entries_1 ?_
  refine k_Vi (As := []) (r := (nI (Hent (hR h) 48))) hF (c_X1_entriesInAll l g ah h) (cwV 0 hts gX3_entries_X1_entriesInAll rfl rfl rfl (by decide +kernel) ⟨Nat.le_of_ble_eq_true rfl, Nat.le_of_ble_eq_true rfl⟩) hE hP hD hS hA (pm_5_1 _ _ _ _ _) ((pm_5_1 _ _ _ _ _).symm) 1 rfl rfl rfl rfl hl.1 rfl (Nat.le_of_ble_eq_true rfl) dX3_entries_4 ⟨Nat.le_of_ble_eq_true rfl, Nat.le_of_ble_eq_true rfl⟩ (fun H locs hP hD hS => ?_)
  have hP : va_P g.1 vwCl ((wU u (ah 0) (a0 0) (at9 0)) ++ ((wH g ah h) ++ ((wT g at9 (sg, (nI n))) ++ ((wK0 g a0 ak ((nI od), (nI sz))) ++ (wHs g ak hs 6))))) _ := hP
  have hD : va_D A ((wU u (ah 0) (a0 0) (at9 0)) ++ ((wH g ah h) ++ ((wT g at9 (sg, (nI n))) ++ ((wK0 g a0 ak ((nI od), (nI sz))) ++ (wHs g ak hs 6))))) := hD
  have hP : va_P g.1 vwCl ((wU u (ah 0) (a0 0) (at9 0)) ++ ((wH g ah h) ++ ((wT g at9 (sg, (nI n))) ++ ((wK0 g a0 ak ((nI od), (nI sz))) ++ (wHs g ak hs 6))))) _ := hP
  have hD : va_D A ((wU u (ah 0) (a0 0) (at9 0)) ++ ((wH g ah h) ++ ((wT g at9 (sg, (nI n))) ++ ((wK0 g a0 ak ((nI od), (nI sz))) ++ (wHs g ak hs 6))))) := hD
  exact k_iret hx hb hr hlocks rfl rfl hP hD hS (Nat.le_of_ble_eq_true rfl) (Nat.le_of_ble_eq_true rfl) dX3_entries_7
set_option maxHeartbeats 4000000 in
set_option maxRecDepth 100000 in
theorem c_X3_minutes (l : Launch) (g : kG) (u : Nat) (ah at9 a0 : Nat → Nat) (ak : Nat → Nat → Nat) (h : HSt) (sg : Nat → Int32) (n : Nat) (hn : n ≤ 60) (hch : Tok sg n) (od sz : Nat) (hod : od < 6) (hsz : sz ≤ 6) (hs : Nat → HSt) (hbo : Hbo h) (hbs : ∀ j, Hbo (hs j)) : KI l yX3_minutes wsX3_minutes ({ frames := 0, cells := 0, slots := 0, locals := 0 }) g [.ref u] ((wU u (ah 0) (a0 0) (at9 0)) ++ ((wH g ah h) ++ ((wT g at9 (sg, (nI n))) ++ ((wK0 g a0 ak ((nI od), (nI sz))) ++ (wHs g ak hs 6))))) (hmn h) ((wU u (ah 0) (a0 0) (at9 0)) ++ ((wH g ah h) ++ ((wT g at9 (sg, (nI n))) ++ ((wK0 g a0 ak ((nI od), (nI sz))) ++ (wHs g ak hs 6))))) 0 0 := by
  refine k_begin (cc := cX3_minutes) (maxL := 1) (ret := (some .int)) (Qc := fun A => kQi g (hmn h) ((wU u (ah 0) (a0 0) (at9 0)) ++ ((wH g ah h) ++ ((wT g at9 (sg, (nI n))) ++ ((wK0 g a0 ak ((nI od), (nI sz))) ++ (wHs g ak hs 6))))) A) (by decide) rfl (Nat.le_of_ble_eq_true rfl) ?_
  intro p e s m below meth c A ls hF hr hlocks hin hE hP hD hS hA hl
  obtain ⟨hx, hb, hml, hown, hts⟩ := id hF
  have hown : s.vm.findClass RX3 = some m.cls := hown
  have hl : lv_has ls 1 [(0, .ref u)] := hl
  have hiX3 : ∀ w ∈ wsX30, w ∈ wsX3_minutes := fun _ h => List.mem_cons_of_mem _ (List.mem_append_left _ (List.mem_append_right _ (h)))
  have hiX1 : ∀ w ∈ wsX10, w ∈ wsX3_minutes := fun _ h => List.mem_cons_of_mem _ (List.mem_append_right _ (h))
  have f12 : (Cond.fieldLink RX3 12 "ConcertUsher" "hall" "LConcertUsher$Hall;").before _ s = true := hts _ (List.mem_of_getElem? (i := 1) rfl)
  have f138 : (Cond.fieldLink RX3 138 "ConcertUsher$Hall" "minutes" "I").before _ s = true := hts _ (List.mem_of_getElem? (i := 2) rfl)
  refine lv_aload_n hx hb dX3_minutes_0 rfl (lv_at hl 0 rfl) ?_
  refine va_get (D := g.1) (ci := 3) (v := .ref (ah 0)) (C := RX3) (T := TX3) (N := 3) hx hb hts hiX3 hown hE.1 hP 0 rfl rfl 0 (by decide) f12 (fun _ h9 => h9) rfl dX3_minutes_1 ?_
  refine va_get (D := g.1) (ci := 1) (v := .int (hmn h)) (C := RX1) (T := TX1) (N := 12) hx hb hts hiX1 hown hE.1 hP 1 rfl rfl 10 (by decide) f138 (fun _ h9 => h9) rfl dX3_minutes_4 ?_
  have hP : va_P g.1 vwCl ((wU u (ah 0) (a0 0) (at9 0)) ++ ((wH g ah h) ++ ((wT g at9 (sg, (nI n))) ++ ((wK0 g a0 ak ((nI od), (nI sz))) ++ (wHs g ak hs 6))))) _ := hP
  have hD : va_D A ((wU u (ah 0) (a0 0) (at9 0)) ++ ((wH g ah h) ++ ((wT g at9 (sg, (nI n))) ++ ((wK0 g a0 ak ((nI od), (nI sz))) ++ (wHs g ak hs 6))))) := hD
  exact k_iret hx hb hr hlocks rfl rfl hP hD hS (Nat.le_of_ble_eq_true rfl) (Nat.le_of_ble_eq_true rfl) dX3_minutes_7
set_option maxHeartbeats 4000000 in
set_option maxRecDepth 100000 in
theorem c_X3_sinceQuestion (l : Launch) (g : kG) (u : Nat) (ah at9 a0 : Nat → Nat) (ak : Nat → Nat → Nat) (h : HSt) (sg : Nat → Int32) (n : Nat) (hn : n ≤ 60) (hch : Tok sg n) (od sz : Nat) (hod : od < 6) (hsz : sz ≤ 6) (hs : Nat → HSt) (hbo : Hbo h) (hbs : ∀ j, Hbo (hs j)) : KI l yX3_sinceQuestion wsX3_sinceQuestion ({ frames := 0, cells := 0, slots := 0, locals := 0 }) g [.ref u] ((wU u (ah 0) (a0 0) (at9 0)) ++ ((wH g ah h) ++ ((wT g at9 (sg, (nI n))) ++ ((wK0 g a0 ak ((nI od), (nI sz))) ++ (wHs g ak hs 6))))) (hsn h) ((wU u (ah 0) (a0 0) (at9 0)) ++ ((wH g ah h) ++ ((wT g at9 (sg, (nI n))) ++ ((wK0 g a0 ak ((nI od), (nI sz))) ++ (wHs g ak hs 6))))) 0 0 := by
  refine k_begin (cc := cX3_sinceQuestion) (maxL := 1) (ret := (some .int)) (Qc := fun A => kQi g (hsn h) ((wU u (ah 0) (a0 0) (at9 0)) ++ ((wH g ah h) ++ ((wT g at9 (sg, (nI n))) ++ ((wK0 g a0 ak ((nI od), (nI sz))) ++ (wHs g ak hs 6))))) A) (by decide) rfl (Nat.le_of_ble_eq_true rfl) ?_
  intro p e s m below meth c A ls hF hr hlocks hin hE hP hD hS hA hl
  obtain ⟨hx, hb, hml, hown, hts⟩ := id hF
  have hown : s.vm.findClass RX3 = some m.cls := hown
  have hl : lv_has ls 1 [(0, .ref u)] := hl
  have hiX3 : ∀ w ∈ wsX30, w ∈ wsX3_sinceQuestion := fun _ h => List.mem_cons_of_mem _ (List.mem_append_left _ (List.mem_append_right _ (h)))
  have hiX1 : ∀ w ∈ wsX10, w ∈ wsX3_sinceQuestion := fun _ h => List.mem_cons_of_mem _ (List.mem_append_right _ (h))
  have f12 : (Cond.fieldLink RX3 12 "ConcertUsher" "hall" "LConcertUsher$Hall;").before _ s = true := hts _ (List.mem_of_getElem? (i := 1) rfl)
  have f141 : (Cond.fieldLink RX3 141 "ConcertUsher$Hall" "sinceQuestion" "I").before _ s = true := hts _ (List.mem_of_getElem? (i := 2) rfl)
  refine lv_aload_n hx hb dX3_sinceQuestion_0 rfl (lv_at hl 0 rfl) ?_
  refine va_get (D := g.1) (ci := 3) (v := .ref (ah 0)) (C := RX3) (T := TX3) (N := 3) hx hb hts hiX3 hown hE.1 hP 0 rfl rfl 0 (by decide) f12 (fun _ h9 => h9) rfl dX3_sinceQuestion_1 ?_
  refine va_get (D := g.1) (ci := 1) (v := .int (hsn h)) (C := RX1) (T := TX1) (N := 12) hx hb hts hiX1 hown hE.1 hP 1 rfl rfl 11 (by decide) f141 (fun _ h9 => h9) rfl dX3_sinceQuestion_4 ?_
  have hP : va_P g.1 vwCl ((wU u (ah 0) (a0 0) (at9 0)) ++ ((wH g ah h) ++ ((wT g at9 (sg, (nI n))) ++ ((wK0 g a0 ak ((nI od), (nI sz))) ++ (wHs g ak hs 6))))) _ := hP
  have hD : va_D A ((wU u (ah 0) (a0 0) (at9 0)) ++ ((wH g ah h) ++ ((wT g at9 (sg, (nI n))) ++ ((wK0 g a0 ak ((nI od), (nI sz))) ++ (wHs g ak hs 6))))) := hD
  exact k_iret hx hb hr hlocks rfl rfl hP hD hS (Nat.le_of_ble_eq_true rfl) (Nat.le_of_ble_eq_true rfl) dX3_sinceQuestion_7
set_option maxHeartbeats 4000000 in
set_option maxRecDepth 100000 in
theorem c_X3_minutesToQuestion (l : Launch) (g : kG) (u : Nat) (ah at9 a0 : Nat → Nat) (ak : Nat → Nat → Nat) (h : HSt) (sg : Nat → Int32) (n : Nat) (hn : n ≤ 60) (hch : Tok sg n) (od sz : Nat) (hod : od < 6) (hsz : sz ≤ 6) (hs : Nat → HSt) (hbo : Hbo h) (hbs : ∀ j, Hbo (hs j)) : KI l yX3_minutesToQuestion wsX3_minutesToQuestion ({ frames := 3, cells := 0, slots := 0, locals := 60 }) g [.ref u] ((wU u (ah 0) (a0 0) (at9 0)) ++ ((wH g ah h) ++ ((wT g at9 (sg, (nI n))) ++ ((wK0 g a0 ak ((nI od), (nI sz))) ++ (wHs g ak hs 6))))) (HasksIn h) ((wU u (ah 0) (a0 0) (at9 0)) ++ ((wH g ah h) ++ ((wT g at9 (sg, (nI n))) ++ ((wK0 g a0 ak ((nI od), (nI sz))) ++ (wHs g ak hs 6))))) 0 0 := by
  refine k_begin (cc := cX3_minutesToQuestion) (maxL := 1) (ret := (some .int)) (Qc := fun A => kQi g (HasksIn h) ((wU u (ah 0) (a0 0) (at9 0)) ++ ((wH g ah h) ++ ((wT g at9 (sg, (nI n))) ++ ((wK0 g a0 ak ((nI od), (nI sz))) ++ (wHs g ak hs 6))))) A) (by decide) rfl (Nat.le_of_ble_eq_true rfl) ?_
  intro p e s m below meth c A ls hF hr hlocks hin hE hP hD hS hA hl
  obtain ⟨hx, hb, hml, hown, hts⟩ := id hF
  have hown : s.vm.findClass RX3 = some m.cls := hown
  have hl : lv_has ls 1 [(0, .ref u)] := hl
  have hiX3 : ∀ w ∈ wsX30, w ∈ wsX3_minutesToQuestion := fun _ h => List.mem_cons_of_mem _ (List.mem_append_left _ (List.mem_append_right _ (h)))
  have f12 : (Cond.fieldLink RX3 12 "ConcertUsher" "hall" "LConcertUsher$Hall;").before _ s = true := hts _ (List.mem_of_getElem? (i := 1) rfl)
  refine lv_aload_n hx hb dX3_minutesToQuestion_0 rfl (lv_at hl 0 rfl) ?_
  refine va_get (D := g.1) (ci := 3) (v := .ref (ah 0)) (C := RX3) (T := TX3) (N := 3) hx hb hts hiX3 hown hE.1 hP 0 rfl rfl 0 (by decide) f12 (fun _ h9 => h9) rfl dX3_minutesToQuestion_1 ?_
  refine k_Vi (As := []) (r := (HasksIn h)) hF (c_X1_asksIn l g ah h) (cwV 0 hts gX3_minutesToQuestion_X1_asksIn rfl rfl rfl (by decide +kernel) ⟨Nat.le_of_ble_eq_true rfl, Nat.le_of_ble_eq_true rfl⟩) hE hP hD hS hA (pm_5_1 _ _ _ _ _) ((pm_5_1 _ _ _ _ _).symm) 1 rfl rfl rfl rfl hl.1 rfl (Nat.le_of_ble_eq_true rfl) dX3_minutesToQuestion_4 ⟨Nat.le_of_ble_eq_true rfl, Nat.le_of_ble_eq_true rfl⟩ (fun H locs hP hD hS => ?_)
  have hP : va_P g.1 vwCl ((wU u (ah 0) (a0 0) (at9 0)) ++ ((wH g ah h) ++ ((wT g at9 (sg, (nI n))) ++ ((wK0 g a0 ak ((nI od), (nI sz))) ++ (wHs g ak hs 6))))) _ := hP
  have hD : va_D A ((wU u (ah 0) (a0 0) (at9 0)) ++ ((wH g ah h) ++ ((wT g at9 (sg, (nI n))) ++ ((wK0 g a0 ak ((nI od), (nI sz))) ++ (wHs g ak hs 6))))) := hD
  have hP : va_P g.1 vwCl ((wU u (ah 0) (a0 0) (at9 0)) ++ ((wH g ah h) ++ ((wT g at9 (sg, (nI n))) ++ ((wK0 g a0 ak ((nI od), (nI sz))) ++ (wHs g ak hs 6))))) _ := hP
  have hD : va_D A ((wU u (ah 0) (a0 0) (at9 0)) ++ ((wH g ah h) ++ ((wT g at9 (sg, (nI n))) ++ ((wK0 g a0 ak ((nI od), (nI sz))) ++ (wHs g ak hs 6))))) := hD
  exact k_iret hx hb hr hlocks rfl rfl hP hD hS (Nat.le_of_ble_eq_true rfl) (Nat.le_of_ble_eq_true rfl) dX3_minutesToQuestion_7
set_option maxHeartbeats 4000000 in
set_option maxRecDepth 100000 in
theorem c_X3_savedStates (l : Launch) (g : kG) (u : Nat) (ah at9 a0 : Nat → Nat) (ak : Nat → Nat → Nat) (h : HSt) (sg : Nat → Int32) (n : Nat) (hn : n ≤ 60) (hch : Tok sg n) (od sz : Nat) (hod : od < 6) (hsz : sz ≤ 6) (hs : Nat → HSt) (hbo : Hbo h) (hbs : ∀ j, Hbo (hs j)) : KI l yX3_savedStates wsX3_savedStates ({ frames := 0, cells := 0, slots := 0, locals := 0 }) g [.ref u] ((wU u (ah 0) (a0 0) (at9 0)) ++ ((wH g ah h) ++ ((wT g at9 (sg, (nI n))) ++ ((wK0 g a0 ak ((nI od), (nI sz))) ++ (wHs g ak hs 6))))) (nI sz) ((wU u (ah 0) (a0 0) (at9 0)) ++ ((wH g ah h) ++ ((wT g at9 (sg, (nI n))) ++ ((wK0 g a0 ak ((nI od), (nI sz))) ++ (wHs g ak hs 6))))) 0 0 := by
  refine k_begin (cc := cX3_savedStates) (maxL := 1) (ret := (some .int)) (Qc := fun A => kQi g (nI sz) ((wU u (ah 0) (a0 0) (at9 0)) ++ ((wH g ah h) ++ ((wT g at9 (sg, (nI n))) ++ ((wK0 g a0 ak ((nI od), (nI sz))) ++ (wHs g ak hs 6))))) A) (by decide) rfl (Nat.le_of_ble_eq_true rfl) ?_
  intro p e s m below meth c A ls hF hr hlocks hin hE hP hD hS hA hl
  obtain ⟨hx, hb, hml, hown, hts⟩ := id hF
  have hown : s.vm.findClass RX3 = some m.cls := hown
  have hl : lv_has ls 1 [(0, .ref u)] := hl
  have hiX3 : ∀ w ∈ wsX30, w ∈ wsX3_savedStates := fun _ h => List.mem_cons_of_mem _ (List.mem_append_left _ (List.mem_append_right _ (h)))
  have hiX2 : ∀ w ∈ wsX20, w ∈ wsX3_savedStates := fun _ h => List.mem_cons_of_mem _ (List.mem_append_right _ (h))
  have f19 : (Cond.fieldLink RX3 19 "ConcertUsher" "history" "LConcertUsher$History;").before _ s = true := hts _ (List.mem_of_getElem? (i := 1) rfl)
  have f181 : (Cond.fieldLink RX3 181 "ConcertUsher$History" "size" "I").before _ s = true := hts _ (List.mem_of_getElem? (i := 2) rfl)
  refine lv_aload_n hx hb dX3_savedStates_0 rfl (lv_at hl 0 rfl) ?_
  refine va_get (D := g.1) (ci := 3) (v := .ref (a0 0)) (C := RX3) (T := TX3) (N := 3) hx hb hts hiX3 hown hE.1 hP 0 rfl rfl 1 (by decide) f19 (fun _ h9 => h9) rfl dX3_savedStates_1 ?_
  refine va_get (D := g.1) (ci := 2) (v := .int (nI sz)) (C := RX2) (T := TX2) (N := 3) hx hb hts hiX2 hown hE.1 hP 7 rfl rfl 2 (by decide) f181 (fun _ h9 => h9) rfl dX3_savedStates_4 ?_
  have hP : va_P g.1 vwCl ((wU u (ah 0) (a0 0) (at9 0)) ++ ((wH g ah h) ++ ((wT g at9 (sg, (nI n))) ++ ((wK0 g a0 ak ((nI od), (nI sz))) ++ (wHs g ak hs 6))))) _ := hP
  have hD : va_D A ((wU u (ah 0) (a0 0) (at9 0)) ++ ((wH g ah h) ++ ((wT g at9 (sg, (nI n))) ++ ((wK0 g a0 ak ((nI od), (nI sz))) ++ (wHs g ak hs 6))))) := hD
  exact k_iret hx hb hr hlocks rfl rfl hP hD hS (Nat.le_of_ble_eq_true rfl) (Nat.le_of_ble_eq_true rfl) dX3_savedStates_7
set_option maxHeartbeats 4000000 in
set_option maxRecDepth 100000 in
theorem c_X3_count (l : Launch) (hfl : l.stackTraces = false) (g : kG) (sa : Nat → Nat) (u : Nat) (ah at9 a0 : Nat → Nat) (ak : Nat → Nat → Nat) (h : HSt) (sg : Nat → Int32) (n : Nat) (hn : n ≤ 60) (hch : Tok sg n) (od sz : Nat) (hod : od < 6) (hsz : sz ≤ 6) (hs : Nat → HSt) (hbo : Hbo h) (hbs : ∀ j, Hbo (hs j)) (what : Int32) : KXI l yX3_count wsX3_count ({ frames := 6, cells := 1, slots := 6, locals := 90 }) g sa [.ref u, .int what] ((wU u (ah 0) (a0 0) (at9 0)) ++ ((wH g ah h) ++ ((wT g at9 (sg, (nI n))) ++ ((wK0 g a0 ak ((nI od), (nI sz))) ++ (wHs g ak hs 6))))) (cdCount what) EI (hC h what.toNatClampNeg) ((wU u (ah 0) (a0 0) (at9 0)) ++ ((wH g ah h) ++ ((wT g at9 (sg, (nI n))) ++ ((wK0 g a0 ak ((nI od), (nI sz))) ++ (wHs g ak hs 6))))) 1 6 := by
  refine k_beginX (cc := cX3_count) (maxL := 2) (ret := (some .int)) (Qc := fun A => kQxi g (cdCount what) (hC h what.toNatClampNeg) ((wU u (ah 0) (a0 0) (at9 0)) ++ ((wH g ah h) ++ ((wT g at9 (sg, (nI n))) ++ ((wK0 g a0 ak ((nI od), (nI sz))) ++ (wHs g ak hs 6))))) A) (XC := fun A => kXx g (cdCount what) EI ((wU u (ah 0) (a0 0) (at9 0)) ++ ((wH g ah h) ++ ((wT g at9 (sg, (nI n))) ++ ((wK0 g a0 ak ((nI od), (nI sz))) ++ (wHs g ak hs 6))))) A) (by decide) rfl (Nat.le_of_ble_eq_true rfl) ?_
  intro p e s m below meth c A ls hF hr hlocks hT hE hSt hZ hP hD hS hA hl
  obtain ⟨hx, hb, hml, hown, hts⟩ := id hF
  have hown : s.vm.findClass RX3 = some m.cls := hown
  have hl : lv_has ls 2 [(0, .ref u), (1, .int what)] := hl
  have hiX3 : ∀ w ∈ wsX30, w ∈ wsX3_count := fun _ h => List.mem_cons_of_mem _ (List.mem_append_left _ (List.mem_append_left _ (List.mem_append_right _ (h))))
  have hiX1 : ∀ w ∈ wsX10, w ∈ wsX3_count := fun _ h => List.mem_cons_of_mem _ (List.mem_append_left _ (List.mem_append_right _ (h)))
  have tcl101 : (Cond.classLink RX3 101 "java/lang/IndexOutOfBoundsException").before _ s = true := hts _ (List.mem_of_getElem? (i := 1) rfl)
  have tin101 : (Cond.initialized "java/lang/IndexOutOfBoundsException").before _ s = true := hts _ (List.mem_of_getElem? (i := 2) rfl)
  have tat105 : ∀ w ∈ vx_atS RX3 105 "java/lang/IndexOutOfBoundsException" ["java/lang/RuntimeException", "java/lang/Exception"], w.before _ s = true := vx_hat (B := [.castable "java/lang/IndexOutOfBoundsException" "java/lang/IndexOutOfBoundsException", .declares (Bundle.initS "java/lang/RuntimeException"), .declares (Bundle.initS "java/lang/Exception"), .declares (Bundle.initS Bundle.tN)]) (fun w h => hts w ((fun _ h => List.mem_cons_of_mem _ (List.mem_append_right _ (h))) w h)) (by decide +kernel) (vx_c (va_Nw.use rfl hSt.2.1.1) (vx_c (va_Nw.use rfl hSt.2.1.2.2.2.1) (vx_c (va_Nw.use rfl hSt.2.1.2.2.2.2.1) (vx_c (va_Nw.use rfl hSt.2.1.2.2.2.2.2) vx_n))))
  have f12 : (Cond.fieldLink RX3 12 "ConcertUsher" "hall" "LConcertUsher$Hall;").before _ s = true := hts _ (List.mem_of_getElem? (i := 3) rfl)
  have f146 : (Cond.fieldLink RX3 146 "ConcertUsher$Hall" "counts" "[I").before _ s = true := hts _ (List.mem_of_getElem? (i := 4) rfl)
  refine lv_iload_n hx hb dX3_count_0 rfl (lv_at hl 1 rfl) ?_
  refine lv_if_lt (tgt := 10) hx hb dX3_count_1 (by decide) (fun c1 => ?_) (fun c1 => ?_)
  ·
    have hcode : (cdCount what) = 1 := (by first | (simp only [cdCount, if_pos c1, if_neg (not_not_intro c1)]; done) | (simp only [cdCount, if_pos c1, if_neg (not_not_intro c1)]; rfl) | rfl | (simp [cdCount, if_pos c1, if_neg (not_not_intro c1)]; done))
    exact k_throw (i := 6) (cls := "java/lang/IndexOutOfBoundsException") hx hb hfl hown (by decide) tcl101 tin101 hSt rfl tat105 (by decide +kernel) hZ hP hD hS hA (hl.1.trans hml.symm) dX3_count_10 dX3_count_13 dX3_count_14 dX3_count_16 dX3_count_19 hT (Nat.le_of_ble_eq_true rfl) (Nat.le_of_ble_eq_true rfl) (Nat.le_of_ble_eq_true rfl) (Nat.le_of_ble_eq_true rfl) hlocks (Nat.le_of_ble_eq_true rfl) (Nat.le_of_ble_eq_true rfl) (by rw [hcode]; decide) (by rw [hcode]; rfl)
  ·
    refine lv_iload_n hx hb dX3_count_4 rfl (lv_at hl 1 rfl) ?_
    refine lv_bipush (v := (nI 6)) hx hb dX3_count_5 (by decide) ?_
    refine lv_icmp_lt (tgt := 20) hx hb dX3_count_7 (by decide) (fun c2 => ?_) (fun c2 => ?_)
    ·
      obtain ⟨q9, hq9, hq9e⟩ : ∃ k : Nat, k < 6 ∧ what = nI k := ck_nat (by decide) c1 c2
      have hq9c : what.toNatClampNeg = q9 := cl_eq hq9e (by omega)
      refine lv_aload_n hx hb dX3_count_20 rfl (lv_at hl 0 rfl) ?_
      refine va_get (D := g.1) (ci := 3) (v := .ref (ah 0)) (C := RX3) (T := TX3) (N := 3) hx hb hts hiX3 hown hE.1 hP 0 rfl rfl 0 (by decide) f12 (fun _ h9 => h9) rfl dX3_count_21 ?_
      refine va_get (D := g.1) (ci := 1) (v := .ref (ah 3)) (C := RX1) (T := TX1) (N := 12) hx hb hts hiX1 hown hE.1 hP 1 rfl rfl 2 (by decide) f146 (fun _ h9 => h9) rfl dX3_count_24 ?_
      refine lv_iload_n hx hb dX3_count_27 rfl (lv_at hl 1 rfl) ?_
      refine k_top hq9e ?_
      refine k_iald (f := (hC h)) hx hb hE hP 4 rfl q9 rfl (by omega) (by decide) dX3_count_28 ?_
      have hcode : (cdCount what) = 0 := (by first | (first | (simp only [cdCount, if_neg c1, if_pos c1, if_pos c2, if_neg (not_not_intro c2), hq9c]; done) | (simp only [cdCount, if_neg c1, if_pos c1, if_pos c2, if_neg (not_not_intro c2), hq9c]; rfl) | rfl | (simp [cdCount, if_neg c1, if_pos c1, if_pos c2, if_neg (not_not_intro c2), hq9c]; done)) | (first | (simp only [cdCount, if_neg c1, if_pos c1, if_pos c2, if_neg (not_not_intro c2)]; done) | (simp only [cdCount, if_neg c1, if_pos c1, if_pos c2, if_neg (not_not_intro c2)]; rfl) | rfl | (simp [cdCount, if_neg c1, if_pos c1, if_pos c2, if_neg (not_not_intro c2)]; done)))
      have hP : va_P g.1 vwCl ((wU u (ah 0) (a0 0) (at9 0)) ++ ((wH g ah h) ++ ((wT g at9 (sg, (nI n))) ++ ((wK0 g a0 ak ((nI od), (nI sz))) ++ (wHs g ak hs 6))))) _ := hP
      have hD : va_D A ((wU u (ah 0) (a0 0) (at9 0)) ++ ((wH g ah h) ++ ((wT g at9 (sg, (nI n))) ++ ((wK0 g a0 ak ((nI od), (nI sz))) ++ (wHs g ak hs 6))))) := hD
      exact k_xiret hx hb hr hlocks rfl hcode (by first | (simp only [bI, if_neg c1, if_pos c1, if_pos c2, if_neg (not_not_intro c2), hq9c]; done) | (simp only [bI, if_neg c1, if_pos c1, if_pos c2, if_neg (not_not_intro c2), hq9c]; rfl) | rfl | (simp [bI, if_neg c1, if_pos c1, if_pos c2, if_neg (not_not_intro c2), hq9c]; done)) hP hD hS (Nat.le_of_ble_eq_true rfl) (Nat.le_of_ble_eq_true rfl) dX3_count_29
    ·
      have hcode : (cdCount what) = 1 := (by first | (simp only [cdCount, if_neg c1, if_pos c1, if_neg c2, if_pos c2]; done) | (simp only [cdCount, if_neg c1, if_pos c1, if_neg c2, if_pos c2]; rfl) | rfl | (simp [cdCount, if_neg c1, if_pos c1, if_neg c2, if_pos c2]; done))
      exact k_throw (i := 6) (cls := "java/lang/IndexOutOfBoundsException") hx hb hfl hown (by decide) tcl101 tin101 hSt rfl tat105 (by decide +kernel) hZ hP hD hS hA (hl.1.trans hml.symm) dX3_count_10 dX3_count_13 dX3_count_14 dX3_count_16 dX3_count_19 hT (Nat.le_of_ble_eq_true rfl) (Nat.le_of_ble_eq_true rfl) (Nat.le_of_ble_eq_true rfl) (Nat.le_of_ble_eq_true rfl) hlocks (Nat.le_of_ble_eq_true rfl) (Nat.le_of_ble_eq_true rfl) (by rw [hcode]; decide) (by rw [hcode]; rfl)
set_option maxHeartbeats 4000000 in
set_option maxRecDepth 100000 in
theorem c_X3_undo (l : Launch) (hfl : l.stackTraces = false) (g : kG) (sa : Nat → Nat) (u : Nat) (ah at9 a0 : Nat → Nat) (ak : Nat → Nat → Nat) (h : HSt) (sg : Nat → Int32) (n : Nat) (hn : n ≤ 60) (hch : Tok sg n) (od sz : Nat) (hod : od < 6) (hsz : sz ≤ 6) (hs : Nat → HSt) (hbo : Hbo h) (hbs : ∀ j, Hbo (hs j)) : KXI l yX3_undo wsX3_undo ({ frames := 6, cells := 1, slots := 6, locals := 102 }) g sa [.ref u] ((wU u (ah 0) (a0 0) (at9 0)) ++ ((wH g ah h) ++ ((wT g at9 (sg, (nI n))) ++ ((wK0 g a0 ak ((nI od), (nI sz))) ++ (wHs g ak hs 6))))) (if sz = 0 then 1 else 0) ES (nI (sz - 1)) ((wU u (ah 0) (a0 0) (at9 0)) ++ ((wH g ah (hs ((od + (sz - 1)) % 6))) ++ ((wT g at9 (sg, (nI n))) ++ ((wK0 g a0 ak (nI od, nI (sz - 1))) ++ (wHs g ak hs 6))))) 1 6 := by
  refine k_beginX (cc := cX3_undo) (maxL := 1) (ret := (some .int)) (Qc := fun A => kQxi g (if sz = 0 then 1 else 0) (nI (sz - 1)) ((wU u (ah 0) (a0 0) (at9 0)) ++ ((wH g ah (hs ((od + (sz - 1)) % 6))) ++ ((wT g at9 (sg, (nI n))) ++ ((wK0 g a0 ak (nI od, nI (sz - 1))) ++ (wHs g ak hs 6))))) A) (XC := fun A => kXx g (if sz = 0 then 1 else 0) ES ((wU u (ah 0) (a0 0) (at9 0)) ++ ((wH g ah h) ++ ((wT g at9 (sg, (nI n))) ++ ((wK0 g a0 ak ((nI od), (nI sz))) ++ (wHs g ak hs 6))))) A) (by decide) rfl (Nat.le_of_ble_eq_true rfl) ?_
  intro p e s m below meth c A ls hF hr hlocks hT hE hSt hZ hP hD hS hA hl
  obtain ⟨hx, hb, hml, hown, hts⟩ := id hF
  have hown : s.vm.findClass RX3 = some m.cls := hown
  have hl : lv_has ls 1 [(0, .ref u)] := hl
  have hiX3 : ∀ w ∈ wsX30, w ∈ wsX3_undo := fun _ h => List.mem_cons_of_mem _ (List.mem_append_left _ (List.mem_append_left _ (List.mem_append_left _ (List.mem_append_right _ (h)))))
  have hiX2 : ∀ w ∈ wsX20, w ∈ wsX3_undo := fun _ h => List.mem_cons_of_mem _ (List.mem_append_left _ (List.mem_append_left _ (List.mem_append_right _ (h))))
  have f19 : (Cond.fieldLink RX3 19 "ConcertUsher" "history" "LConcertUsher$History;").before _ s = true := hts _ (List.mem_of_getElem? (i := 3) rfl)
  have f181 : (Cond.fieldLink RX3 181 "ConcertUsher$History" "size" "I").before _ s = true := hts _ (List.mem_of_getElem? (i := 4) rfl)
  have f12 : (Cond.fieldLink RX3 12 "ConcertUsher" "hall" "LConcertUsher$Hall;").before _ s = true := hts _ (List.mem_of_getElem? (i := 5) rfl)
  have tcl45 : (Cond.classLink RX3 45 "java/lang/IllegalStateException").before _ s = true := hts _ (List.mem_of_getElem? (i := 1) rfl)
  have tin45 : (Cond.initialized "java/lang/IllegalStateException").before _ s = true := hts _ (List.mem_of_getElem? (i := 2) rfl)
  have tat49 : ∀ w ∈ vx_atS RX3 49 "java/lang/IllegalStateException" ["java/lang/RuntimeException", "java/lang/Exception"], w.before _ s = true := vx_hat (B := [.castable "java/lang/IllegalStateException" "java/lang/IllegalStateException", .declares (Bundle.initS "java/lang/RuntimeException"), .declares (Bundle.initS "java/lang/Exception"), .declares (Bundle.initS Bundle.tN)]) (fun w h => hts w ((fun _ h => List.mem_cons_of_mem _ (List.mem_append_right _ (h))) w h)) (by decide +kernel) (vx_c (va_Nw.use rfl hSt.2.1.2.1) (vx_c (va_Nw.use rfl hSt.2.1.2.2.2.1) (vx_c (va_Nw.use rfl hSt.2.1.2.2.2.2.1) (vx_c (va_Nw.use rfl hSt.2.1.2.2.2.2.2) vx_n))))
  refine lv_aload_n hx hb dX3_undo_0 rfl (lv_at hl 0 rfl) ?_
  refine va_get (D := g.1) (ci := 3) (v := .ref (a0 0)) (C := RX3) (T := TX3) (N := 3) hx hb hts hiX3 hown hE.1 hP 0 rfl rfl 1 (by decide) f19 (fun _ h9 => h9) rfl dX3_undo_1 ?_
  refine va_get (D := g.1) (ci := 2) (v := .int (nI sz)) (C := RX2) (T := TX2) (N := 3) hx hb hts hiX2 hown hE.1 hP 7 rfl rfl 2 (by decide) f181 (fun _ h9 => h9) rfl dX3_undo_4 ?_
  refine k_ifn0 (tgt := 20) hx hb (by omega) dX3_undo_7 (by decide) (fun c1 => ?_) (fun c1 => ?_)
  ·
    refine lv_aload_n hx hb dX3_undo_20 rfl (lv_at hl 0 rfl) ?_
    refine va_get (D := g.1) (ci := 3) (v := .ref (a0 0)) (C := RX3) (T := TX3) (N := 3) hx hb hts hiX3 hown hE.1 hP 0 rfl rfl 1 (by decide) f19 (fun _ h9 => h9) rfl dX3_undo_21 ?_
    refine lv_aload_n hx hb dX3_undo_24 rfl (lv_at hl 0 rfl) ?_
    refine va_get (D := g.1) (ci := 3) (v := .ref (ah 0)) (C := RX3) (T := TX3) (N := 3) hx hb hts hiX3 hown hE.1 hP 0 rfl rfl 0 (by decide) f12 (fun _ h9 => h9) rfl dX3_undo_25 ?_
    refine k_Vv (As := [.ref (ah 0)]) hF (c_X2_takeBack l g a0 ak ah od sz (by omega) (by omega) hs h (by omega) hbs) (cwV 1 hts gX3_undo_X2_takeBack rfl rfl rfl (by decide +kernel) ⟨Nat.le_of_ble_eq_true rfl, Nat.le_of_ble_eq_true rfl⟩) hE hP hD hS hA (pm_5_341 _ _ _ _ _) ((pm_5_341 _ _ _ _ _).symm) 7 rfl rfl rfl rfl hl.1 rfl (Nat.le_of_ble_eq_true rfl) dX3_undo_28 ⟨Nat.le_of_ble_eq_true rfl, Nat.le_of_ble_eq_true rfl⟩ (fun H locs hP hD hS => ?_)
    have hP : va_P g.1 vwCl ((wU u (ah 0) (a0 0) (at9 0)) ++ ((wH g ah (hs ((od + (sz - 1)) % 6))) ++ ((wT g at9 (sg, (nI n))) ++ ((wK0 g a0 ak ((nI od), (nI (sz - 1)))) ++ (wHs g ak hs 6))))) _ := hP
    have hD : va_D A ((wU u (ah 0) (a0 0) (at9 0)) ++ ((wH g ah (hs ((od + (sz - 1)) % 6))) ++ ((wT g at9 (sg, (nI n))) ++ ((wK0 g a0 ak ((nI od), (nI (sz - 1)))) ++ (wHs g ak hs 6))))) := hD
    obtain ⟨z2, ez2⟩ : ∃ x : HSt, (hs ((od + (sz - 1)) % 6)) = x := ⟨_, rfl⟩
    rw [ez2] at hP hD
    refine lv_aload_n hx hb dX3_undo_31 rfl (lv_at hl 0 rfl) ?_
    refine va_get (D := g.1) (ci := 3) (v := .ref (a0 0)) (C := RX3) (T := TX3) (N := 3) hx hb hts hiX3 hown hE.1 hP 0 rfl rfl 1 (by decide) f19 (fun _ h9 => h9) rfl dX3_undo_32 ?_
    refine va_get (D := g.1) (ci := 2) (v := .int (nI (sz - 1))) (C := RX2) (T := TX2) (N := 3) hx hb hts hiX2 hown hE.1 hP 7 rfl rfl 2 (by decide) f181 (fun _ h9 => h9) rfl dX3_undo_35 ?_
    have hcode : (if sz = 0 then 1 else 0) = 0 := (by subst ez2; first | (simp only [if_neg c1, if_pos c1]; done) | (simp only [if_neg c1, if_pos c1]; rfl) | rfl | (simp [if_neg c1, if_pos c1]; done))
    have e3 : (hs ((od + (sz - 1)) % 6)) = z2 := (by subst ez2; first | (simp only [if_neg c1, if_pos c1]; done) | (simp only [if_neg c1, if_pos c1]; rfl) | rfl | (simp [if_neg c1, if_pos c1]; done))
    have e4 : (nI od, nI (sz - 1)) = ((nI od), (nI (sz - 1))) := (by subst ez2; first | (simp only [if_neg c1, if_pos c1]; done) | (simp only [if_neg c1, if_pos c1]; rfl) | rfl | (simp [if_neg c1, if_pos c1]; done))
    have hP : va_P g.1 vwCl ((wU u (ah 0) (a0 0) (at9 0)) ++ ((wH g ah (hs ((od + (sz - 1)) % 6))) ++ ((wT g at9 (sg, (nI n))) ++ ((wK0 g a0 ak (nI od, nI (sz - 1))) ++ (wHs g ak hs 6))))) H := by rw [e3, e4]; exact hP
    have hD : va_D A ((wU u (ah 0) (a0 0) (at9 0)) ++ ((wH g ah (hs ((od + (sz - 1)) % 6))) ++ ((wT g at9 (sg, (nI n))) ++ ((wK0 g a0 ak (nI od, nI (sz - 1))) ++ (wHs g ak hs 6))))) := by rw [e3, e4]; exact hD
    exact k_xiret hx hb hr hlocks rfl hcode (by subst ez2; first | (simp only [bI, if_neg c1, if_pos c1]; done) | (simp only [bI, if_neg c1, if_pos c1]; rfl) | rfl | (simp [bI, if_neg c1, if_pos c1]; done)) hP hD hS (Nat.le_of_ble_eq_true rfl) (Nat.le_of_ble_eq_true rfl) dX3_undo_38
  ·
    have hcode : (if sz = 0 then 1 else 0) = 1 := (by first | (simp only [if_pos c1, if_neg (not_not_intro c1)]; done) | (simp only [if_pos c1, if_neg (not_not_intro c1)]; rfl) | rfl | (simp [if_pos c1, if_neg (not_not_intro c1)]; done))
    exact k_throw (i := 7) (cls := "java/lang/IllegalStateException") hx hb hfl hown (by decide) tcl45 tin45 hSt rfl tat49 (by decide +kernel) hZ hP hD hS hA (hl.1.trans hml.symm) dX3_undo_10 dX3_undo_13 dX3_undo_14 dX3_undo_16 dX3_undo_19 hT (Nat.le_of_ble_eq_true rfl) (Nat.le_of_ble_eq_true rfl) (Nat.le_of_ble_eq_true rfl) (Nat.le_of_ble_eq_true rfl) hlocks (Nat.le_of_ble_eq_true rfl) (Nat.le_of_ble_eq_true rfl) (by rw [hcode]; decide) (by rw [hcode]; rfl)
