/-! events out of the buffer -/
/-! the flags stay -/
/-! a whole text: every event in it stands -/
theorem pm_5_2 {α : Type} (b0 b1 b2 b3 b4 : List α) : ((b0 ++ (b1 ++ (b2 ++ (b3 ++ b4))))).Perm (b2 ++ (b0 ++ (b1 ++ (b3 ++ b4)))) := by
  classical exact List.perm_iff_count.mpr (fun x => by simp only [List.count_append]; omega)
set_option maxHeartbeats 4000000 in
set_option maxRecDepth 100000 in
theorem c_X3_seatIfRoom (l : Launch) (g : kG) (u : Nat) (ah at9 a0 : Nat → Nat) (ak : Nat → Nat → Nat) (h : HSt) (sg : Nat → Int32) (n : Nat) (hn : n ≤ 60) (hch : Tok sg n) (od sz : Nat) (hod : od < 6) (hsz : sz ≤ 6) (hs : Nat → HSt) (hbo : Hbo h) (hbs : ∀ j, Hbo (hs j)) (r9 c9 : Nat) (hr9 : r9 < 8) (hc9 : c9 < 6) : KI l yX3_seatIfRoom wsX3_seatIfRoom ({ frames := 2, cells := 0, slots := 0, locals := 42 }) g [.ref u, .int (nI r9), .int (nI c9)] ((wU u (ah 0) (a0 0) (at9 0)) ++ ((wH g ah h) ++ ((wT g at9 (sg, (nI n))) ++ ((wK0 g a0 ak ((nI od), (nI sz))) ++ (wHs g ak hs 6))))) (bI (¬ nI 9 ≤ (hL h) (r9 * 6 + c9))) ((wU u (ah 0) (a0 0) (at9 0)) ++ ((wH g ah (if ¬ nI 9 ≤ hL h (r9 * 6 + c9) then Hseat (r9 * 6 + c9) h else h)) ++ ((wT g at9 (sg, (nI n))) ++ ((wK0 g a0 ak ((nI od), (nI sz))) ++ (wHs g ak hs 6))))) 0 0 := by
  refine k_begin (cc := cX3_seatIfRoom) (maxL := 3) (ret := (some .boolean)) (Qc := fun A => kQi g (bI (¬ nI 9 ≤ (hL h) (r9 * 6 + c9))) ((wU u (ah 0) (a0 0) (at9 0)) ++ ((wH g ah (if ¬ nI 9 ≤ hL h (r9 * 6 + c9) then Hseat (r9 * 6 + c9) h else h)) ++ ((wT g at9 (sg, (nI n))) ++ ((wK0 g a0 ak ((nI od), (nI sz))) ++ (wHs g ak hs 6))))) A) (by decide) rfl (Nat.le_of_ble_eq_true rfl) ?_
  intro p e s m below meth c A ls hF hr hlocks hin hE hP hD hS hA hl
  obtain ⟨hx, hb, hml, hown, hts⟩ := id hF
  have hown : s.vm.findClass RX3 = some m.cls := hown
  have hl : lv_has ls 3 [(0, .ref u), (1, .int (nI r9)), (2, .int (nI c9))] := hl
  have hiX3 : ∀ w ∈ wsX30, w ∈ wsX3_seatIfRoom := fun _ h => List.mem_cons_of_mem _ (List.mem_append_left _ (List.mem_append_right _ (h)))
  have f12 : (Cond.fieldLink RX3 12 "ConcertUsher" "hall" "LConcertUsher$Hall;").before _ s = true := hts _ (List.mem_of_getElem? (i := 1) rfl)
  refine lv_iload_n hx hb dX3_seatIfRoom_0 rfl (lv_at hl 1 rfl) ?_
  refine k_Si (w0 := []) (w1 := []) (As := [.int (nI r9)]) (r := (bI (ckR (nI r9) = 0))) hF (c_X3_isRow l g (nI r9)) (va_cwS 1 hts gX3_seatIfRoom_X3_isRow rfl rfl rfl (by decide +kernel) ⟨Nat.le_of_ble_eq_true rfl, Nat.le_of_ble_eq_true rfl⟩) hE hP hD hS hA (List.Perm.refl _) (List.Perm.refl _) rfl hl.1 rfl (Nat.le_of_ble_eq_true rfl) dX3_seatIfRoom_1 ⟨Nat.le_of_ble_eq_true rfl, Nat.le_of_ble_eq_true rfl⟩ (fun H locs hP hD hS => ?_)
  have hP : va_P g.1 vwCl ((wU u (ah 0) (a0 0) (at9 0)) ++ ((wH g ah h) ++ ((wT g at9 (sg, (nI n))) ++ ((wK0 g a0 ak ((nI od), (nI sz))) ++ (wHs g ak hs 6))))) _ := hP
  have hD : va_D A ((wU u (ah 0) (a0 0) (at9 0)) ++ ((wH g ah h) ++ ((wT g at9 (sg, (nI n))) ++ ((wK0 g a0 ak ((nI od), (nI sz))) ++ (wHs g ak hs 6))))) := hD
  refine k_ifeqB (tgt := 29) hx hb dX3_seatIfRoom_4 (by decide) (fun c1 => ?_) (fun c1 => ?_)
  ·
    exact absurd (ckR_in hr9) c1
  ·
    refine lv_iload_n hx hb dX3_seatIfRoom_7 rfl (lv_at hl 2 rfl) ?_
    refine k_Si (w0 := []) (w1 := []) (As := [.int (nI c9)]) (r := (bI (ckC (nI c9) = 0))) hF (c_X3_isConcert l g (nI c9)) (va_cwS 1 hts gX3_seatIfRoom_X3_isConcert rfl rfl rfl (by decide +kernel) ⟨Nat.le_of_ble_eq_true rfl, Nat.le_of_ble_eq_true rfl⟩) hE hP hD hS hA (List.Perm.refl _) (List.Perm.refl _) rfl hl.1 rfl (Nat.le_of_ble_eq_true rfl) dX3_seatIfRoom_8 ⟨Nat.le_of_ble_eq_true rfl, Nat.le_of_ble_eq_true rfl⟩ (fun H locs hP hD hS => ?_)
    have hP : va_P g.1 vwCl ((wU u (ah 0) (a0 0) (at9 0)) ++ ((wH g ah h) ++ ((wT g at9 (sg, (nI n))) ++ ((wK0 g a0 ak ((nI od), (nI sz))) ++ (wHs g ak hs 6))))) _ := hP
    have hD : va_D A ((wU u (ah 0) (a0 0) (at9 0)) ++ ((wH g ah h) ++ ((wT g at9 (sg, (nI n))) ++ ((wK0 g a0 ak ((nI od), (nI sz))) ++ (wHs g ak hs 6))))) := hD
    refine k_ifeqB (tgt := 29) hx hb dX3_seatIfRoom_11 (by decide) (fun c2 => ?_) (fun c2 => ?_)
    ·
      exact absurd (ckC_in hc9) c2
    ·
      refine lv_aload_n hx hb dX3_seatIfRoom_14 rfl (lv_at hl 0 rfl) ?_
      refine va_get (D := g.1) (ci := 3) (v := .ref (ah 0)) (C := RX3) (T := TX3) (N := 3) hx hb hts hiX3 hown hE.1 hP 0 rfl rfl 0 (by decide) f12 (fun _ h9 => h9) rfl dX3_seatIfRoom_15 ?_
      refine lv_iload_n hx hb dX3_seatIfRoom_18 rfl (lv_at hl 1 rfl) ?_
      refine lv_iload_n hx hb dX3_seatIfRoom_19 rfl (lv_at hl 2 rfl) ?_
      refine k_Si (w0 := []) (w1 := []) (As := [.int (nI r9), .int (nI c9)]) (r := (nI (r9 * 6 + c9))) hF (c_X3_placeOf l g r9 c9) (va_cwS 2 hts gX3_seatIfRoom_X3_placeOf rfl rfl rfl (by decide +kernel) ⟨Nat.le_of_ble_eq_true rfl, Nat.le_of_ble_eq_true rfl⟩) hE hP hD hS hA (List.Perm.refl _) (List.Perm.refl _) rfl hl.1 rfl (Nat.le_of_ble_eq_true rfl) dX3_seatIfRoom_20 ⟨Nat.le_of_ble_eq_true rfl, Nat.le_of_ble_eq_true rfl⟩ (fun H locs hP hD hS => ?_)
      have hP : va_P g.1 vwCl ((wU u (ah 0) (a0 0) (at9 0)) ++ ((wH g ah h) ++ ((wT g at9 (sg, (nI n))) ++ ((wK0 g a0 ak ((nI od), (nI sz))) ++ (wHs g ak hs 6))))) _ := hP
      have hD : va_D A ((wU u (ah 0) (a0 0) (at9 0)) ++ ((wH g ah h) ++ ((wT g at9 (sg, (nI n))) ++ ((wK0 g a0 ak ((nI od), (nI sz))) ++ (wHs g ak hs 6))))) := hD
      refine k_Vi (As := [.int (nI (r9 * 6 + c9))]) (r := (bI (¬ nI 9 ≤ ((hL h) (r9 * 6 + c9))))) hF (c_X1_hasRoom l g ah h (r9 * 6 + c9) (by omega)) (cwV 1 hts gX3_seatIfRoom_X1_hasRoom rfl rfl rfl (by decide +kernel) ⟨Nat.le_of_ble_eq_true rfl, Nat.le_of_ble_eq_true rfl⟩) hE hP hD hS hA (pm_5_1 _ _ _ _ _) ((pm_5_1 _ _ _ _ _).symm) 1 rfl rfl rfl rfl hl.1 rfl (Nat.le_of_ble_eq_true rfl) dX3_seatIfRoom_23 ⟨Nat.le_of_ble_eq_true rfl, Nat.le_of_ble_eq_true rfl⟩ (fun H locs hP hD hS => ?_)
      have hP : va_P g.1 vwCl ((wU u (ah 0) (a0 0) (at9 0)) ++ ((wH g ah h) ++ ((wT g at9 (sg, (nI n))) ++ ((wK0 g a0 ak ((nI od), (nI sz))) ++ (wHs g ak hs 6))))) _ := hP
      have hD : va_D A ((wU u (ah 0) (a0 0) (at9 0)) ++ ((wH g ah h) ++ ((wT g at9 (sg, (nI n))) ++ ((wK0 g a0 ak ((nI od), (nI sz))) ++ (wHs g ak hs 6))))) := hD
      refine k_ifneB (tgt := 31) hx hb dX3_seatIfRoom_26 (by decide) (fun c3 => ?_) (fun c3 => ?_)
      ·
        refine lv_aload_n hx hb dX3_seatIfRoom_31 rfl (lv_at hl 0 rfl) ?_
        refine va_get (D := g.1) (ci := 3) (v := .ref (ah 0)) (C := RX3) (T := TX3) (N := 3) hx hb hts hiX3 hown hE.1 hP 0 rfl rfl 0 (by decide) f12 (fun _ h9 => h9) rfl dX3_seatIfRoom_32 ?_
        refine lv_iload_n hx hb dX3_seatIfRoom_35 rfl (lv_at hl 1 rfl) ?_
        refine lv_iload_n hx hb dX3_seatIfRoom_36 rfl (lv_at hl 2 rfl) ?_
        refine k_Si (w0 := []) (w1 := []) (As := [.int (nI r9), .int (nI c9)]) (r := (nI (r9 * 6 + c9))) hF (c_X3_placeOf l g r9 c9) (va_cwS 2 hts gX3_seatIfRoom_X3_placeOf rfl rfl rfl (by decide +kernel) ⟨Nat.le_of_ble_eq_true rfl, Nat.le_of_ble_eq_true rfl⟩) hE hP hD hS hA (List.Perm.refl _) (List.Perm.refl _) rfl hl.1 rfl (Nat.le_of_ble_eq_true rfl) dX3_seatIfRoom_37 ⟨Nat.le_of_ble_eq_true rfl, Nat.le_of_ble_eq_true rfl⟩ (fun H locs hP hD hS => ?_)
        have hP : va_P g.1 vwCl ((wU u (ah 0) (a0 0) (at9 0)) ++ ((wH g ah h) ++ ((wT g at9 (sg, (nI n))) ++ ((wK0 g a0 ak ((nI od), (nI sz))) ++ (wHs g ak hs 6))))) _ := hP
        have hD : va_D A ((wU u (ah 0) (a0 0) (at9 0)) ++ ((wH g ah h) ++ ((wT g at9 (sg, (nI n))) ++ ((wK0 g a0 ak ((nI od), (nI sz))) ++ (wHs g ak hs 6))))) := hD
        refine k_Vv (As := [.int (nI (r9 * 6 + c9))]) hF (c_X1_seat l g ah h (r9 * 6 + c9) (by omega)) (cwV 1 hts gX3_seatIfRoom_X1_seat rfl rfl rfl (by decide +kernel) ⟨Nat.le_of_ble_eq_true rfl, Nat.le_of_ble_eq_true rfl⟩) hE hP hD hS hA (pm_5_1 _ _ _ _ _) ((pm_5_1 _ _ _ _ _).symm) 1 rfl rfl rfl rfl hl.1 rfl (Nat.le_of_ble_eq_true rfl) dX3_seatIfRoom_40 ⟨Nat.le_of_ble_eq_true rfl, Nat.le_of_ble_eq_true rfl⟩ (fun H locs hP hD hS => ?_)
        have hP : va_P g.1 vwCl ((wU u (ah 0) (a0 0) (at9 0)) ++ ((wH g ah (Hseat (r9 * 6 + c9) h)) ++ ((wT g at9 (sg, (nI n))) ++ ((wK0 g a0 ak ((nI od), (nI sz))) ++ (wHs g ak hs 6))))) _ := hP
        have hD : va_D A ((wU u (ah 0) (a0 0) (at9 0)) ++ ((wH g ah (Hseat (r9 * 6 + c9) h)) ++ ((wT g at9 (sg, (nI n))) ++ ((wK0 g a0 ak ((nI od), (nI sz))) ++ (wHs g ak hs 6))))) := hD
        obtain ⟨z4, ez4⟩ : ∃ x : HSt, (Hseat (r9 * 6 + c9) h) = x := ⟨_, rfl⟩
        rw [ez4] at hP hD
        refine lv_iconst (v := (nI 1)) hx hb dX3_seatIfRoom_43 (by decide) ?_
        have e5 : (if ¬ nI 9 ≤ hL h (r9 * 6 + c9) then Hseat (r9 * 6 + c9) h else h) = z4 := (by subst ez4; first | (simp only [if_pos c1, if_neg (not_not_intro c1), if_pos c2, if_neg (not_not_intro c2), if_pos c3, if_neg (not_not_intro c3)]; done) | (simp only [if_pos c1, if_neg (not_not_intro c1), if_pos c2, if_neg (not_not_intro c2), if_pos c3, if_neg (not_not_intro c3)]; rfl) | rfl | (simp [if_pos c1, if_neg (not_not_intro c1), if_pos c2, if_neg (not_not_intro c2), if_pos c3, if_neg (not_not_intro c3)]; done))
        have hP : va_P g.1 vwCl ((wU u (ah 0) (a0 0) (at9 0)) ++ ((wH g ah (if ¬ nI 9 ≤ hL h (r9 * 6 + c9) then Hseat (r9 * 6 + c9) h else h)) ++ ((wT g at9 (sg, (nI n))) ++ ((wK0 g a0 ak ((nI od), (nI sz))) ++ (wHs g ak hs 6))))) H := by rw [e5]; exact hP
        have hD : va_D A ((wU u (ah 0) (a0 0) (at9 0)) ++ ((wH g ah (if ¬ nI 9 ≤ hL h (r9 * 6 + c9) then Hseat (r9 * 6 + c9) h else h)) ++ ((wT g at9 (sg, (nI n))) ++ ((wK0 g a0 ak ((nI od), (nI sz))) ++ (wHs g ak hs 6))))) := by rw [e5]; exact hD
        exact k_iret hx hb hr hlocks rfl (by subst ez4; first | (simp only [bI, if_pos c1, if_neg (not_not_intro c1), if_pos c2, if_neg (not_not_intro c2), if_pos c3, if_neg (not_not_intro c3)]; done) | (simp only [bI, if_pos c1, if_neg (not_not_intro c1), if_pos c2, if_neg (not_not_intro c2), if_pos c3, if_neg (not_not_intro c3)]; rfl) | rfl | (simp [bI, if_pos c1, if_neg (not_not_intro c1), if_pos c2, if_neg (not_not_intro c2), if_pos c3, if_neg (not_not_intro c3)]; done)) hP hD hS (Nat.le_of_ble_eq_true rfl) (Nat.le_of_ble_eq_true rfl) dX3_seatIfRoom_44
      ·
        refine lv_iconst (v := (nI 0)) hx hb dX3_seatIfRoom_29 (by decide) ?_
        have e6 : (if ¬ nI 9 ≤ hL h (r9 * 6 + c9) then Hseat (r9 * 6 + c9) h else h) = h := (by first | (simp only [if_pos c1, if_neg (not_not_intro c1), if_pos c2, if_neg (not_not_intro c2), if_neg c3, if_pos c3]; done) | (simp only [if_pos c1, if_neg (not_not_intro c1), if_pos c2, if_neg (not_not_intro c2), if_neg c3, if_pos c3]; rfl) | rfl | (simp [if_pos c1, if_neg (not_not_intro c1), if_pos c2, if_neg (not_not_intro c2), if_neg c3, if_pos c3]; done))
        have hP : va_P g.1 vwCl ((wU u (ah 0) (a0 0) (at9 0)) ++ ((wH g ah (if ¬ nI 9 ≤ hL h (r9 * 6 + c9) then Hseat (r9 * 6 + c9) h else h)) ++ ((wT g at9 (sg, (nI n))) ++ ((wK0 g a0 ak ((nI od), (nI sz))) ++ (wHs g ak hs 6))))) H := by rw [e6]; exact hP
        have hD : va_D A ((wU u (ah 0) (a0 0) (at9 0)) ++ ((wH g ah (if ¬ nI 9 ≤ hL h (r9 * 6 + c9) then Hseat (r9 * 6 + c9) h else h)) ++ ((wT g at9 (sg, (nI n))) ++ ((wK0 g a0 ak ((nI od), (nI sz))) ++ (wHs g ak hs 6))))) := by rw [e6]; exact hD
        exact k_iret hx hb hr hlocks rfl (by first | (simp only [bI, if_pos c1, if_neg (not_not_intro c1), if_pos c2, if_neg (not_not_intro c2), if_neg c3, if_pos c3]; done) | (simp only [bI, if_pos c1, if_neg (not_not_intro c1), if_pos c2, if_neg (not_not_intro c2), if_neg c3, if_pos c3]; rfl) | rfl | (simp [bI, if_pos c1, if_neg (not_not_intro c1), if_pos c2, if_neg (not_not_intro c2), if_neg c3, if_pos c3]; done)) hP hD hS (Nat.le_of_ble_eq_true rfl) (Nat.le_of_ble_eq_true rfl) dX3_seatIfRoom_30
set_option maxHeartbeats 4000000 in
set_option maxRecDepth 100000 in
theorem c_X3_unseatIfWanted (l : Launch) (g : kG) (u : Nat) (ah at9 a0 : Nat → Nat) (ak : Nat → Nat → Nat) (h : HSt) (sg : Nat → Int32) (n : Nat) (hn : n ≤ 60) (hch : Tok sg n) (od sz : Nat) (hod : od < 6) (hsz : sz ≤ 6) (hs : Nat → HSt) (hbo : Hbo h) (hbs : ∀ j, Hbo (hs j)) (r9 c9 : Nat) (hr9 : r9 < 8) (hc9 : c9 < 6) (b : Nat) (hb2 : b < 2) : KI l yX3_unseatIfWanted wsX3_unseatIfWanted ({ frames := 3, cells := 0, slots := 0, locals := 64 }) g [.ref u, .int (nI r9), .int (nI c9), .int (nI b)] ((wU u (ah 0) (a0 0) (at9 0)) ++ ((wH g ah h) ++ ((wT g at9 (sg, (nI n))) ++ ((wK0 g a0 ak ((nI od), (nI sz))) ++ (wHs g ak hs 6))))) (bI (¬ (hL h) (r9 * 6 + c9) ≤ 0)) ((wU u (ah 0) (a0 0) (at9 0)) ++ ((wH g ah (if ¬ hL h (r9 * 6 + c9) ≤ 0 then Hunseat (r9 * 6 + c9) b h else h)) ++ ((wT g at9 (sg, (nI n))) ++ ((wK0 g a0 ak ((nI od), (nI sz))) ++ (wHs g ak hs 6))))) 0 0 := by
  refine k_begin (cc := cX3_unseatIfWanted) (maxL := 4) (ret := (some .boolean)) (Qc := fun A => kQi g (bI (¬ (hL h) (r9 * 6 + c9) ≤ 0)) ((wU u (ah 0) (a0 0) (at9 0)) ++ ((wH g ah (if ¬ hL h (r9 * 6 + c9) ≤ 0 then Hunseat (r9 * 6 + c9) b h else h)) ++ ((wT g at9 (sg, (nI n))) ++ ((wK0 g a0 ak ((nI od), (nI sz))) ++ (wHs g ak hs 6))))) A) (by decide) rfl (Nat.le_of_ble_eq_true rfl) ?_
  intro p e s m below meth c A ls hF hr hlocks hin hE hP hD hS hA hl
  obtain ⟨hx, hb, hml, hown, hts⟩ := id hF
  have hown : s.vm.findClass RX3 = some m.cls := hown
  have hl : lv_has ls 4 [(0, .ref u), (1, .int (nI r9)), (2, .int (nI c9)), (3, .int (nI b))] := hl
  have hiX3 : ∀ w ∈ wsX30, w ∈ wsX3_unseatIfWanted := fun _ h => List.mem_cons_of_mem _ (List.mem_append_left _ (List.mem_append_right _ (h)))
  have f12 : (Cond.fieldLink RX3 12 "ConcertUsher" "hall" "LConcertUsher$Hall;").before _ s = true := hts _ (List.mem_of_getElem? (i := 1) rfl)
  refine lv_iload_n hx hb dX3_unseatIfWanted_0 rfl (lv_at hl 1 rfl) ?_
  refine k_Si (w0 := []) (w1 := []) (As := [.int (nI r9)]) (r := (bI (ckR (nI r9) = 0))) hF (c_X3_isRow l g (nI r9)) (va_cwS 1 hts gX3_unseatIfWanted_X3_isRow rfl rfl rfl (by decide +kernel) ⟨Nat.le_of_ble_eq_true rfl, Nat.le_of_ble_eq_true rfl⟩) hE hP hD hS hA (List.Perm.refl _) (List.Perm.refl _) rfl hl.1 rfl (Nat.le_of_ble_eq_true rfl) dX3_unseatIfWanted_1 ⟨Nat.le_of_ble_eq_true rfl, Nat.le_of_ble_eq_true rfl⟩ (fun H locs hP hD hS => ?_)
  have hP : va_P g.1 vwCl ((wU u (ah 0) (a0 0) (at9 0)) ++ ((wH g ah h) ++ ((wT g at9 (sg, (nI n))) ++ ((wK0 g a0 ak ((nI od), (nI sz))) ++ (wHs g ak hs 6))))) _ := hP
  have hD : va_D A ((wU u (ah 0) (a0 0) (at9 0)) ++ ((wH g ah h) ++ ((wT g at9 (sg, (nI n))) ++ ((wK0 g a0 ak ((nI od), (nI sz))) ++ (wHs g ak hs 6))))) := hD
  refine k_ifeqB (tgt := 29) hx hb dX3_unseatIfWanted_4 (by decide) (fun c1 => ?_) (fun c1 => ?_)
  ·
    exact absurd (ckR_in hr9) c1
  ·
    refine lv_iload_n hx hb dX3_unseatIfWanted_7 rfl (lv_at hl 2 rfl) ?_
    refine k_Si (w0 := []) (w1 := []) (As := [.int (nI c9)]) (r := (bI (ckC (nI c9) = 0))) hF (c_X3_isConcert l g (nI c9)) (va_cwS 1 hts gX3_unseatIfWanted_X3_isConcert rfl rfl rfl (by decide +kernel) ⟨Nat.le_of_ble_eq_true rfl, Nat.le_of_ble_eq_true rfl⟩) hE hP hD hS hA (List.Perm.refl _) (List.Perm.refl _) rfl hl.1 rfl (Nat.le_of_ble_eq_true rfl) dX3_unseatIfWanted_8 ⟨Nat.le_of_ble_eq_true rfl, Nat.le_of_ble_eq_true rfl⟩ (fun H locs hP hD hS => ?_)
    have hP : va_P g.1 vwCl ((wU u (ah 0) (a0 0) (at9 0)) ++ ((wH g ah h) ++ ((wT g at9 (sg, (nI n))) ++ ((wK0 g a0 ak ((nI od), (nI sz))) ++ (wHs g ak hs 6))))) _ := hP
    have hD : va_D A ((wU u (ah 0) (a0 0) (at9 0)) ++ ((wH g ah h) ++ ((wT g at9 (sg, (nI n))) ++ ((wK0 g a0 ak ((nI od), (nI sz))) ++ (wHs g ak hs 6))))) := hD
    refine k_ifeqB (tgt := 29) hx hb dX3_unseatIfWanted_11 (by decide) (fun c2 => ?_) (fun c2 => ?_)
    ·
      exact absurd (ckC_in hc9) c2
    ·
      refine lv_aload_n hx hb dX3_unseatIfWanted_14 rfl (lv_at hl 0 rfl) ?_
      refine va_get (D := g.1) (ci := 3) (v := .ref (ah 0)) (C := RX3) (T := TX3) (N := 3) hx hb hts hiX3 hown hE.1 hP 0 rfl rfl 0 (by decide) f12 (fun _ h9 => h9) rfl dX3_unseatIfWanted_15 ?_
      refine lv_iload_n hx hb dX3_unseatIfWanted_18 rfl (lv_at hl 1 rfl) ?_
      refine lv_iload_n hx hb dX3_unseatIfWanted_19 rfl (lv_at hl 2 rfl) ?_
      refine k_Si (w0 := []) (w1 := []) (As := [.int (nI r9), .int (nI c9)]) (r := (nI (r9 * 6 + c9))) hF (c_X3_placeOf l g r9 c9) (va_cwS 2 hts gX3_unseatIfWanted_X3_placeOf rfl rfl rfl (by decide +kernel) ⟨Nat.le_of_ble_eq_true rfl, Nat.le_of_ble_eq_true rfl⟩) hE hP hD hS hA (List.Perm.refl _) (List.Perm.refl _) rfl hl.1 rfl (Nat.le_of_ble_eq_true rfl) dX3_unseatIfWanted_20 ⟨Nat.le_of_ble_eq_true rfl, Nat.le_of_ble_eq_true rfl⟩ (fun H locs hP hD hS => ?_)
      have hP : va_P g.1 vwCl ((wU u (ah 0) (a0 0) (at9 0)) ++ ((wH g ah h) ++ ((wT g at9 (sg, (nI n))) ++ ((wK0 g a0 ak ((nI od), (nI sz))) ++ (wHs g ak hs 6))))) _ := hP
      have hD : va_D A ((wU u (ah 0) (a0 0) (at9 0)) ++ ((wH g ah h) ++ ((wT g at9 (sg, (nI n))) ++ ((wK0 g a0 ak ((nI od), (nI sz))) ++ (wHs g ak hs 6))))) := hD
      refine k_Vi (As := [.int (nI (r9 * 6 + c9))]) (r := (bI (¬ ((hL h) (r9 * 6 + c9)) ≤ 0))) hF (c_X1_isWantedAt l g ah h (r9 * 6 + c9) (by omega)) (cwV 1 hts gX3_unseatIfWanted_X1_isWantedAt rfl rfl rfl (by decide +kernel) ⟨Nat.le_of_ble_eq_true rfl, Nat.le_of_ble_eq_true rfl⟩) hE hP hD hS hA (pm_5_1 _ _ _ _ _) ((pm_5_1 _ _ _ _ _).symm) 1 rfl rfl rfl rfl hl.1 rfl (Nat.le_of_ble_eq_true rfl) dX3_unseatIfWanted_23 ⟨Nat.le_of_ble_eq_true rfl, Nat.le_of_ble_eq_true rfl⟩ (fun H locs hP hD hS => ?_)
      have hP : va_P g.1 vwCl ((wU u (ah 0) (a0 0) (at9 0)) ++ ((wH g ah h) ++ ((wT g at9 (sg, (nI n))) ++ ((wK0 g a0 ak ((nI od), (nI sz))) ++ (wHs g ak hs 6))))) _ := hP
      have hD : va_D A ((wU u (ah 0) (a0 0) (at9 0)) ++ ((wH g ah h) ++ ((wT g at9 (sg, (nI n))) ++ ((wK0 g a0 ak ((nI od), (nI sz))) ++ (wHs g ak hs 6))))) := hD
      refine k_ifneB (tgt := 31) hx hb dX3_unseatIfWanted_26 (by decide) (fun c3 => ?_) (fun c3 => ?_)
      ·
        refine lv_aload_n hx hb dX3_unseatIfWanted_31 rfl (lv_at hl 0 rfl) ?_
        refine va_get (D := g.1) (ci := 3) (v := .ref (ah 0)) (C := RX3) (T := TX3) (N := 3) hx hb hts hiX3 hown hE.1 hP 0 rfl rfl 0 (by decide) f12 (fun _ h9 => h9) rfl dX3_unseatIfWanted_32 ?_
        refine lv_iload_n hx hb dX3_unseatIfWanted_35 rfl (lv_at hl 1 rfl) ?_
        refine lv_iload_n hx hb dX3_unseatIfWanted_36 rfl (lv_at hl 2 rfl) ?_
        refine k_Si (w0 := []) (w1 := []) (As := [.int (nI r9), .int (nI c9)]) (r := (nI (r9 * 6 + c9))) hF (c_X3_placeOf l g r9 c9) (va_cwS 2 hts gX3_unseatIfWanted_X3_placeOf rfl rfl rfl (by decide +kernel) ⟨Nat.le_of_ble_eq_true rfl, Nat.le_of_ble_eq_true rfl⟩) hE hP hD hS hA (List.Perm.refl _) (List.Perm.refl _) rfl hl.1 rfl (Nat.le_of_ble_eq_true rfl) dX3_unseatIfWanted_37 ⟨Nat.le_of_ble_eq_true rfl, Nat.le_of_ble_eq_true rfl⟩ (fun H locs hP hD hS => ?_)
        have hP : va_P g.1 vwCl ((wU u (ah 0) (a0 0) (at9 0)) ++ ((wH g ah h) ++ ((wT g at9 (sg, (nI n))) ++ ((wK0 g a0 ak ((nI od), (nI sz))) ++ (wHs g ak hs 6))))) _ := hP
        have hD : va_D A ((wU u (ah 0) (a0 0) (at9 0)) ++ ((wH g ah h) ++ ((wT g at9 (sg, (nI n))) ++ ((wK0 g a0 ak ((nI od), (nI sz))) ++ (wHs g ak hs 6))))) := hD
        refine lv_iload_n hx hb dX3_unseatIfWanted_40 rfl (lv_at hl 3 rfl) ?_
        refine k_Vv (As := [.int (nI (r9 * 6 + c9)), .int (nI b)]) hF (c_X1_unseat l g ah h (r9 * 6 + c9) (by omega) b (by omega)) (cwV 2 hts gX3_unseatIfWanted_X1_unseat rfl rfl rfl (by decide +kernel) ⟨Nat.le_of_ble_eq_true rfl, Nat.le_of_ble_eq_true rfl⟩) hE hP hD hS hA (pm_5_1 _ _ _ _ _) ((pm_5_1 _ _ _ _ _).symm) 1 rfl rfl rfl rfl hl.1 rfl (Nat.le_of_ble_eq_true rfl) dX3_unseatIfWanted_41 ⟨Nat.le_of_ble_eq_true rfl, Nat.le_of_ble_eq_true rfl⟩ (fun H locs hP hD hS => ?_)
        have hP : va_P g.1 vwCl ((wU u (ah 0) (a0 0) (at9 0)) ++ ((wH g ah (Hunseat (r9 * 6 + c9) b h)) ++ ((wT g at9 (sg, (nI n))) ++ ((wK0 g a0 ak ((nI od), (nI sz))) ++ (wHs g ak hs 6))))) _ := hP
        have hD : va_D A ((wU u (ah 0) (a0 0) (at9 0)) ++ ((wH g ah (Hunseat (r9 * 6 + c9) b h)) ++ ((wT g at9 (sg, (nI n))) ++ ((wK0 g a0 ak ((nI od), (nI sz))) ++ (wHs g ak hs 6))))) := hD
        obtain ⟨z4, ez4⟩ : ∃ x : HSt, (Hunseat (r9 * 6 + c9) b h) = x := ⟨_, rfl⟩
        rw [ez4] at hP hD
        refine lv_iconst (v := (nI 1)) hx hb dX3_unseatIfWanted_44 (by decide) ?_
        have e5 : (if ¬ hL h (r9 * 6 + c9) ≤ 0 then Hunseat (r9 * 6 + c9) b h else h) = z4 := (by subst ez4; first | (simp only [if_pos c1, if_neg (not_not_intro c1), if_pos c2, if_neg (not_not_intro c2), if_pos c3, if_neg (not_not_intro c3)]; done) | (simp only [if_pos c1, if_neg (not_not_intro c1), if_pos c2, if_neg (not_not_intro c2), if_pos c3, if_neg (not_not_intro c3)]; rfl) | rfl | (simp [if_pos c1, if_neg (not_not_intro c1), if_pos c2, if_neg (not_not_intro c2), if_pos c3, if_neg (not_not_intro c3)]; done))
        have hP : va_P g.1 vwCl ((wU u (ah 0) (a0 0) (at9 0)) ++ ((wH g ah (if ¬ hL h (r9 * 6 + c9) ≤ 0 then Hunseat (r9 * 6 + c9) b h else h)) ++ ((wT g at9 (sg, (nI n))) ++ ((wK0 g a0 ak ((nI od), (nI sz))) ++ (wHs g ak hs 6))))) H := by rw [e5]; exact hP
        have hD : va_D A ((wU u (ah 0) (a0 0) (at9 0)) ++ ((wH g ah (if ¬ hL h (r9 * 6 + c9) ≤ 0 then Hunseat (r9 * 6 + c9) b h else h)) ++ ((wT g at9 (sg, (nI n))) ++ ((wK0 g a0 ak ((nI od), (nI sz))) ++ (wHs g ak hs 6))))) := by rw [e5]; exact hD
        exact k_iret hx hb hr hlocks rfl (by subst ez4; first | (simp only [bI, if_pos c1, if_neg (not_not_intro c1), if_pos c2, if_neg (not_not_intro c2), if_pos c3, if_neg (not_not_intro c3)]; done) | (simp only [bI, if_pos c1, if_neg (not_not_intro c1), if_pos c2, if_neg (not_not_intro c2), if_pos c3, if_neg (not_not_intro c3)]; rfl) | rfl | (simp [bI, if_pos c1, if_neg (not_not_intro c1), if_pos c2, if_neg (not_not_intro c2), if_pos c3, if_neg (not_not_intro c3)]; done)) hP hD hS (Nat.le_of_ble_eq_true rfl) (Nat.le_of_ble_eq_true rfl) dX3_unseatIfWanted_45
      ·
        refine lv_iconst (v := (nI 0)) hx hb dX3_unseatIfWanted_29 (by decide) ?_
        have e6 : (if ¬ hL h (r9 * 6 + c9) ≤ 0 then Hunseat (r9 * 6 + c9) b h else h) = h := (by first | (simp only [if_pos c1, if_neg (not_not_intro c1), if_pos c2, if_neg (not_not_intro c2), if_neg c3, if_pos c3]; done) | (simp only [if_pos c1, if_neg (not_not_intro c1), if_pos c2, if_neg (not_not_intro c2), if_neg c3, if_pos c3]; rfl) | rfl | (simp [if_pos c1, if_neg (not_not_intro c1), if_pos c2, if_neg (not_not_intro c2), if_neg c3, if_pos c3]; done))
        have hP : va_P g.1 vwCl ((wU u (ah 0) (a0 0) (at9 0)) ++ ((wH g ah (if ¬ hL h (r9 * 6 + c9) ≤ 0 then Hunseat (r9 * 6 + c9) b h else h)) ++ ((wT g at9 (sg, (nI n))) ++ ((wK0 g a0 ak ((nI od), (nI sz))) ++ (wHs g ak hs 6))))) H := by rw [e6]; exact hP
        have hD : va_D A ((wU u (ah 0) (a0 0) (at9 0)) ++ ((wH g ah (if ¬ hL h (r9 * 6 + c9) ≤ 0 then Hunseat (r9 * 6 + c9) b h else h)) ++ ((wT g at9 (sg, (nI n))) ++ ((wK0 g a0 ak ((nI od), (nI sz))) ++ (wHs g ak hs 6))))) := by rw [e6]; exact hD
        exact k_iret hx hb hr hlocks rfl (by first | (simp only [bI, if_pos c1, if_neg (not_not_intro c1), if_pos c2, if_neg (not_not_intro c2), if_neg c3, if_pos c3]; done) | (simp only [bI, if_pos c1, if_neg (not_not_intro c1), if_pos c2, if_neg (not_not_intro c2), if_neg c3, if_pos c3]; rfl) | rfl | (simp [bI, if_pos c1, if_neg (not_not_intro c1), if_pos c2, if_neg (not_not_intro c2), if_neg c3, if_pos c3]; done)) hP hD hS (Nat.le_of_ble_eq_true rfl) (Nat.le_of_ble_eq_true rfl) dX3_unseatIfWanted_30
set_option maxHeartbeats 4000000 in
set_option maxRecDepth 100000 in
theorem c_X3_performIfThere (l : Launch) (g : kG) (u : Nat) (ah at9 a0 : Nat → Nat) (ak : Nat → Nat → Nat) (h : HSt) (sg : Nat → Int32) (n : Nat) (hn : n ≤ 60) (hch : Tok sg n) (od sz : Nat) (hod : od < 6) (hsz : sz ≤ 6) (hs : Nat → HSt) (hbo : Hbo h) (hbs : ∀ j, Hbo (hs j)) (c9 : Nat) (hc9 : c9 < 6) : KI l yX3_performIfThere wsX3_performIfThere ({ frames := 3, cells := 0, slots := 0, locals := 67 }) g [.ref u, .int (nI c9)] ((wU u (ah 0) (a0 0) (at9 0)) ++ ((wH g ah h) ++ ((wT g at9 (sg, (nI n))) ++ ((wK0 g a0 ak ((nI od), (nI sz))) ++ (wHs g ak hs 6))))) (nI 1) ((wU u (ah 0) (a0 0) (at9 0)) ++ ((wH g ah (Hperf c9 h)) ++ ((wT g at9 (sg, (nI n))) ++ ((wK0 g a0 ak ((nI od), (nI sz))) ++ (wHs g ak hs 6))))) 0 0 := by
  refine k_begin (cc := cX3_performIfThere) (maxL := 2) (ret := (some .boolean)) (Qc := fun A => kQi g (nI 1) ((wU u (ah 0) (a0 0) (at9 0)) ++ ((wH g ah (Hperf c9 h)) ++ ((wT g at9 (sg, (nI n))) ++ ((wK0 g a0 ak ((nI od), (nI sz))) ++ (wHs g ak hs 6))))) A) (by decide) rfl (Nat.le_of_ble_eq_true rfl) ?_
  intro p e s m below meth c A ls hF hr hlocks hin hE hP hD hS hA hl
  obtain ⟨hx, hb, hml, hown, hts⟩ := id hF
  have hown : s.vm.findClass RX3 = some m.cls := hown
  have hl : lv_has ls 2 [(0, .ref u), (1, .int (nI c9))] := hl
  have hiX3 : ∀ w ∈ wsX30, w ∈ wsX3_performIfThere := fun _ h => List.mem_cons_of_mem _ (List.mem_append_left _ (List.mem_append_right _ (h)))
  have f12 : (Cond.fieldLink RX3 12 "ConcertUsher" "hall" "LConcertUsher$Hall;").before _ s = true := hts _ (List.mem_of_getElem? (i := 1) rfl)
  refine lv_iload_n hx hb dX3_performIfThere_0 rfl (lv_at hl 1 rfl) ?_
  refine k_Si (w0 := []) (w1 := []) (As := [.int (nI c9)]) (r := (bI (ckC (nI c9) = 0))) hF (c_X3_isConcert l g (nI c9)) (va_cwS 1 hts gX3_performIfThere_X3_isConcert rfl rfl rfl (by decide +kernel) ⟨Nat.le_of_ble_eq_true rfl, Nat.le_of_ble_eq_true rfl⟩) hE hP hD hS hA (List.Perm.refl _) (List.Perm.refl _) rfl hl.1 rfl (Nat.le_of_ble_eq_true rfl) dX3_performIfThere_1 ⟨Nat.le_of_ble_eq_true rfl, Nat.le_of_ble_eq_true rfl⟩ (fun H locs hP hD hS => ?_)
  have hP : va_P g.1 vwCl ((wU u (ah 0) (a0 0) (at9 0)) ++ ((wH g ah h) ++ ((wT g at9 (sg, (nI n))) ++ ((wK0 g a0 ak ((nI od), (nI sz))) ++ (wHs g ak hs 6))))) _ := hP
  have hD : va_D A ((wU u (ah 0) (a0 0) (at9 0)) ++ ((wH g ah h) ++ ((wT g at9 (sg, (nI n))) ++ ((wK0 g a0 ak ((nI od), (nI sz))) ++ (wHs g ak hs 6))))) := hD
  refine k_ifneB (tgt := 9) hx hb dX3_performIfThere_4 (by decide) (fun c1 => ?_) (fun c1 => ?_)
  ·
    refine lv_aload_n hx hb dX3_performIfThere_9 rfl (lv_at hl 0 rfl) ?_
    refine va_get (D := g.1) (ci := 3) (v := .ref (ah 0)) (C := RX3) (T := TX3) (N := 3) hx hb hts hiX3 hown hE.1 hP 0 rfl rfl 0 (by decide) f12 (fun _ h9 => h9) rfl dX3_performIfThere_10 ?_
    refine lv_iload_n hx hb dX3_performIfThere_13 rfl (lv_at hl 1 rfl) ?_
    refine k_Vi (As := [.int (nI c9)]) (r := (bc (Hget h c9 8))) hF (c_X1_perform l g ah h c9 (by omega)) (cwV 1 hts gX3_performIfThere_X1_perform rfl rfl rfl (by decide +kernel) ⟨Nat.le_of_ble_eq_true rfl, Nat.le_of_ble_eq_true rfl⟩) hE hP hD hS hA (pm_5_1 _ _ _ _ _) ((pm_5_1 _ _ _ _ _).symm) 1 rfl rfl rfl rfl hl.1 rfl (Nat.le_of_ble_eq_true rfl) dX3_performIfThere_14 ⟨Nat.le_of_ble_eq_true rfl, Nat.le_of_ble_eq_true rfl⟩ (fun H locs hP hD hS => ?_)
    have hP : va_P g.1 vwCl ((wU u (ah 0) (a0 0) (at9 0)) ++ ((wH g ah (Hperf c9 h)) ++ ((wT g at9 (sg, (nI n))) ++ ((wK0 g a0 ak ((nI od), (nI sz))) ++ (wHs g ak hs 6))))) _ := hP
    have hD : va_D A ((wU u (ah 0) (a0 0) (at9 0)) ++ ((wH g ah (Hperf c9 h)) ++ ((wT g at9 (sg, (nI n))) ++ ((wK0 g a0 ak ((nI od), (nI sz))) ++ (wHs g ak hs 6))))) := hD
    obtain ⟨z2, ez2⟩ : ∃ x : HSt, (Hperf c9 h) = x := ⟨_, rfl⟩
    rw [ez2] at hP hD
    refine lv_pop hx hb dX3_performIfThere_17 rfl ?_
    refine lv_iconst (v := (nI 1)) hx hb dX3_performIfThere_18 (by decide) ?_
    have e3 : (Hperf c9 h) = z2 := (by subst ez2; first | (simp only [if_pos c1, if_neg (not_not_intro c1)]; done) | (simp only [if_pos c1, if_neg (not_not_intro c1)]; rfl) | rfl | (simp [if_pos c1, if_neg (not_not_intro c1)]; done))
    have hP : va_P g.1 vwCl ((wU u (ah 0) (a0 0) (at9 0)) ++ ((wH g ah (Hperf c9 h)) ++ ((wT g at9 (sg, (nI n))) ++ ((wK0 g a0 ak ((nI od), (nI sz))) ++ (wHs g ak hs 6))))) H := by rw [e3]; exact hP
    have hD : va_D A ((wU u (ah 0) (a0 0) (at9 0)) ++ ((wH g ah (Hperf c9 h)) ++ ((wT g at9 (sg, (nI n))) ++ ((wK0 g a0 ak ((nI od), (nI sz))) ++ (wHs g ak hs 6))))) := by rw [e3]; exact hD
    exact k_iret hx hb hr hlocks rfl (by subst ez2; first | (simp only [bI, if_pos c1, if_neg (not_not_intro c1)]; done) | (simp only [bI, if_pos c1, if_neg (not_not_intro c1)]; rfl) | rfl | (simp [bI, if_pos c1, if_neg (not_not_intro c1)]; done)) hP hD hS (Nat.le_of_ble_eq_true rfl) (Nat.le_of_ble_eq_true rfl) dX3_performIfThere_19
  ·
    exact absurd (ckC_in hc9) c1
set_option maxHeartbeats 4000000 in
set_option maxRecDepth 100000 in
theorem c_X3_doEvent (l : Launch) (g : kG) (u : Nat) (ah at9 a0 : Nat → Nat) (ak : Nat → Nat → Nat) (h : HSt) (sg : Nat → Int32) (n : Nat) (hn : n ≤ 60) (hch : Tok sg n) (od sz : Nat) (hod : od < 6) (hsz : sz ≤ 6) (hs : Nat → HSt) (hbo : Hbo h) (hbs : ∀ j, Hbo (hs j)) (k : Nat) (hk : k < 100) (hev : evOK sg n k) : KI l yX3_doEvent wsX3_doEvent ({ frames := 4, cells := 0, slots := 0, locals := 88 }) g [.ref u, .int (nI k)] ((wU u (ah 0) (a0 0) (at9 0)) ++ ((wH g ah h) ++ ((wT g at9 (sg, (nI n))) ++ ((wK0 g a0 ak ((nI od), (nI sz))) ++ (wHs g ak hs 6))))) (bI (UdoB sg n k h)) ((wU u (ah 0) (a0 0) (at9 0)) ++ ((wH g ah (Udo sg n k h)) ++ ((wT g at9 (sg, (nI n))) ++ ((wK0 g a0 ak ((nI od), (nI sz))) ++ (wHs g ak hs 6))))) 0 0 := by
  refine k_begin (cc := cX3_doEvent) (maxL := 4) (ret := (some .boolean)) (Qc := fun A => kQi g (bI (UdoB sg n k h)) ((wU u (ah 0) (a0 0) (at9 0)) ++ ((wH g ah (Udo sg n k h)) ++ ((wT g at9 (sg, (nI n))) ++ ((wK0 g a0 ak ((nI od), (nI sz))) ++ (wHs g ak hs 6))))) A) (by decide) rfl (Nat.le_of_ble_eq_true rfl) ?_
  intro p e s m below meth c A ls hF hr hlocks hin hE hP hD hS hA hl
  obtain ⟨hx, hb, hml, hown, hts⟩ := id hF
  have hown : s.vm.findClass RX3 = some m.cls := hown
  have hl : lv_has ls 4 [(0, .ref u), (1, .int (nI k))] := hl
  have hiX3 : ∀ w ∈ wsX30, w ∈ wsX3_doEvent := fun _ h => List.mem_cons_of_mem _ (List.mem_append_left _ (List.mem_append_left _ (List.mem_append_right _ (h))))
  have f26 : (Cond.fieldLink RX3 26 "ConcertUsher" "text" "LConcertUsher$EventText;").before _ s = true := hts _ (List.mem_of_getElem? (i := 1) rfl)
  have f12 : (Cond.fieldLink RX3 12 "ConcertUsher" "hall" "LConcertUsher$Hall;").before _ s = true := hts _ (List.mem_of_getElem? (i := 2) rfl)
  rcases hev with ⟨hq0, ⟨hd1, hd2⟩, hd3, hd4⟩ | ⟨hq0, ⟨hd1, hd2⟩, hd3, hd4⟩ | ⟨hq0, ⟨hd1, hd2⟩, hd3, hd4⟩ | ⟨hq0, hd1, hd2⟩ | ⟨hq0, N9, hN9, hN9e⟩ | ⟨hq0, hd1, hd2⟩
  ·
    refine lv_aload_n hx hb dX3_doEvent_0 rfl (lv_at hl 0 rfl) ?_
    refine va_get (D := g.1) (ci := 3) (v := .ref (at9 0)) (C := RX3) (T := TX3) (N := 3) hx hb hts hiX3 hown hE.1 hP 0 rfl rfl 2 (by decide) f26 (fun _ h9 => h9) rfl dX3_doEvent_1 ?_
    refine lv_iload_n hx hb dX3_doEvent_4 rfl (lv_at hl 1 rfl) ?_
    refine lv_iconst (v := (nI 1)) hx hb dX3_doEvent_5 (by decide) ?_
    refine lv_iadd hx hb dX3_doEvent_6 ?_
    refine k_top (nI_add _ _) ?_
    refine k_Vi (As := [.int (nI (k + 1))]) (r := ((nI (Tq sg n (k + 1))) - (nI 48))) hF (c_X0_digitAt l g at9 sg n (by omega) hch (k + 1) (by omega)) (cwV 1 hts gX3_doEvent_X0_digitAt rfl rfl rfl (by decide +kernel) ⟨Nat.le_of_ble_eq_true rfl, Nat.le_of_ble_eq_true rfl⟩) hE hP hD hS hA (pm_5_2 _ _ _ _ _) ((pm_5_2 _ _ _ _ _).symm) 5 rfl rfl rfl rfl hl.1 rfl (Nat.le_of_ble_eq_true rfl) dX3_doEvent_7 ⟨Nat.le_of_ble_eq_true rfl, Nat.le_of_ble_eq_true rfl⟩ (fun H locs hP hD hS => ?_)
    have hP : va_P g.1 vwCl ((wU u (ah 0) (a0 0) (at9 0)) ++ ((wH g ah h) ++ ((wT g at9 (sg, (nI n))) ++ ((wK0 g a0 ak ((nI od), (nI sz))) ++ (wHs g ak hs 6))))) _ := hP
    have hD : va_D A ((wU u (ah 0) (a0 0) (at9 0)) ++ ((wH g ah h) ++ ((wT g at9 (sg, (nI n))) ++ ((wK0 g a0 ak ((nI od), (nI sz))) ++ (wHs g ak hs 6))))) := hD
    refine k_top (show nI (Tq sg n (k + 1)) - nI 48 = nI (Tq sg n (k + 1) - 48) from pk_sub (by omega)) ?_
    refine lv_istore_n (lv' := [(2, .int (nI (Tq sg n (k + 1) - 48))), (0, .ref u), (1, .int (nI k))]) hx hb dX3_doEvent_10 rfl hl (by decide) rfl (fun ls hl => ?_)
    refine lv_aload_n hx hb dX3_doEvent_11 rfl (lv_at hl 1 rfl) ?_
    refine va_get (D := g.1) (ci := 3) (v := .ref (at9 0)) (C := RX3) (T := TX3) (N := 3) hx hb hts hiX3 hown hE.1 hP 0 rfl rfl 2 (by decide) f26 (fun _ h9 => h9) rfl dX3_doEvent_12 ?_
    refine lv_iload_n hx hb dX3_doEvent_15 rfl (lv_at hl 2 rfl) ?_
    refine lv_iconst (v := (nI 2)) hx hb dX3_doEvent_16 (by decide) ?_
    refine lv_iadd hx hb dX3_doEvent_17 ?_
    refine k_top (nI_add _ _) ?_
    refine k_Vi (As := [.int (nI (k + 2))]) (r := ((nI (Tq sg n (k + 2))) - (nI 48))) hF (c_X0_digitAt l g at9 sg n (by omega) hch (k + 2) (by omega)) (cwV 1 hts gX3_doEvent_X0_digitAt rfl rfl rfl (by decide +kernel) ⟨Nat.le_of_ble_eq_true rfl, Nat.le_of_ble_eq_true rfl⟩) hE hP hD hS hA (pm_5_2 _ _ _ _ _) ((pm_5_2 _ _ _ _ _).symm) 5 rfl rfl rfl rfl hl.1 rfl (Nat.le_of_ble_eq_true rfl) dX3_doEvent_18 ⟨Nat.le_of_ble_eq_true rfl, Nat.le_of_ble_eq_true rfl⟩ (fun H locs hP hD hS => ?_)
    have hP : va_P g.1 vwCl ((wU u (ah 0) (a0 0) (at9 0)) ++ ((wH g ah h) ++ ((wT g at9 (sg, (nI n))) ++ ((wK0 g a0 ak ((nI od), (nI sz))) ++ (wHs g ak hs 6))))) _ := hP
    have hD : va_D A ((wU u (ah 0) (a0 0) (at9 0)) ++ ((wH g ah h) ++ ((wT g at9 (sg, (nI n))) ++ ((wK0 g a0 ak ((nI od), (nI sz))) ++ (wHs g ak hs 6))))) := hD
    refine k_top (show nI (Tq sg n (k + 2)) - nI 48 = nI (Tq sg n (k + 2) - 48) from pk_sub (by omega)) ?_
    refine lv_istore_n (lv' := [(3, .int (nI (Tq sg n (k + 2) - 48))), (2, .int (nI (Tq sg n (k + 1) - 48))), (0, .ref u), (1, .int (nI k))]) hx hb dX3_doEvent_21 rfl hl (by decide) rfl (fun ls hl => ?_)
    refine lv_aload_n hx hb dX3_doEvent_22 rfl (lv_at hl 2 rfl) ?_
    refine va_get (D := g.1) (ci := 3) (v := .ref (at9 0)) (C := RX3) (T := TX3) (N := 3) hx hb hts hiX3 hown hE.1 hP 0 rfl rfl 2 (by decide) f26 (fun _ h9 => h9) rfl dX3_doEvent_23 ?_
    refine lv_iload_n hx hb dX3_doEvent_26 rfl (lv_at hl 3 rfl) ?_
    refine k_Vi (As := [.int (nI k)]) (r := (nI (Tq sg n k))) hF (c_X0_signAt l g at9 sg n (by omega) hch k (by omega)) (cwV 1 hts gX3_doEvent_X0_signAt rfl rfl rfl (by decide +kernel) ⟨Nat.le_of_ble_eq_true rfl, Nat.le_of_ble_eq_true rfl⟩) hE hP hD hS hA (pm_5_2 _ _ _ _ _) ((pm_5_2 _ _ _ _ _).symm) 5 rfl rfl rfl rfl hl.1 rfl (Nat.le_of_ble_eq_true rfl) dX3_doEvent_27 ⟨Nat.le_of_ble_eq_true rfl, Nat.le_of_ble_eq_true rfl⟩ (fun H locs hP hD hS => ?_)
    have hP : va_P g.1 vwCl ((wU u (ah 0) (a0 0) (at9 0)) ++ ((wH g ah h) ++ ((wT g at9 (sg, (nI n))) ++ ((wK0 g a0 ak ((nI od), (nI sz))) ++ (wHs g ak hs 6))))) _ := hP
    have hD : va_D A ((wU u (ah 0) (a0 0) (at9 0)) ++ ((wH g ah h) ++ ((wT g at9 (sg, (nI n))) ++ ((wK0 g a0 ak ((nI od), (nI sz))) ++ (wHs g ak hs 6))))) := hD
    refine k_top (show nI (Tq sg n k) = nI 99 by rw [hq0]) ?_
    refine lv_lookup (off := 50) (tgt := 80) hx hb dX3_doEvent_30 (by decide) (by decide) (by decide) ?_
    refine lv_aload_n hx hb dX3_doEvent_80 rfl (lv_at hl 2 rfl) ?_
    refine lv_iload_n hx hb dX3_doEvent_81 rfl (lv_at hl 1 rfl) ?_
    refine lv_iload_n hx hb dX3_doEvent_82 rfl (lv_at hl 0 rfl) ?_
    refine k_Vi (As := [.int (nI (Tq sg n (k + 1) - 48)), .int (nI (Tq sg n (k + 2) - 48))]) (r := (bI (¬ nI 9 ≤ ((hL h) ((Tq sg n (k + 1) - 48) * 6 + (Tq sg n (k + 2) - 48)))))) hF (c_X3_seatIfRoom l g u ah at9 a0 ak h sg n (by omega) hch od sz (by omega) (by omega) hs hbo hbs (Tq sg n (k + 1) - 48) (Tq sg n (k + 2) - 48) (by omega) (by omega)) (cwV 2 hts gX3_doEvent_X3_seatIfRoom rfl rfl rfl (by decide +kernel) ⟨Nat.le_of_ble_eq_true rfl, Nat.le_of_ble_eq_true rfl⟩) hE hP hD hS hA (k_pall _) ((k_pall _).symm) 0 rfl rfl rfl rfl hl.1 rfl (Nat.le_of_ble_eq_true rfl) dX3_doEvent_83 ⟨Nat.le_of_ble_eq_true rfl, Nat.le_of_ble_eq_true rfl⟩ (fun H locs hP hD hS => ?_)
    have hP : va_P g.1 vwCl ((wU u (ah 0) (a0 0) (at9 0)) ++ ((wH g ah (if ¬ nI 9 ≤ ((hL h) ((Tq sg n (k + 1) - 48) * 6 + (Tq sg n (k + 2) - 48))) then Hseat ((Tq sg n (k + 1) - 48) * 6 + (Tq sg n (k + 2) - 48)) h else h)) ++ ((wT g at9 (sg, (nI n))) ++ ((wK0 g a0 ak ((nI od), (nI sz))) ++ (wHs g ak hs 6))))) _ := hP
    have hD : va_D A ((wU u (ah 0) (a0 0) (at9 0)) ++ ((wH g ah (if ¬ nI 9 ≤ ((hL h) ((Tq sg n (k + 1) - 48) * 6 + (Tq sg n (k + 2) - 48))) then Hseat ((Tq sg n (k + 1) - 48) * 6 + (Tq sg n (k + 2) - 48)) h else h)) ++ ((wT g at9 (sg, (nI n))) ++ ((wK0 g a0 ak ((nI od), (nI sz))) ++ (wHs g ak hs 6))))) := hD
    obtain ⟨z1, ez1⟩ : ∃ x : HSt, (if ¬ nI 9 ≤ ((hL h) ((Tq sg n (k + 1) - 48) * 6 + (Tq sg n (k + 2) - 48))) then Hseat ((Tq sg n (k + 1) - 48) * 6 + (Tq sg n (k + 2) - 48)) h else h) = x := ⟨_, rfl⟩
    rw [ez1] at hP hD
    have e9 : Udo sg n k h = z1 := (by subst ez1; unfold Udo; rw [if_pos hq0]; try rfl)
    have hP : va_P g.1 vwCl ((wU u (ah 0) (a0 0) (at9 0)) ++ ((wH g ah (Udo sg n k h)) ++ ((wT g at9 (sg, (nI n))) ++ ((wK0 g a0 ak ((nI od), (nI sz))) ++ (wHs g ak hs 6))))) H := by rw [e9]; exact hP
    have hD : va_D A ((wU u (ah 0) (a0 0) (at9 0)) ++ ((wH g ah (Udo sg n k h)) ++ ((wT g at9 (sg, (nI n))) ++ ((wK0 g a0 ak ((nI od), (nI sz))) ++ (wHs g ak hs 6))))) := by rw [e9]; exact hD
    exact k_iret hx hb hr hlocks bI_nar (bI_iff (UdoB_c hq0)).symm hP hD hS (Nat.le_of_ble_eq_true rfl) (Nat.le_of_ble_eq_true rfl) dX3_doEvent_86
  ·
    refine lv_aload_n hx hb dX3_doEvent_0 rfl (lv_at hl 0 rfl) ?_
    refine va_get (D := g.1) (ci := 3) (v := .ref (at9 0)) (C := RX3) (T := TX3) (N := 3) hx hb hts hiX3 hown hE.1 hP 0 rfl rfl 2 (by decide) f26 (fun _ h9 => h9) rfl dX3_doEvent_1 ?_
    refine lv_iload_n hx hb dX3_doEvent_4 rfl (lv_at hl 1 rfl) ?_
    refine lv_iconst (v := (nI 1)) hx hb dX3_doEvent_5 (by decide) ?_
    refine lv_iadd hx hb dX3_doEvent_6 ?_
    refine k_top (nI_add _ _) ?_
    refine k_Vi (As := [.int (nI (k + 1))]) (r := ((nI (Tq sg n (k + 1))) - (nI 48))) hF (c_X0_digitAt l g at9 sg n (by omega) hch (k + 1) (by omega)) (cwV 1 hts gX3_doEvent_X0_digitAt rfl rfl rfl (by decide +kernel) ⟨Nat.le_of_ble_eq_true rfl, Nat.le_of_ble_eq_true rfl⟩) hE hP hD hS hA (pm_5_2 _ _ _ _ _) ((pm_5_2 _ _ _ _ _).symm) 5 rfl rfl rfl rfl hl.1 rfl (Nat.le_of_ble_eq_true rfl) dX3_doEvent_7 ⟨Nat.le_of_ble_eq_true rfl, Nat.le_of_ble_eq_true rfl⟩ (fun H locs hP hD hS => ?_)
    have hP : va_P g.1 vwCl ((wU u (ah 0) (a0 0) (at9 0)) ++ ((wH g ah h) ++ ((wT g at9 (sg, (nI n))) ++ ((wK0 g a0 ak ((nI od), (nI sz))) ++ (wHs g ak hs 6))))) _ := hP
    have hD : va_D A ((wU u (ah 0) (a0 0) (at9 0)) ++ ((wH g ah h) ++ ((wT g at9 (sg, (nI n))) ++ ((wK0 g a0 ak ((nI od), (nI sz))) ++ (wHs g ak hs 6))))) := hD
    refine k_top (show nI (Tq sg n (k + 1)) - nI 48 = nI (Tq sg n (k + 1) - 48) from pk_sub (by omega)) ?_
    refine lv_istore_n (lv' := [(2, .int (nI (Tq sg n (k + 1) - 48))), (0, .ref u), (1, .int (nI k))]) hx hb dX3_doEvent_10 rfl hl (by decide) rfl (fun ls hl => ?_)
    refine lv_aload_n hx hb dX3_doEvent_11 rfl (lv_at hl 1 rfl) ?_
    refine va_get (D := g.1) (ci := 3) (v := .ref (at9 0)) (C := RX3) (T := TX3) (N := 3) hx hb hts hiX3 hown hE.1 hP 0 rfl rfl 2 (by decide) f26 (fun _ h9 => h9) rfl dX3_doEvent_12 ?_
    refine lv_iload_n hx hb dX3_doEvent_15 rfl (lv_at hl 2 rfl) ?_
    refine lv_iconst (v := (nI 2)) hx hb dX3_doEvent_16 (by decide) ?_
    refine lv_iadd hx hb dX3_doEvent_17 ?_
    refine k_top (nI_add _ _) ?_
    refine k_Vi (As := [.int (nI (k + 2))]) (r := ((nI (Tq sg n (k + 2))) - (nI 48))) hF (c_X0_digitAt l g at9 sg n (by omega) hch (k + 2) (by omega)) (cwV 1 hts gX3_doEvent_X0_digitAt rfl rfl rfl (by decide +kernel) ⟨Nat.le_of_ble_eq_true rfl, Nat.le_of_ble_eq_true rfl⟩) hE hP hD hS hA (pm_5_2 _ _ _ _ _) ((pm_5_2 _ _ _ _ _).symm) 5 rfl rfl rfl rfl hl.1 rfl (Nat.le_of_ble_eq_true rfl) dX3_doEvent_18 ⟨Nat.le_of_ble_eq_true rfl, Nat.le_of_ble_eq_true rfl⟩ (fun H locs hP hD hS => ?_)
    have hP : va_P g.1 vwCl ((wU u (ah 0) (a0 0) (at9 0)) ++ ((wH g ah h) ++ ((wT g at9 (sg, (nI n))) ++ ((wK0 g a0 ak ((nI od), (nI sz))) ++ (wHs g ak hs 6))))) _ := hP
    have hD : va_D A ((wU u (ah 0) (a0 0) (at9 0)) ++ ((wH g ah h) ++ ((wT g at9 (sg, (nI n))) ++ ((wK0 g a0 ak ((nI od), (nI sz))) ++ (wHs g ak hs 6))))) := hD
    refine k_top (show nI (Tq sg n (k + 2)) - nI 48 = nI (Tq sg n (k + 2) - 48) from pk_sub (by omega)) ?_
    refine lv_istore_n (lv' := [(3, .int (nI (Tq sg n (k + 2) - 48))), (2, .int (nI (Tq sg n (k + 1) - 48))), (0, .ref u), (1, .int (nI k))]) hx hb dX3_doEvent_21 rfl hl (by decide) rfl (fun ls hl => ?_)
    refine lv_aload_n hx hb dX3_doEvent_22 rfl (lv_at hl 2 rfl) ?_
    refine va_get (D := g.1) (ci := 3) (v := .ref (at9 0)) (C := RX3) (T := TX3) (N := 3) hx hb hts hiX3 hown hE.1 hP 0 rfl rfl 2 (by decide) f26 (fun _ h9 => h9) rfl dX3_doEvent_23 ?_
    refine lv_iload_n hx hb dX3_doEvent_26 rfl (lv_at hl 3 rfl) ?_
    refine k_Vi (As := [.int (nI k)]) (r := (nI (Tq sg n k))) hF (c_X0_signAt l g at9 sg n (by omega) hch k (by omega)) (cwV 1 hts gX3_doEvent_X0_signAt rfl rfl rfl (by decide +kernel) ⟨Nat.le_of_ble_eq_true rfl, Nat.le_of_ble_eq_true rfl⟩) hE hP hD hS hA (pm_5_2 _ _ _ _ _) ((pm_5_2 _ _ _ _ _).symm) 5 rfl rfl rfl rfl hl.1 rfl (Nat.le_of_ble_eq_true rfl) dX3_doEvent_27 ⟨Nat.le_of_ble_eq_true rfl, Nat.le_of_ble_eq_true rfl⟩ (fun H locs hP hD hS => ?_)
    have hP : va_P g.1 vwCl ((wU u (ah 0) (a0 0) (at9 0)) ++ ((wH g ah h) ++ ((wT g at9 (sg, (nI n))) ++ ((wK0 g a0 ak ((nI od), (nI sz))) ++ (wHs g ak hs 6))))) _ := hP
    have hD : va_D A ((wU u (ah 0) (a0 0) (at9 0)) ++ ((wH g ah h) ++ ((wT g at9 (sg, (nI n))) ++ ((wK0 g a0 ak ((nI od), (nI sz))) ++ (wHs g ak hs 6))))) := hD
    refine k_top (show nI (Tq sg n k) = nI 108 by rw [hq0]) ?_
    refine lv_lookup (off := 57) (tgt := 87) hx hb dX3_doEvent_30 (by decide) (by decide) (by decide) ?_
    refine lv_aload_n hx hb dX3_doEvent_87 rfl (lv_at hl 2 rfl) ?_
    refine lv_iload_n hx hb dX3_doEvent_88 rfl (lv_at hl 1 rfl) ?_
    refine lv_iload_n hx hb dX3_doEvent_89 rfl (lv_at hl 0 rfl) ?_
    refine lv_iconst (v := (nI 1)) hx hb dX3_doEvent_90 (by decide) ?_
    refine k_Vi (As := [.int (nI (Tq sg n (k + 1) - 48)), .int (nI (Tq sg n (k + 2) - 48)), .int (nI 1)]) (r := (bI (¬ ((hL h) ((Tq sg n (k + 1) - 48) * 6 + (Tq sg n (k + 2) - 48))) ≤ 0))) hF (c_X3_unseatIfWanted l g u ah at9 a0 ak h sg n (by omega) hch od sz (by omega) (by omega) hs hbo hbs (Tq sg n (k + 1) - 48) (Tq sg n (k + 2) - 48) (by omega) (by omega) 1 (by decide)) (cwV 3 hts gX3_doEvent_X3_unseatIfWanted rfl rfl rfl (by decide +kernel) ⟨Nat.le_of_ble_eq_true rfl, Nat.le_of_ble_eq_true rfl⟩) hE hP hD hS hA (k_pall _) ((k_pall _).symm) 0 rfl rfl rfl rfl hl.1 rfl (Nat.le_of_ble_eq_true rfl) dX3_doEvent_91 ⟨Nat.le_of_ble_eq_true rfl, Nat.le_of_ble_eq_true rfl⟩ (fun H locs hP hD hS => ?_)
    have hP : va_P g.1 vwCl ((wU u (ah 0) (a0 0) (at9 0)) ++ ((wH g ah (if ¬ ((hL h) ((Tq sg n (k + 1) - 48) * 6 + (Tq sg n (k + 2) - 48))) ≤ 0 then Hunseat ((Tq sg n (k + 1) - 48) * 6 + (Tq sg n (k + 2) - 48)) 1 h else h)) ++ ((wT g at9 (sg, (nI n))) ++ ((wK0 g a0 ak ((nI od), (nI sz))) ++ (wHs g ak hs 6))))) _ := hP
    have hD : va_D A ((wU u (ah 0) (a0 0) (at9 0)) ++ ((wH g ah (if ¬ ((hL h) ((Tq sg n (k + 1) - 48) * 6 + (Tq sg n (k + 2) - 48))) ≤ 0 then Hunseat ((Tq sg n (k + 1) - 48) * 6 + (Tq sg n (k + 2) - 48)) 1 h else h)) ++ ((wT g at9 (sg, (nI n))) ++ ((wK0 g a0 ak ((nI od), (nI sz))) ++ (wHs g ak hs 6))))) := hD
    obtain ⟨z2, ez2⟩ : ∃ x : HSt, (if ¬ ((hL h) ((Tq sg n (k + 1) - 48) * 6 + (Tq sg n (k + 2) - 48))) ≤ 0 then Hunseat ((Tq sg n (k + 1) - 48) * 6 + (Tq sg n (k + 2) - 48)) 1 h else h) = x := ⟨_, rfl⟩
    rw [ez2] at hP hD
    have e9 : Udo sg n k h = z2 := (by subst ez2; unfold Udo; rw [if_neg (show ¬ Tq sg n k = 99 by omega), if_pos hq0]; try rfl)
    have hP : va_P g.1 vwCl ((wU u (ah 0) (a0 0) (at9 0)) ++ ((wH g ah (Udo sg n k h)) ++ ((wT g at9 (sg, (nI n))) ++ ((wK0 g a0 ak ((nI od), (nI sz))) ++ (wHs g ak hs 6))))) H := by rw [e9]; exact hP
    have hD : va_D A ((wU u (ah 0) (a0 0) (at9 0)) ++ ((wH g ah (Udo sg n k h)) ++ ((wT g at9 (sg, (nI n))) ++ ((wK0 g a0 ak ((nI od), (nI sz))) ++ (wHs g ak hs 6))))) := by rw [e9]; exact hD
    exact k_iret hx hb hr hlocks bI_nar (bI_iff (UdoB_l hq0)).symm hP hD hS (Nat.le_of_ble_eq_true rfl) (Nat.le_of_ble_eq_true rfl) dX3_doEvent_94
  ·
    refine lv_aload_n hx hb dX3_doEvent_0 rfl (lv_at hl 0 rfl) ?_
    refine va_get (D := g.1) (ci := 3) (v := .ref (at9 0)) (C := RX3) (T := TX3) (N := 3) hx hb hts hiX3 hown hE.1 hP 0 rfl rfl 2 (by decide) f26 (fun _ h9 => h9) rfl dX3_doEvent_1 ?_
    refine lv_iload_n hx hb dX3_doEvent_4 rfl (lv_at hl 1 rfl) ?_
    refine lv_iconst (v := (nI 1)) hx hb dX3_doEvent_5 (by decide) ?_
    refine lv_iadd hx hb dX3_doEvent_6 ?_
    refine k_top (nI_add _ _) ?_
    refine k_Vi (As := [.int (nI (k + 1))]) (r := ((nI (Tq sg n (k + 1))) - (nI 48))) hF (c_X0_digitAt l g at9 sg n (by omega) hch (k + 1) (by omega)) (cwV 1 hts gX3_doEvent_X0_digitAt rfl rfl rfl (by decide +kernel) ⟨Nat.le_of_ble_eq_true rfl, Nat.le_of_ble_eq_true rfl⟩) hE hP hD hS hA (pm_5_2 _ _ _ _ _) ((pm_5_2 _ _ _ _ _).symm) 5 rfl rfl rfl rfl hl.1 rfl (Nat.le_of_ble_eq_true rfl) dX3_doEvent_7 ⟨Nat.le_of_ble_eq_true rfl, Nat.le_of_ble_eq_true rfl⟩ (fun H locs hP hD hS => ?_)
    have hP : va_P g.1 vwCl ((wU u (ah 0) (a0 0) (at9 0)) ++ ((wH g ah h) ++ ((wT g at9 (sg, (nI n))) ++ ((wK0 g a0 ak ((nI od), (nI sz))) ++ (wHs g ak hs 6))))) _ := hP
    have hD : va_D A ((wU u (ah 0) (a0 0) (at9 0)) ++ ((wH g ah h) ++ ((wT g at9 (sg, (nI n))) ++ ((wK0 g a0 ak ((nI od), (nI sz))) ++ (wHs g ak hs 6))))) := hD
    refine k_top (show nI (Tq sg n (k + 1)) - nI 48 = nI (Tq sg n (k + 1) - 48) from pk_sub (by omega)) ?_
    refine lv_istore_n (lv' := [(2, .int (nI (Tq sg n (k + 1) - 48))), (0, .ref u), (1, .int (nI k))]) hx hb dX3_doEvent_10 rfl hl (by decide) rfl (fun ls hl => ?_)
    refine lv_aload_n hx hb dX3_doEvent_11 rfl (lv_at hl 1 rfl) ?_
    refine va_get (D := g.1) (ci := 3) (v := .ref (at9 0)) (C := RX3) (T := TX3) (N := 3) hx hb hts hiX3 hown hE.1 hP 0 rfl rfl 2 (by decide) f26 (fun _ h9 => h9) rfl dX3_doEvent_12 ?_
    refine lv_iload_n hx hb dX3_doEvent_15 rfl (lv_at hl 2 rfl) ?_
    refine lv_iconst (v := (nI 2)) hx hb dX3_doEvent_16 (by decide) ?_
    refine lv_iadd hx hb dX3_doEvent_17 ?_
    refine k_top (nI_add _ _) ?_
    refine k_Vi (As := [.int (nI (k + 2))]) (r := ((nI (Tq sg n (k + 2))) - (nI 48))) hF (c_X0_digitAt l g at9 sg n (by omega) hch (k + 2) (by omega)) (cwV 1 hts gX3_doEvent_X0_digitAt rfl rfl rfl (by decide +kernel) ⟨Nat.le_of_ble_eq_true rfl, Nat.le_of_ble_eq_true rfl⟩) hE hP hD hS hA (pm_5_2 _ _ _ _ _) ((pm_5_2 _ _ _ _ _).symm) 5 rfl rfl rfl rfl hl.1 rfl (Nat.le_of_ble_eq_true rfl) dX3_doEvent_18 ⟨Nat.le_of_ble_eq_true rfl, Nat.le_of_ble_eq_true rfl⟩ (fun H locs hP hD hS => ?_)
    have hP : va_P g.1 vwCl ((wU u (ah 0) (a0 0) (at9 0)) ++ ((wH g ah h) ++ ((wT g at9 (sg, (nI n))) ++ ((wK0 g a0 ak ((nI od), (nI sz))) ++ (wHs g ak hs 6))))) _ := hP
    have hD : va_D A ((wU u (ah 0) (a0 0) (at9 0)) ++ ((wH g ah h) ++ ((wT g at9 (sg, (nI n))) ++ ((wK0 g a0 ak ((nI od), (nI sz))) ++ (wHs g ak hs 6))))) := hD
    refine k_top (show nI (Tq sg n (k + 2)) - nI 48 = nI (Tq sg n (k + 2) - 48) from pk_sub (by omega)) ?_
    refine lv_istore_n (lv' := [(3, .int (nI (Tq sg n (k + 2) - 48))), (2, .int (nI (Tq sg n (k + 1) - 48))), (0, .ref u), (1, .int (nI k))]) hx hb dX3_doEvent_21 rfl hl (by decide) rfl (fun ls hl => ?_)
    refine lv_aload_n hx hb dX3_doEvent_22 rfl (lv_at hl 2 rfl) ?_
    refine va_get (D := g.1) (ci := 3) (v := .ref (at9 0)) (C := RX3) (T := TX3) (N := 3) hx hb hts hiX3 hown hE.1 hP 0 rfl rfl 2 (by decide) f26 (fun _ h9 => h9) rfl dX3_doEvent_23 ?_
    refine lv_iload_n hx hb dX3_doEvent_26 rfl (lv_at hl 3 rfl) ?_
    refine k_Vi (As := [.int (nI k)]) (r := (nI (Tq sg n k))) hF (c_X0_signAt l g at9 sg n (by omega) hch k (by omega)) (cwV 1 hts gX3_doEvent_X0_signAt rfl rfl rfl (by decide +kernel) ⟨Nat.le_of_ble_eq_true rfl, Nat.le_of_ble_eq_true rfl⟩) hE hP hD hS hA (pm_5_2 _ _ _ _ _) ((pm_5_2 _ _ _ _ _).symm) 5 rfl rfl rfl rfl hl.1 rfl (Nat.le_of_ble_eq_true rfl) dX3_doEvent_27 ⟨Nat.le_of_ble_eq_true rfl, Nat.le_of_ble_eq_true rfl⟩ (fun H locs hP hD hS => ?_)
    have hP : va_P g.1 vwCl ((wU u (ah 0) (a0 0) (at9 0)) ++ ((wH g ah h) ++ ((wT g at9 (sg, (nI n))) ++ ((wK0 g a0 ak ((nI od), (nI sz))) ++ (wHs g ak hs 6))))) _ := hP
    have hD : va_D A ((wU u (ah 0) (a0 0) (at9 0)) ++ ((wH g ah h) ++ ((wT g at9 (sg, (nI n))) ++ ((wK0 g a0 ak ((nI od), (nI sz))) ++ (wHs g ak hs 6))))) := hD
    refine k_top (show nI (Tq sg n k) = nI 115 by rw [hq0]) ?_
    refine lv_lookup (off := 65) (tgt := 95) hx hb dX3_doEvent_30 (by decide) (by decide) (by decide) ?_
    refine lv_aload_n hx hb dX3_doEvent_95 rfl (lv_at hl 2 rfl) ?_
    refine lv_iload_n hx hb dX3_doEvent_96 rfl (lv_at hl 1 rfl) ?_
    refine lv_iload_n hx hb dX3_doEvent_97 rfl (lv_at hl 0 rfl) ?_
    refine lv_iconst (v := (nI 0)) hx hb dX3_doEvent_98 (by decide) ?_
    refine k_Vi (As := [.int (nI (Tq sg n (k + 1) - 48)), .int (nI (Tq sg n (k + 2) - 48)), .int (nI 0)]) (r := (bI (¬ ((hL h) ((Tq sg n (k + 1) - 48) * 6 + (Tq sg n (k + 2) - 48))) ≤ 0))) hF (c_X3_unseatIfWanted l g u ah at9 a0 ak h sg n (by omega) hch od sz (by omega) (by omega) hs hbo hbs (Tq sg n (k + 1) - 48) (Tq sg n (k + 2) - 48) (by omega) (by omega) 0 (by decide)) (cwV 3 hts gX3_doEvent_X3_unseatIfWanted rfl rfl rfl (by decide +kernel) ⟨Nat.le_of_ble_eq_true rfl, Nat.le_of_ble_eq_true rfl⟩) hE hP hD hS hA (k_pall _) ((k_pall _).symm) 0 rfl rfl rfl rfl hl.1 rfl (Nat.le_of_ble_eq_true rfl) dX3_doEvent_99 ⟨Nat.le_of_ble_eq_true rfl, Nat.le_of_ble_eq_true rfl⟩ (fun H locs hP hD hS => ?_)
    have hP : va_P g.1 vwCl ((wU u (ah 0) (a0 0) (at9 0)) ++ ((wH g ah (if ¬ ((hL h) ((Tq sg n (k + 1) - 48) * 6 + (Tq sg n (k + 2) - 48))) ≤ 0 then Hunseat ((Tq sg n (k + 1) - 48) * 6 + (Tq sg n (k + 2) - 48)) 0 h else h)) ++ ((wT g at9 (sg, (nI n))) ++ ((wK0 g a0 ak ((nI od), (nI sz))) ++ (wHs g ak hs 6))))) _ := hP
    have hD : va_D A ((wU u (ah 0) (a0 0) (at9 0)) ++ ((wH g ah (if ¬ ((hL h) ((Tq sg n (k + 1) - 48) * 6 + (Tq sg n (k + 2) - 48))) ≤ 0 then Hunseat ((Tq sg n (k + 1) - 48) * 6 + (Tq sg n (k + 2) - 48)) 0 h else h)) ++ ((wT g at9 (sg, (nI n))) ++ ((wK0 g a0 ak ((nI od), (nI sz))) ++ (wHs g ak hs 6))))) := hD
    obtain ⟨z3, ez3⟩ : ∃ x : HSt, (if ¬ ((hL h) ((Tq sg n (k + 1) - 48) * 6 + (Tq sg n (k + 2) - 48))) ≤ 0 then Hunseat ((Tq sg n (k + 1) - 48) * 6 + (Tq sg n (k + 2) - 48)) 0 h else h) = x := ⟨_, rfl⟩
    rw [ez3] at hP hD
    have e9 : Udo sg n k h = z3 := (by subst ez3; unfold Udo; rw [if_neg (show ¬ Tq sg n k = 99 by omega), if_neg (show ¬ Tq sg n k = 108 by omega), if_pos hq0]; try rfl)
    have hP : va_P g.1 vwCl ((wU u (ah 0) (a0 0) (at9 0)) ++ ((wH g ah (Udo sg n k h)) ++ ((wT g at9 (sg, (nI n))) ++ ((wK0 g a0 ak ((nI od), (nI sz))) ++ (wHs g ak hs 6))))) H := by rw [e9]; exact hP
    have hD : va_D A ((wU u (ah 0) (a0 0) (at9 0)) ++ ((wH g ah (Udo sg n k h)) ++ ((wT g at9 (sg, (nI n))) ++ ((wK0 g a0 ak ((nI od), (nI sz))) ++ (wHs g ak hs 6))))) := by rw [e9]; exact hD
    exact k_iret hx hb hr hlocks bI_nar (bI_iff (UdoB_s hq0)).symm hP hD hS (Nat.le_of_ble_eq_true rfl) (Nat.le_of_ble_eq_true rfl) dX3_doEvent_102
  ·
    refine lv_aload_n hx hb dX3_doEvent_0 rfl (lv_at hl 0 rfl) ?_
    refine va_get (D := g.1) (ci := 3) (v := .ref (at9 0)) (C := RX3) (T := TX3) (N := 3) hx hb hts hiX3 hown hE.1 hP 0 rfl rfl 2 (by decide) f26 (fun _ h9 => h9) rfl dX3_doEvent_1 ?_
    refine lv_iload_n hx hb dX3_doEvent_4 rfl (lv_at hl 1 rfl) ?_
    refine lv_iconst (v := (nI 1)) hx hb dX3_doEvent_5 (by decide) ?_
    refine lv_iadd hx hb dX3_doEvent_6 ?_
    refine k_top (nI_add _ _) ?_
    refine k_Vi (As := [.int (nI (k + 1))]) (r := ((nI (Tq sg n (k + 1))) - (nI 48))) hF (c_X0_digitAt l g at9 sg n (by omega) hch (k + 1) (by omega)) (cwV 1 hts gX3_doEvent_X0_digitAt rfl rfl rfl (by decide +kernel) ⟨Nat.le_of_ble_eq_true rfl, Nat.le_of_ble_eq_true rfl⟩) hE hP hD hS hA (pm_5_2 _ _ _ _ _) ((pm_5_2 _ _ _ _ _).symm) 5 rfl rfl rfl rfl hl.1 rfl (Nat.le_of_ble_eq_true rfl) dX3_doEvent_7 ⟨Nat.le_of_ble_eq_true rfl, Nat.le_of_ble_eq_true rfl⟩ (fun H locs hP hD hS => ?_)
    have hP : va_P g.1 vwCl ((wU u (ah 0) (a0 0) (at9 0)) ++ ((wH g ah h) ++ ((wT g at9 (sg, (nI n))) ++ ((wK0 g a0 ak ((nI od), (nI sz))) ++ (wHs g ak hs 6))))) _ := hP
    have hD : va_D A ((wU u (ah 0) (a0 0) (at9 0)) ++ ((wH g ah h) ++ ((wT g at9 (sg, (nI n))) ++ ((wK0 g a0 ak ((nI od), (nI sz))) ++ (wHs g ak hs 6))))) := hD
    refine k_top (show nI (Tq sg n (k + 1)) - nI 48 = nI (Tq sg n (k + 1) - 48) from pk_sub (by omega)) ?_
    refine lv_istore_n (lv' := [(2, .int (nI (Tq sg n (k + 1) - 48))), (0, .ref u), (1, .int (nI k))]) hx hb dX3_doEvent_10 rfl hl (by decide) rfl (fun ls hl => ?_)
    refine lv_aload_n hx hb dX3_doEvent_11 rfl (lv_at hl 1 rfl) ?_
    refine va_get (D := g.1) (ci := 3) (v := .ref (at9 0)) (C := RX3) (T := TX3) (N := 3) hx hb hts hiX3 hown hE.1 hP 0 rfl rfl 2 (by decide) f26 (fun _ h9 => h9) rfl dX3_doEvent_12 ?_
    refine lv_iload_n hx hb dX3_doEvent_15 rfl (lv_at hl 2 rfl) ?_
    refine lv_iconst (v := (nI 2)) hx hb dX3_doEvent_16 (by decide) ?_
    refine lv_iadd hx hb dX3_doEvent_17 ?_
    refine k_top (nI_add _ _) ?_
    refine k_Vi (As := [.int (nI (k + 2))]) (r := ((nI (Tq sg n (k + 2))) - (nI 48))) hF (c_X0_digitAt l g at9 sg n (by omega) hch (k + 2) (by omega)) (cwV 1 hts gX3_doEvent_X0_digitAt rfl rfl rfl (by decide +kernel) ⟨Nat.le_of_ble_eq_true rfl, Nat.le_of_ble_eq_true rfl⟩) hE hP hD hS hA (pm_5_2 _ _ _ _ _) ((pm_5_2 _ _ _ _ _).symm) 5 rfl rfl rfl rfl hl.1 rfl (Nat.le_of_ble_eq_true rfl) dX3_doEvent_18 ⟨Nat.le_of_ble_eq_true rfl, Nat.le_of_ble_eq_true rfl⟩ (fun H locs hP hD hS => ?_)
    have hP : va_P g.1 vwCl ((wU u (ah 0) (a0 0) (at9 0)) ++ ((wH g ah h) ++ ((wT g at9 (sg, (nI n))) ++ ((wK0 g a0 ak ((nI od), (nI sz))) ++ (wHs g ak hs 6))))) _ := hP
    have hD : va_D A ((wU u (ah 0) (a0 0) (at9 0)) ++ ((wH g ah h) ++ ((wT g at9 (sg, (nI n))) ++ ((wK0 g a0 ak ((nI od), (nI sz))) ++ (wHs g ak hs 6))))) := hD
    refine lv_istore_n (lv' := [(3, .int ((nI (Tq sg n (k + 2))) - (nI 48))), (2, .int (nI (Tq sg n (k + 1) - 48))), (0, .ref u), (1, .int (nI k))]) hx hb dX3_doEvent_21 rfl hl (by decide) rfl (fun ls hl => ?_)
    refine lv_aload_n hx hb dX3_doEvent_22 rfl (lv_at hl 2 rfl) ?_
    refine va_get (D := g.1) (ci := 3) (v := .ref (at9 0)) (C := RX3) (T := TX3) (N := 3) hx hb hts hiX3 hown hE.1 hP 0 rfl rfl 2 (by decide) f26 (fun _ h9 => h9) rfl dX3_doEvent_23 ?_
    refine lv_iload_n hx hb dX3_doEvent_26 rfl (lv_at hl 3 rfl) ?_
    refine k_Vi (As := [.int (nI k)]) (r := (nI (Tq sg n k))) hF (c_X0_signAt l g at9 sg n (by omega) hch k (by omega)) (cwV 1 hts gX3_doEvent_X0_signAt rfl rfl rfl (by decide +kernel) ⟨Nat.le_of_ble_eq_true rfl, Nat.le_of_ble_eq_true rfl⟩) hE hP hD hS hA (pm_5_2 _ _ _ _ _) ((pm_5_2 _ _ _ _ _).symm) 5 rfl rfl rfl rfl hl.1 rfl (Nat.le_of_ble_eq_true rfl) dX3_doEvent_27 ⟨Nat.le_of_ble_eq_true rfl, Nat.le_of_ble_eq_true rfl⟩ (fun H locs hP hD hS => ?_)
    have hP : va_P g.1 vwCl ((wU u (ah 0) (a0 0) (at9 0)) ++ ((wH g ah h) ++ ((wT g at9 (sg, (nI n))) ++ ((wK0 g a0 ak ((nI od), (nI sz))) ++ (wHs g ak hs 6))))) _ := hP
    have hD : va_D A ((wU u (ah 0) (a0 0) (at9 0)) ++ ((wH g ah h) ++ ((wT g at9 (sg, (nI n))) ++ ((wK0 g a0 ak ((nI od), (nI sz))) ++ (wHs g ak hs 6))))) := hD
    refine k_top (show nI (Tq sg n k) = nI 112 by rw [hq0]) ?_
    refine lv_lookup (off := 73) (tgt := 103) hx hb dX3_doEvent_30 (by decide) (by decide) (by decide) ?_
    refine lv_aload_n hx hb dX3_doEvent_103 rfl (lv_at hl 2 rfl) ?_
    refine lv_iload_n hx hb dX3_doEvent_104 rfl (lv_at hl 1 rfl) ?_
    refine k_Vi (As := [.int (nI (Tq sg n (k + 1) - 48))]) (r := (nI 1)) hF (c_X3_performIfThere l g u ah at9 a0 ak h sg n (by omega) hch od sz (by omega) (by omega) hs hbo hbs (Tq sg n (k + 1) - 48) (by omega)) (cwV 1 hts gX3_doEvent_X3_performIfThere rfl rfl rfl (by decide +kernel) ⟨Nat.le_of_ble_eq_true rfl, Nat.le_of_ble_eq_true rfl⟩) hE hP hD hS hA (k_pall _) ((k_pall _).symm) 0 rfl rfl rfl rfl hl.1 rfl (Nat.le_of_ble_eq_true rfl) dX3_doEvent_105 ⟨Nat.le_of_ble_eq_true rfl, Nat.le_of_ble_eq_true rfl⟩ (fun H locs hP hD hS => ?_)
    have hP : va_P g.1 vwCl ((wU u (ah 0) (a0 0) (at9 0)) ++ ((wH g ah (Hperf (Tq sg n (k + 1) - 48) h)) ++ ((wT g at9 (sg, (nI n))) ++ ((wK0 g a0 ak ((nI od), (nI sz))) ++ (wHs g ak hs 6))))) _ := hP
    have hD : va_D A ((wU u (ah 0) (a0 0) (at9 0)) ++ ((wH g ah (Hperf (Tq sg n (k + 1) - 48) h)) ++ ((wT g at9 (sg, (nI n))) ++ ((wK0 g a0 ak ((nI od), (nI sz))) ++ (wHs g ak hs 6))))) := hD
    obtain ⟨z4, ez4⟩ : ∃ x : HSt, (Hperf (Tq sg n (k + 1) - 48) h) = x := ⟨_, rfl⟩
    rw [ez4] at hP hD
    have e9 : Udo sg n k h = z4 := (by subst ez4; unfold Udo; rw [if_neg (show ¬ Tq sg n k = 99 by omega), if_neg (show ¬ Tq sg n k = 108 by omega), if_neg (show ¬ Tq sg n k = 115 by omega), if_pos hq0]; try rfl)
    have hP : va_P g.1 vwCl ((wU u (ah 0) (a0 0) (at9 0)) ++ ((wH g ah (Udo sg n k h)) ++ ((wT g at9 (sg, (nI n))) ++ ((wK0 g a0 ak ((nI od), (nI sz))) ++ (wHs g ak hs 6))))) H := by rw [e9]; exact hP
    have hD : va_D A ((wU u (ah 0) (a0 0) (at9 0)) ++ ((wH g ah (Udo sg n k h)) ++ ((wT g at9 (sg, (nI n))) ++ ((wK0 g a0 ak ((nI od), (nI sz))) ++ (wHs g ak hs 6))))) := by rw [e9]; exact hD
    exact k_iret hx hb hr hlocks rfl (bI_t (UdoB_o (by omega) (by omega) (by omega))).symm hP hD hS (Nat.le_of_ble_eq_true rfl) (Nat.le_of_ble_eq_true rfl) dX3_doEvent_108
  ·
    refine lv_aload_n hx hb dX3_doEvent_0 rfl (lv_at hl 0 rfl) ?_
    refine va_get (D := g.1) (ci := 3) (v := .ref (at9 0)) (C := RX3) (T := TX3) (N := 3) hx hb hts hiX3 hown hE.1 hP 0 rfl rfl 2 (by decide) f26 (fun _ h9 => h9) rfl dX3_doEvent_1 ?_
    refine lv_iload_n hx hb dX3_doEvent_4 rfl (lv_at hl 1 rfl) ?_
    refine lv_iconst (v := (nI 1)) hx hb dX3_doEvent_5 (by decide) ?_
    refine lv_iadd hx hb dX3_doEvent_6 ?_
    refine k_top (nI_add _ _) ?_
    refine k_Vi (As := [.int (nI (k + 1))]) (r := ((nI (Tq sg n (k + 1))) - (nI 48))) hF (c_X0_digitAt l g at9 sg n (by omega) hch (k + 1) (by omega)) (cwV 1 hts gX3_doEvent_X0_digitAt rfl rfl rfl (by decide +kernel) ⟨Nat.le_of_ble_eq_true rfl, Nat.le_of_ble_eq_true rfl⟩) hE hP hD hS hA (pm_5_2 _ _ _ _ _) ((pm_5_2 _ _ _ _ _).symm) 5 rfl rfl rfl rfl hl.1 rfl (Nat.le_of_ble_eq_true rfl) dX3_doEvent_7 ⟨Nat.le_of_ble_eq_true rfl, Nat.le_of_ble_eq_true rfl⟩ (fun H locs hP hD hS => ?_)
    have hP : va_P g.1 vwCl ((wU u (ah 0) (a0 0) (at9 0)) ++ ((wH g ah h) ++ ((wT g at9 (sg, (nI n))) ++ ((wK0 g a0 ak ((nI od), (nI sz))) ++ (wHs g ak hs 6))))) _ := hP
    have hD : va_D A ((wU u (ah 0) (a0 0) (at9 0)) ++ ((wH g ah h) ++ ((wT g at9 (sg, (nI n))) ++ ((wK0 g a0 ak ((nI od), (nI sz))) ++ (wHs g ak hs 6))))) := hD
    refine lv_istore_n (lv' := [(2, .int ((nI (Tq sg n (k + 1))) - (nI 48))), (0, .ref u), (1, .int (nI k))]) hx hb dX3_doEvent_10 rfl hl (by decide) rfl (fun ls hl => ?_)
    refine lv_aload_n hx hb dX3_doEvent_11 rfl (lv_at hl 1 rfl) ?_
    refine va_get (D := g.1) (ci := 3) (v := .ref (at9 0)) (C := RX3) (T := TX3) (N := 3) hx hb hts hiX3 hown hE.1 hP 0 rfl rfl 2 (by decide) f26 (fun _ h9 => h9) rfl dX3_doEvent_12 ?_
    refine lv_iload_n hx hb dX3_doEvent_15 rfl (lv_at hl 2 rfl) ?_
    refine lv_iconst (v := (nI 2)) hx hb dX3_doEvent_16 (by decide) ?_
    refine lv_iadd hx hb dX3_doEvent_17 ?_
    refine k_top (nI_add _ _) ?_
    refine k_Vi (As := [.int (nI (k + 2))]) (r := ((nI (Tq sg n (k + 2))) - (nI 48))) hF (c_X0_digitAt l g at9 sg n (by omega) hch (k + 2) (by omega)) (cwV 1 hts gX3_doEvent_X0_digitAt rfl rfl rfl (by decide +kernel) ⟨Nat.le_of_ble_eq_true rfl, Nat.le_of_ble_eq_true rfl⟩) hE hP hD hS hA (pm_5_2 _ _ _ _ _) ((pm_5_2 _ _ _ _ _).symm) 5 rfl rfl rfl rfl hl.1 rfl (Nat.le_of_ble_eq_true rfl) dX3_doEvent_18 ⟨Nat.le_of_ble_eq_true rfl, Nat.le_of_ble_eq_true rfl⟩ (fun H locs hP hD hS => ?_)
    have hP : va_P g.1 vwCl ((wU u (ah 0) (a0 0) (at9 0)) ++ ((wH g ah h) ++ ((wT g at9 (sg, (nI n))) ++ ((wK0 g a0 ak ((nI od), (nI sz))) ++ (wHs g ak hs 6))))) _ := hP
    have hD : va_D A ((wU u (ah 0) (a0 0) (at9 0)) ++ ((wH g ah h) ++ ((wT g at9 (sg, (nI n))) ++ ((wK0 g a0 ak ((nI od), (nI sz))) ++ (wHs g ak hs 6))))) := hD
    refine lv_istore_n (lv' := [(3, .int ((nI (Tq sg n (k + 2))) - (nI 48))), (2, .int ((nI (Tq sg n (k + 1))) - (nI 48))), (0, .ref u), (1, .int (nI k))]) hx hb dX3_doEvent_21 rfl hl (by decide) rfl (fun ls hl => ?_)
    refine lv_aload_n hx hb dX3_doEvent_22 rfl (lv_at hl 2 rfl) ?_
    refine va_get (D := g.1) (ci := 3) (v := .ref (at9 0)) (C := RX3) (T := TX3) (N := 3) hx hb hts hiX3 hown hE.1 hP 0 rfl rfl 2 (by decide) f26 (fun _ h9 => h9) rfl dX3_doEvent_23 ?_
    refine lv_iload_n hx hb dX3_doEvent_26 rfl (lv_at hl 3 rfl) ?_
    refine k_Vi (As := [.int (nI k)]) (r := (nI (Tq sg n k))) hF (c_X0_signAt l g at9 sg n (by omega) hch k (by omega)) (cwV 1 hts gX3_doEvent_X0_signAt rfl rfl rfl (by decide +kernel) ⟨Nat.le_of_ble_eq_true rfl, Nat.le_of_ble_eq_true rfl⟩) hE hP hD hS hA (pm_5_2 _ _ _ _ _) ((pm_5_2 _ _ _ _ _).symm) 5 rfl rfl rfl rfl hl.1 rfl (Nat.le_of_ble_eq_true rfl) dX3_doEvent_27 ⟨Nat.le_of_ble_eq_true rfl, Nat.le_of_ble_eq_true rfl⟩ (fun H locs hP hD hS => ?_)
    have hP : va_P g.1 vwCl ((wU u (ah 0) (a0 0) (at9 0)) ++ ((wH g ah h) ++ ((wT g at9 (sg, (nI n))) ++ ((wK0 g a0 ak ((nI od), (nI sz))) ++ (wHs g ak hs 6))))) _ := hP
    have hD : va_D A ((wU u (ah 0) (a0 0) (at9 0)) ++ ((wH g ah h) ++ ((wT g at9 (sg, (nI n))) ++ ((wK0 g a0 ak ((nI od), (nI sz))) ++ (wHs g ak hs 6))))) := hD
    refine k_top (show nI (Tq sg n k) = nI 116 by rw [hq0]) ?_
    refine lv_lookup (off := 79) (tgt := 109) hx hb dX3_doEvent_30 (by decide) (by decide) (by decide) ?_
    refine lv_aload_n hx hb dX3_doEvent_109 rfl (lv_at hl 2 rfl) ?_
    refine va_get (D := g.1) (ci := 3) (v := .ref (ah 0)) (C := RX3) (T := TX3) (N := 3) hx hb hts hiX3 hown hE.1 hP 0 rfl rfl 0 (by decide) f12 (fun _ h9 => h9) rfl dX3_doEvent_110 ?_
    refine lv_aload_n hx hb dX3_doEvent_113 rfl (lv_at hl 2 rfl) ?_
    refine va_get (D := g.1) (ci := 3) (v := .ref (at9 0)) (C := RX3) (T := TX3) (N := 3) hx hb hts hiX3 hown hE.1 hP 0 rfl rfl 2 (by decide) f26 (fun _ h9 => h9) rfl dX3_doEvent_114 ?_
    refine lv_iload_n hx hb dX3_doEvent_117 rfl (lv_at hl 3 rfl) ?_
    refine lv_iconst (v := (nI 1)) hx hb dX3_doEvent_118 (by decide) ?_
    refine lv_iadd hx hb dX3_doEvent_119 ?_
    refine k_top (nI_add _ _) ?_
    refine k_Vi (As := [.int (nI (k + 1))]) (r := (Tnum sg n (k + 1))) hF (c_X0_numberAt l g at9 sg n (by omega) hch (k + 1) (by omega)) (cwV 1 hts gX3_doEvent_X0_numberAt rfl rfl rfl (by decide +kernel) ⟨Nat.le_of_ble_eq_true rfl, Nat.le_of_ble_eq_true rfl⟩) hE hP hD hS hA (pm_5_2 _ _ _ _ _) ((pm_5_2 _ _ _ _ _).symm) 5 rfl rfl rfl rfl hl.1 rfl (Nat.le_of_ble_eq_true rfl) dX3_doEvent_120 ⟨Nat.le_of_ble_eq_true rfl, Nat.le_of_ble_eq_true rfl⟩ (fun H locs hP hD hS => ?_)
    have hP : va_P g.1 vwCl ((wU u (ah 0) (a0 0) (at9 0)) ++ ((wH g ah h) ++ ((wT g at9 (sg, (nI n))) ++ ((wK0 g a0 ak ((nI od), (nI sz))) ++ (wHs g ak hs 6))))) _ := hP
    have hD : va_D A ((wU u (ah 0) (a0 0) (at9 0)) ++ ((wH g ah h) ++ ((wT g at9 (sg, (nI n))) ++ ((wK0 g a0 ak ((nI od), (nI sz))) ++ (wHs g ak hs 6))))) := hD
    refine k_top hN9e ?_
    refine k_Vi (As := [.int (nI N9)]) (r := (nI (HpassQ h N9))) hF (c_X1_letPass l g ah h N9 (by omega)) (cwV 1 hts gX3_doEvent_X1_letPass rfl rfl rfl (by decide +kernel) ⟨Nat.le_of_ble_eq_true rfl, Nat.le_of_ble_eq_true rfl⟩) hE hP hD hS hA (pm_5_1 _ _ _ _ _) ((pm_5_1 _ _ _ _ _).symm) 1 rfl rfl rfl rfl hl.1 rfl (Nat.le_of_ble_eq_true rfl) dX3_doEvent_123 ⟨Nat.le_of_ble_eq_true rfl, Nat.le_of_ble_eq_true rfl⟩ (fun H locs hP hD hS => ?_)
    have hP : va_P g.1 vwCl ((wU u (ah 0) (a0 0) (at9 0)) ++ ((wH g ah (HpassN h N9)) ++ ((wT g at9 (sg, (nI n))) ++ ((wK0 g a0 ak ((nI od), (nI sz))) ++ (wHs g ak hs 6))))) _ := hP
    have hD : va_D A ((wU u (ah 0) (a0 0) (at9 0)) ++ ((wH g ah (HpassN h N9)) ++ ((wT g at9 (sg, (nI n))) ++ ((wK0 g a0 ak ((nI od), (nI sz))) ++ (wHs g ak hs 6))))) := hD
    obtain ⟨z5, ez5⟩ : ∃ x : HSt, (HpassN h N9) = x := ⟨_, rfl⟩
    rw [ez5] at hP hD
    refine lv_pop hx hb dX3_doEvent_126 rfl ?_
    refine lv_iconst (v := (nI 1)) hx hb dX3_doEvent_127 (by decide) ?_
    have e9 : Udo sg n k h = z5 := (by subst ez5; unfold Udo; rw [if_neg (show ¬ Tq sg n k = 99 by omega), if_neg (show ¬ Tq sg n k = 108 by omega), if_neg (show ¬ Tq sg n k = 115 by omega), if_neg (show ¬ Tq sg n k = 112 by omega), if_pos hq0, hN9e, nI_clamp (by omega)]; try rfl)
    have hP : va_P g.1 vwCl ((wU u (ah 0) (a0 0) (at9 0)) ++ ((wH g ah (Udo sg n k h)) ++ ((wT g at9 (sg, (nI n))) ++ ((wK0 g a0 ak ((nI od), (nI sz))) ++ (wHs g ak hs 6))))) H := by rw [e9]; exact hP
    have hD : va_D A ((wU u (ah 0) (a0 0) (at9 0)) ++ ((wH g ah (Udo sg n k h)) ++ ((wT g at9 (sg, (nI n))) ++ ((wK0 g a0 ak ((nI od), (nI sz))) ++ (wHs g ak hs 6))))) := by rw [e9]; exact hD
    exact k_iret hx hb hr hlocks rfl (bI_t (UdoB_o (by omega) (by omega) (by omega))).symm hP hD hS (Nat.le_of_ble_eq_true rfl) (Nat.le_of_ble_eq_true rfl) dX3_doEvent_128
  ·
    refine lv_aload_n hx hb dX3_doEvent_0 rfl (lv_at hl 0 rfl) ?_
    refine va_get (D := g.1) (ci := 3) (v := .ref (at9 0)) (C := RX3) (T := TX3) (N := 3) hx hb hts hiX3 hown hE.1 hP 0 rfl rfl 2 (by decide) f26 (fun _ h9 => h9) rfl dX3_doEvent_1 ?_
    refine lv_iload_n hx hb dX3_doEvent_4 rfl (lv_at hl 1 rfl) ?_
    refine lv_iconst (v := (nI 1)) hx hb dX3_doEvent_5 (by decide) ?_
    refine lv_iadd hx hb dX3_doEvent_6 ?_
    refine k_top (nI_add _ _) ?_
    refine k_Vi (As := [.int (nI (k + 1))]) (r := ((nI (Tq sg n (k + 1))) - (nI 48))) hF (c_X0_digitAt l g at9 sg n (by omega) hch (k + 1) (by omega)) (cwV 1 hts gX3_doEvent_X0_digitAt rfl rfl rfl (by decide +kernel) ⟨Nat.le_of_ble_eq_true rfl, Nat.le_of_ble_eq_true rfl⟩) hE hP hD hS hA (pm_5_2 _ _ _ _ _) ((pm_5_2 _ _ _ _ _).symm) 5 rfl rfl rfl rfl hl.1 rfl (Nat.le_of_ble_eq_true rfl) dX3_doEvent_7 ⟨Nat.le_of_ble_eq_true rfl, Nat.le_of_ble_eq_true rfl⟩ (fun H locs hP hD hS => ?_)
    have hP : va_P g.1 vwCl ((wU u (ah 0) (a0 0) (at9 0)) ++ ((wH g ah h) ++ ((wT g at9 (sg, (nI n))) ++ ((wK0 g a0 ak ((nI od), (nI sz))) ++ (wHs g ak hs 6))))) _ := hP
    have hD : va_D A ((wU u (ah 0) (a0 0) (at9 0)) ++ ((wH g ah h) ++ ((wT g at9 (sg, (nI n))) ++ ((wK0 g a0 ak ((nI od), (nI sz))) ++ (wHs g ak hs 6))))) := hD
    refine k_top (show nI (Tq sg n (k + 1)) - nI 48 = nI (Tq sg n (k + 1) - 48) from pk_sub (by omega)) ?_
    refine lv_istore_n (lv' := [(2, .int (nI (Tq sg n (k + 1) - 48))), (0, .ref u), (1, .int (nI k))]) hx hb dX3_doEvent_10 rfl hl (by decide) rfl (fun ls hl => ?_)
    refine lv_aload_n hx hb dX3_doEvent_11 rfl (lv_at hl 1 rfl) ?_
    refine va_get (D := g.1) (ci := 3) (v := .ref (at9 0)) (C := RX3) (T := TX3) (N := 3) hx hb hts hiX3 hown hE.1 hP 0 rfl rfl 2 (by decide) f26 (fun _ h9 => h9) rfl dX3_doEvent_12 ?_
    refine lv_iload_n hx hb dX3_doEvent_15 rfl (lv_at hl 2 rfl) ?_
    refine lv_iconst (v := (nI 2)) hx hb dX3_doEvent_16 (by decide) ?_
    refine lv_iadd hx hb dX3_doEvent_17 ?_
    refine k_top (nI_add _ _) ?_
    refine k_Vi (As := [.int (nI (k + 2))]) (r := ((nI (Tq sg n (k + 2))) - (nI 48))) hF (c_X0_digitAt l g at9 sg n (by omega) hch (k + 2) (by omega)) (cwV 1 hts gX3_doEvent_X0_digitAt rfl rfl rfl (by decide +kernel) ⟨Nat.le_of_ble_eq_true rfl, Nat.le_of_ble_eq_true rfl⟩) hE hP hD hS hA (pm_5_2 _ _ _ _ _) ((pm_5_2 _ _ _ _ _).symm) 5 rfl rfl rfl rfl hl.1 rfl (Nat.le_of_ble_eq_true rfl) dX3_doEvent_18 ⟨Nat.le_of_ble_eq_true rfl, Nat.le_of_ble_eq_true rfl⟩ (fun H locs hP hD hS => ?_)
    have hP : va_P g.1 vwCl ((wU u (ah 0) (a0 0) (at9 0)) ++ ((wH g ah h) ++ ((wT g at9 (sg, (nI n))) ++ ((wK0 g a0 ak ((nI od), (nI sz))) ++ (wHs g ak hs 6))))) _ := hP
    have hD : va_D A ((wU u (ah 0) (a0 0) (at9 0)) ++ ((wH g ah h) ++ ((wT g at9 (sg, (nI n))) ++ ((wK0 g a0 ak ((nI od), (nI sz))) ++ (wHs g ak hs 6))))) := hD
    refine lv_istore_n (lv' := [(3, .int ((nI (Tq sg n (k + 2))) - (nI 48))), (2, .int (nI (Tq sg n (k + 1) - 48))), (0, .ref u), (1, .int (nI k))]) hx hb dX3_doEvent_21 rfl hl (by decide) rfl (fun ls hl => ?_)
    refine lv_aload_n hx hb dX3_doEvent_22 rfl (lv_at hl 2 rfl) ?_
    refine va_get (D := g.1) (ci := 3) (v := .ref (at9 0)) (C := RX3) (T := TX3) (N := 3) hx hb hts hiX3 hown hE.1 hP 0 rfl rfl 2 (by decide) f26 (fun _ h9 => h9) rfl dX3_doEvent_23 ?_
    refine lv_iload_n hx hb dX3_doEvent_26 rfl (lv_at hl 3 rfl) ?_
    refine k_Vi (As := [.int (nI k)]) (r := (nI (Tq sg n k))) hF (c_X0_signAt l g at9 sg n (by omega) hch k (by omega)) (cwV 1 hts gX3_doEvent_X0_signAt rfl rfl rfl (by decide +kernel) ⟨Nat.le_of_ble_eq_true rfl, Nat.le_of_ble_eq_true rfl⟩) hE hP hD hS hA (pm_5_2 _ _ _ _ _) ((pm_5_2 _ _ _ _ _).symm) 5 rfl rfl rfl rfl hl.1 rfl (Nat.le_of_ble_eq_true rfl) dX3_doEvent_27 ⟨Nat.le_of_ble_eq_true rfl, Nat.le_of_ble_eq_true rfl⟩ (fun H locs hP hD hS => ?_)
    have hP : va_P g.1 vwCl ((wU u (ah 0) (a0 0) (at9 0)) ++ ((wH g ah h) ++ ((wT g at9 (sg, (nI n))) ++ ((wK0 g a0 ak ((nI od), (nI sz))) ++ (wHs g ak hs 6))))) _ := hP
    have hD : va_D A ((wU u (ah 0) (a0 0) (at9 0)) ++ ((wH g ah h) ++ ((wT g at9 (sg, (nI n))) ++ ((wK0 g a0 ak ((nI od), (nI sz))) ++ (wHs g ak hs 6))))) := hD
    refine k_top (show nI (Tq sg n k) = nI 111 by rw [hq0]) ?_
    refine lv_lookup (off := 99) (tgt := 129) hx hb dX3_doEvent_30 (by decide) (by decide) (by decide) ?_
    refine lv_aload_n hx hb dX3_doEvent_129 rfl (lv_at hl 2 rfl) ?_
    refine va_get (D := g.1) (ci := 3) (v := .ref (ah 0)) (C := RX3) (T := TX3) (N := 3) hx hb hts hiX3 hown hE.1 hP 0 rfl rfl 0 (by decide) f12 (fun _ h9 => h9) rfl dX3_doEvent_130 ?_
    refine lv_iload_n hx hb dX3_doEvent_133 rfl (lv_at hl 1 rfl) ?_
    refine k_Vv (As := [.int (nI (Tq sg n (k + 1) - 48))]) hF (c_X1_turnRow l g ah h (Tq sg n (k + 1) - 48) (by omega)) (cwV 1 hts gX3_doEvent_X1_turnRow rfl rfl rfl (by decide +kernel) ⟨Nat.le_of_ble_eq_true rfl, Nat.le_of_ble_eq_true rfl⟩) hE hP hD hS hA (pm_5_1 _ _ _ _ _) ((pm_5_1 _ _ _ _ _).symm) 1 rfl rfl rfl rfl hl.1 rfl (Nat.le_of_ble_eq_true rfl) dX3_doEvent_134 ⟨Nat.le_of_ble_eq_true rfl, Nat.le_of_ble_eq_true rfl⟩ (fun H locs hP hD hS => ?_)
    have hP : va_P g.1 vwCl ((wU u (ah 0) (a0 0) (at9 0)) ++ ((wH g ah (Hturn (Tq sg n (k + 1) - 48) h)) ++ ((wT g at9 (sg, (nI n))) ++ ((wK0 g a0 ak ((nI od), (nI sz))) ++ (wHs g ak hs 6))))) _ := hP
    have hD : va_D A ((wU u (ah 0) (a0 0) (at9 0)) ++ ((wH g ah (Hturn (Tq sg n (k + 1) - 48) h)) ++ ((wT g at9 (sg, (nI n))) ++ ((wK0 g a0 ak ((nI od), (nI sz))) ++ (wHs g ak hs 6))))) := hD
    obtain ⟨z6, ez6⟩ : ∃ x : HSt, (Hturn (Tq sg n (k + 1) - 48) h) = x := ⟨_, rfl⟩
    rw [ez6] at hP hD
    refine lv_iconst (v := (nI 1)) hx hb dX3_doEvent_137 (by decide) ?_
    have e9 : Udo sg n k h = z6 := (by subst ez6; unfold Udo; rw [if_neg (show ¬ Tq sg n k = 99 by omega), if_neg (show ¬ Tq sg n k = 108 by omega), if_neg (show ¬ Tq sg n k = 115 by omega), if_neg (show ¬ Tq sg n k = 112 by omega), if_neg (show ¬ Tq sg n k = 116 by omega)]; try rfl)
    have hP : va_P g.1 vwCl ((wU u (ah 0) (a0 0) (at9 0)) ++ ((wH g ah (Udo sg n k h)) ++ ((wT g at9 (sg, (nI n))) ++ ((wK0 g a0 ak ((nI od), (nI sz))) ++ (wHs g ak hs 6))))) H := by rw [e9]; exact hP
    have hD : va_D A ((wU u (ah 0) (a0 0) (at9 0)) ++ ((wH g ah (Udo sg n k h)) ++ ((wT g at9 (sg, (nI n))) ++ ((wK0 g a0 ak ((nI od), (nI sz))) ++ (wHs g ak hs 6))))) := by rw [e9]; exact hD
    exact k_iret hx hb hr hlocks rfl (bI_t (UdoB_o (by omega) (by omega) (by omega))).symm hP hD hS (Nat.le_of_ble_eq_true rfl) (Nat.le_of_ble_eq_true rfl) dX3_doEvent_138
set_option maxHeartbeats 4000000 in
set_option maxRecDepth 100000 in
theorem c_X3_doEvents (l : Launch) (g : kG) (u : Nat) (ah at9 a0 : Nat → Nat) (ak : Nat → Nat → Nat) (h : HSt) (sg : Nat → Int32) (n : Nat) (hn : n ≤ 60) (hch : Tok sg n) (od sz : Nat) (hod : od < 6) (hsz : sz ≤ 6) (hs : Nat → HSt) (hbo : Hbo h) (hbs : ∀ j, Hbo (hs j)) (hev : ∀ k, k < n → (k = 0 ∨ Tq sg n (k - 1) = 59) → evOK sg n k) : KI l yX3_doEvents wsX3_doEvents ({ frames := 5, cells := 0, slots := 0, locals := 111 }) g [.ref u] ((wU u (ah 0) (a0 0) (at9 0)) ++ ((wH g ah h) ++ ((wT g at9 (sg, (nI n))) ++ ((wK0 g a0 ak ((nI od), (nI sz))) ++ (wHs g ak hs 6))))) (nI ((Ufin sg n 0 n h 0).2)) ((wU u (ah 0) (a0 0) (at9 0)) ++ ((wH g ah ((Ufin sg n 0 n h 0).1)) ++ ((wT g at9 (sg, (nI n))) ++ ((wK0 g a0 ak ((nI od), (nI sz))) ++ (wHs g ak hs 6))))) 0 0 := by
  refine k_begin (cc := cX3_doEvents) (maxL := 4) (ret := (some .int)) (Qc := fun A => kQi g (nI ((Ufin sg n 0 n h 0).2)) ((wU u (ah 0) (a0 0) (at9 0)) ++ ((wH g ah ((Ufin sg n 0 n h 0).1)) ++ ((wT g at9 (sg, (nI n))) ++ ((wK0 g a0 ak ((nI od), (nI sz))) ++ (wHs g ak hs 6))))) A) (by decide) rfl (Nat.le_of_ble_eq_true rfl) ?_
  intro p e s m below meth c A ls hF hr hlocks hin hE hP hD hS hA hl
  obtain ⟨hx, hb, hml, hown, hts⟩ := id hF
  have hown : s.vm.findClass RX3 = some m.cls := hown
  have hl : lv_has ls 4 [(0, .ref u)] := hl
  have hiX3 : ∀ w ∈ wsX30, w ∈ wsX3_doEvents := fun _ h => List.mem_cons_of_mem _ (List.mem_append_left _ (List.mem_append_left _ (List.mem_append_right _ (h))))
  have hiX0 : ∀ w ∈ wsX00, w ∈ wsX3_doEvents := fun _ h => List.mem_cons_of_mem _ (List.mem_append_left _ (List.mem_append_right _ (h)))
  have f26 : (Cond.fieldLink RX3 26 "ConcertUsher" "text" "LConcertUsher$EventText;").before _ s = true := hts _ (List.mem_of_getElem? (i := 1) rfl)
  have f160 : (Cond.fieldLink RX3 160 "ConcertUsher$EventText" "length" "I").before _ s = true := hts _ (List.mem_of_getElem? (i := 2) rfl)
  refine lv_iconst (v := (nI 0)) hx hb dX3_doEvents_0 (by decide) ?_
  refine lv_istore_n (lv' := [(1, .int (nI 0)), (0, .ref u)]) hx hb dX3_doEvents_1 rfl hl (by decide) rfl (fun ls hl => ?_)
  refine lv_aload_n hx hb dX3_doEvents_2 rfl (lv_at hl 1 rfl) ?_
  refine va_get (D := g.1) (ci := 3) (v := .ref (at9 0)) (C := RX3) (T := TX3) (N := 3) hx hb hts hiX3 hown hE.1 hP 0 rfl rfl 2 (by decide) f26 (fun _ h9 => h9) rfl dX3_doEvents_3 ?_
  refine va_get (D := g.1) (ci := 0) (v := .int (nI n)) (C := RX0) (T := TX0) (N := 2) hx hb hts hiX0 hown hE.1 hP 5 rfl rfl 1 (by decide) f160 (fun _ h9 => h9) rfl dX3_doEvents_6 ?_
  refine lv_istore_n (lv' := [(2, .int (nI n)), (1, .int (nI 0)), (0, .ref u)]) hx hb dX3_doEvents_9 rfl hl (by decide) rfl (fun ls hl => ?_)
  refine lv_iconst (v := (nI 0)) hx hb dX3_doEvents_10 (by decide) ?_
  refine lv_istore_n (lv' := [(3, .int (nI 0)), (2, .int (nI n)), (1, .int (nI 0)), (0, .ref u)]) hx hb dX3_doEvents_11 rfl hl (by decide) rfl (fun ls hl => ?_)
  refine k_loop (N := n) (Inv := fun (i : Nat) (H : Heap) (locs : List Loc) (ls : Array Slot) => ∃ (hi : HSt), ∃ (di : Nat), va_P g.1 vwCl ((wU u (ah 0) (a0 0) (at9 0)) ++ ((wH g ah hi) ++ ((wT g at9 (sg, (nI n))) ++ ((wK0 g a0 ak ((nI od), (nI sz))) ++ (wHs g ak hs 6))))) H ∧ va_D A ((wU u (ah 0) (a0 0) (at9 0)) ++ ((wH g ah hi) ++ ((wT g at9 (sg, (nI n))) ++ ((wK0 g a0 ak ((nI od), (nI sz))) ++ (wHs g ak hs 6))))) ∧ va_S A s.heap H locs ∧ lv_has ls 4 [(3, .int (nI i)), (2, .int (nI n)), (1, .int (nI di)), (0, .ref u)] ∧ (Ufin sg n 0 n h 0 = Ufin sg n i (n - i) hi di ∧ di ≤ i ∧ Hbo hi)) 0 (Nat.zero_le _) ⟨h, 0, hP, hD, hS, lv_sub hl [0, 1, 2, 3] rfl, ⟨rfl, Nat.le_refl 0, hbo⟩⟩ (fun i hle2 ih1 H locs ls hinv => ?_)
  obtain ⟨hi, di, hP, hD, hS, hl, hU⟩ := hinv
  refine lv_iload_n hx hb dX3_doEvents_12 rfl (lv_at hl 0 rfl) ?_
  refine lv_iload_n hx hb dX3_doEvents_13 rfl (lv_at hl 1 rfl) ?_
  refine k_geN (tgt := 47) hx hb (by omega) (by omega) dX3_doEvents_14 (by decide) (fun c3 => ?_) (fun c3 => ?_)
  ·
    obtain rfl : n = i := by omega
    refine lv_iload_n hx hb dX3_doEvents_47 rfl (lv_at hl 2 rfl) ?_
    have e8 : Ufin sg n 0 n h 0 = (hi, di) := by rw [hU.1, Nat.sub_self]; rfl
    have hP : va_P g.1 vwCl ((wU u (ah 0) (a0 0) (at9 0)) ++ ((wH g ah ((Ufin sg n 0 n h 0).1)) ++ ((wT g at9 (sg, (nI n))) ++ ((wK0 g a0 ak ((nI od), (nI sz))) ++ (wHs g ak hs 6))))) H := by rw [e8]; exact hP
    have hD : va_D A ((wU u (ah 0) (a0 0) (at9 0)) ++ ((wH g ah ((Ufin sg n 0 n h 0).1)) ++ ((wT g at9 (sg, (nI n))) ++ ((wK0 g a0 ak ((nI od), (nI sz))) ++ (wHs g ak hs 6))))) := by rw [e8]; exact hD
    exact k_iret hx hb hr hlocks rfl (by rw [e8]) hP hD hS (Nat.le_of_ble_eq_true rfl) (Nat.le_of_ble_eq_true rfl) dX3_doEvents_48
  ·
    refine lv_aload_n hx hb dX3_doEvents_17 rfl (lv_at hl 3 rfl) ?_
    refine va_get (D := g.1) (ci := 3) (v := .ref (at9 0)) (C := RX3) (T := TX3) (N := 3) hx hb hts hiX3 hown hE.1 hP 0 rfl rfl 2 (by decide) f26 (fun _ h9 => h9) rfl dX3_doEvents_18 ?_
    refine lv_iload_n hx hb dX3_doEvents_21 rfl (lv_at hl 0 rfl) ?_
    refine k_Vi (As := [.int (nI i)]) (r := (bI (i = 0 ∨ Tq sg n (i - 1) = 59))) hF (c_X0_startsEvent l g at9 sg n (by omega) hch i (by omega)) (cwV 1 hts gX3_doEvents_X0_startsEvent rfl rfl rfl (by decide +kernel) ⟨Nat.le_of_ble_eq_true rfl, Nat.le_of_ble_eq_true rfl⟩) hE hP hD hS hA (pm_5_2 _ _ _ _ _) ((pm_5_2 _ _ _ _ _).symm) 5 rfl rfl rfl rfl hl.1 rfl (Nat.le_of_ble_eq_true rfl) dX3_doEvents_22 ⟨Nat.le_of_ble_eq_true rfl, Nat.le_of_ble_eq_true rfl⟩ (fun H locs hP hD hS => ?_)
    have hP : va_P g.1 vwCl ((wU u (ah 0) (a0 0) (at9 0)) ++ ((wH g ah hi) ++ ((wT g at9 (sg, (nI n))) ++ ((wK0 g a0 ak ((nI od), (nI sz))) ++ (wHs g ak hs 6))))) _ := hP
    have hD : va_D A ((wU u (ah 0) (a0 0) (at9 0)) ++ ((wH g ah hi) ++ ((wT g at9 (sg, (nI n))) ++ ((wK0 g a0 ak ((nI od), (nI sz))) ++ (wHs g ak hs 6))))) := hD
    refine k_ifeqB (tgt := 41) hx hb dX3_doEvents_25 (by decide) (fun c4 => ?_) (fun c4 => ?_)
    ·
      refine lv_iinc (v := (nI (i + 1))) (lv' := [(3, .int (nI (i + 1))), (2, .int (nI n)), (1, .int (nI di)), (0, .ref u)]) hx hb dX3_doEvents_41 hl (k := 0) rfl (k_inc1 _) (by decide) rfl (fun ls hl => ?_)
      refine lv_goto (tgt := 12) hx hb dX3_doEvents_44 (by decide) ?_
      exact ih1 _ _ _ (by omega) ⟨hi, di, hP, hD, hS, lv_sub hl [0, 1, 2, 3] rfl, ⟨by rw [hU.1, Ufin_go ‹_›, if_neg c4], by have := hU.2.1; omega, hU.2.2⟩⟩
    ·
      refine lv_aload_n hx hb dX3_doEvents_28 rfl (lv_at hl 3 rfl) ?_
      refine lv_iload_n hx hb dX3_doEvents_29 rfl (lv_at hl 0 rfl) ?_
      refine k_Vi (As := [.int (nI i)]) (r := (bI (UdoB sg n i hi))) hF (c_X3_doEvent l g u ah at9 a0 ak hi sg n (by omega) hch od sz (by omega) (by omega) hs hU.2.2 hbs i (by omega) (hev _ ‹_› ‹_›)) (cwV 1 hts gX3_doEvents_X3_doEvent rfl rfl rfl (by decide +kernel) ⟨Nat.le_of_ble_eq_true rfl, Nat.le_of_ble_eq_true rfl⟩) hE hP hD hS hA (k_pall _) ((k_pall _).symm) 0 rfl rfl rfl rfl hl.1 rfl (Nat.le_of_ble_eq_true rfl) dX3_doEvents_30 ⟨Nat.le_of_ble_eq_true rfl, Nat.le_of_ble_eq_true rfl⟩ (fun H locs hP hD hS => ?_)
      have hP : va_P g.1 vwCl ((wU u (ah 0) (a0 0) (at9 0)) ++ ((wH g ah (Udo sg n i hi)) ++ ((wT g at9 (sg, (nI n))) ++ ((wK0 g a0 ak ((nI od), (nI sz))) ++ (wHs g ak hs 6))))) _ := hP
      have hD : va_D A ((wU u (ah 0) (a0 0) (at9 0)) ++ ((wH g ah (Udo sg n i hi)) ++ ((wT g at9 (sg, (nI n))) ++ ((wK0 g a0 ak ((nI od), (nI sz))) ++ (wHs g ak hs 6))))) := hD
      obtain ⟨z5, ez5⟩ : ∃ x : HSt, (Udo sg n i hi) = x := ⟨_, rfl⟩
      rw [ez5] at hP hD
      refine k_ifneB (tgt := 38) hx hb dX3_doEvents_33 (by decide) (fun c6 => ?_) (fun c6 => ?_)
      ·
        refine lv_iinc (v := (nI (di + 1))) (lv' := [(1, .int (nI (di + 1))), (3, .int (nI i)), (2, .int (nI n)), (0, .ref u)]) hx hb dX3_doEvents_38 hl (k := 2) rfl (k_inc1 _) (by decide) rfl (fun ls hl => ?_)
        refine lv_iinc (v := (nI (i + 1))) (lv' := [(3, .int (nI (i + 1))), (1, .int (nI (di + 1))), (2, .int (nI n)), (0, .ref u)]) hx hb dX3_doEvents_41 hl (k := 1) rfl (k_inc1 _) (by decide) rfl (fun ls hl => ?_)
        refine lv_goto (tgt := 12) hx hb dX3_doEvents_44 (by decide) ?_
        exact ih1 _ _ _ (by omega) ⟨z5, (di + 1), hP, hD, hS, lv_sub hl [0, 2, 1, 3] rfl, ⟨by rw [hU.1, Ufin_go ‹_›, if_pos c4, if_pos c6, ez5], by have := hU.2.1; omega, (by rw [← ez5]; exact Hbo_sm hU.2.2 (Udo_sm _ _ _ _))⟩⟩
      ·
        refine lv_iload_n hx hb dX3_doEvents_36 rfl (lv_at hl 2 rfl) ?_
        have e8 : Ufin sg n 0 n h 0 = (z5, di) := by rw [hU.1, Ufin_go ‹_›, if_pos c4, if_neg c6, ← ez5, Udo_id c6]
        have hP : va_P g.1 vwCl ((wU u (ah 0) (a0 0) (at9 0)) ++ ((wH g ah ((Ufin sg n 0 n h 0).1)) ++ ((wT g at9 (sg, (nI n))) ++ ((wK0 g a0 ak ((nI od), (nI sz))) ++ (wHs g ak hs 6))))) H := by rw [e8]; exact hP
        have hD : va_D A ((wU u (ah 0) (a0 0) (at9 0)) ++ ((wH g ah ((Ufin sg n 0 n h 0).1)) ++ ((wT g at9 (sg, (nI n))) ++ ((wK0 g a0 ak ((nI od), (nI sz))) ++ (wHs g ak hs 6))))) := by rw [e8]; exact hD
        exact k_iret hx hb hr hlocks rfl (by rw [e8]) hP hD hS (Nat.le_of_ble_eq_true rfl) (Nat.le_of_ble_eq_true rfl) dX3_doEvents_37
set_option maxHeartbeats 4000000 in
set_option maxRecDepth 100000 in
theorem c_X3_chief (l : Launch) (g : kG) (u : Nat) (ah at9 a0 : Nat → Nat) (ak : Nat → Nat → Nat) (h : HSt) (sg : Nat → Int32) (n : Nat) (hn : n ≤ 60) (hch : Tok sg n) (od sz : Nat) (hod : od < 6) (hsz : sz ≤ 6) (hs : Nat → HSt) (hbo : Hbo h) (hbs : ∀ j, Hbo (hs j)) : KI l yX3_chief wsX3_chief ({ frames := 1, cells := 0, slots := 0, locals := 20 }) g [.ref u] ((wU u (ah 0) (a0 0) (at9 0)) ++ ((wH g ah h) ++ ((wT g at9 (sg, (nI n))) ++ ((wK0 g a0 ak ((nI od), (nI sz))) ++ (wHs g ak hs 6))))) (Hchief h) ((wU u (ah 0) (a0 0) (at9 0)) ++ ((wH g ah h) ++ ((wT g at9 (sg, (nI n))) ++ ((wK0 g a0 ak ((nI od), (nI sz))) ++ (wHs g ak hs 6))))) 0 0 := by
  refine k_begin (cc := cX3_chief) (maxL := 1) (ret := (some .int)) (Qc := fun A => kQi g (Hchief h) ((wU u (ah 0) (a0 0) (at9 0)) ++ ((wH g ah h) ++ ((wT g at9 (sg, (nI n))) ++ ((wK0 g a0 ak ((nI od), (nI sz))) ++ (wHs g ak hs 6))))) A) (by decide) rfl (Nat.le_of_ble_eq_true rfl) ?_
  intro p e s m below meth c A ls hF hr hlocks hin hE hP hD hS hA hl
  obtain ⟨hx, hb, hml, hown, hts⟩ := id hF
  have hown : s.vm.findClass RX3 = some m.cls := hown
  have hl : lv_has ls 1 [(0, .ref u)] := hl
  have hiX3 : ∀ w ∈ wsX30, w ∈ wsX3_chief := fun _ h => List.mem_cons_of_mem _ (List.mem_append_left _ (List.mem_append_right _ (h)))
  have f12 : (Cond.fieldLink RX3 12 "ConcertUsher" "hall" "LConcertUsher$Hall;").before _ s = true := hts _ (List.mem_of_getElem? (i := 1) rfl)
  refine lv_aload_n hx hb dX3_chief_0 rfl (lv_at hl 0 rfl) ?_
  refine va_get (D := g.1) (ci := 3) (v := .ref (ah 0)) (C := RX3) (T := TX3) (N := 3) hx hb hts hiX3 hown hE.1 hP 0 rfl rfl 0 (by decide) f12 (fun _ h9 => h9) rfl dX3_chief_1 ?_
  refine k_Vi (As := []) (r := (Hchief h)) hF (c_X1_chiefAsker l g ah h) (cwV 0 hts gX3_chief_X1_chiefAsker rfl rfl rfl (by decide +kernel) ⟨Nat.le_of_ble_eq_true rfl, Nat.le_of_ble_eq_true rfl⟩) hE hP hD hS hA (pm_5_1 _ _ _ _ _) ((pm_5_1 _ _ _ _ _).symm) 1 rfl rfl rfl rfl hl.1 rfl (Nat.le_of_ble_eq_true rfl) dX3_chief_4 ⟨Nat.le_of_ble_eq_true rfl, Nat.le_of_ble_eq_true rfl⟩ (fun H locs hP hD hS => ?_)
  have hP : va_P g.1 vwCl ((wU u (ah 0) (a0 0) (at9 0)) ++ ((wH g ah h) ++ ((wT g at9 (sg, (nI n))) ++ ((wK0 g a0 ak ((nI od), (nI sz))) ++ (wHs g ak hs 6))))) _ := hP
  have hD : va_D A ((wU u (ah 0) (a0 0) (at9 0)) ++ ((wH g ah h) ++ ((wT g at9 (sg, (nI n))) ++ ((wK0 g a0 ak ((nI od), (nI sz))) ++ (wHs g ak hs 6))))) := hD
  have hP : va_P g.1 vwCl ((wU u (ah 0) (a0 0) (at9 0)) ++ ((wH g ah h) ++ ((wT g at9 (sg, (nI n))) ++ ((wK0 g a0 ak ((nI od), (nI sz))) ++ (wHs g ak hs 6))))) _ := hP
  have hD : va_D A ((wU u (ah 0) (a0 0) (at9 0)) ++ ((wH g ah h) ++ ((wT g at9 (sg, (nI n))) ++ ((wK0 g a0 ak ((nI od), (nI sz))) ++ (wHs g ak hs 6))))) := hD
  exact k_iret hx hb hr hlocks rfl rfl hP hD hS (Nat.le_of_ble_eq_true rfl) (Nat.le_of_ble_eq_true rfl) dX3_chief_7
set_option maxHeartbeats 4000000 in
set_option maxRecDepth 100000 in
theorem c_X3_entries (l : Launch) (g : kG) (u : Nat) (ah at9 a0 : Nat → Nat) (ak : Nat → Nat → Nat) (h : HSt) (sg : Nat → Int32) (n : Nat) (hn : n ≤ 60) (hch : Tok sg n) (od sz : Nat) (hod : od < 6) (hsz : sz ≤ 6) (hs : Nat → HSt) (hbo : Hbo h) (hbs : ∀ j, Hbo (hs j)) : KI l yX3_entries wsX3_entries ({ frames := 1, cells := 0, slots := 0, locals := 22 }) g [.ref u] ((wU u (ah 0) (a0 0) (at9 0)) ++ ((wH g ah h) ++ ((wT g at9 (sg, (nI n))) ++ ((wK0 g a0 ak ((nI od), (nI sz))) ++ (wHs g ak hs 6))))) (nI (Hent (hR h) 48)) ((wU u (ah 0) (a0 0) (at9 0)) ++ ((wH g ah h) ++ ((wT g at9 (sg, (nI n))) ++ ((wK0 g a0 ak ((nI od), (nI sz))) ++ (wHs g ak hs 6))))) 0 0 := by
  refine k_begin (cc := cX3_entries) (maxL := 1) (ret := (some .int)) (Qc := fun A => kQi g (nI (Hent (hR h) 48)) ((wU u (ah 0) (a0 0) (at9 0)) ++ ((wH g ah h) ++ ((wT g at9 (sg, (nI n))) ++ ((wK0 g a0 ak ((nI od), (nI sz))) ++ (wHs g ak hs 6))))) A) (by decide) rfl (Nat.le_of_ble_eq_true rfl) ?_
  intro p e s m below meth c A ls hF hr hlocks hin hE hP hD hS hA hl
  obtain ⟨hx, hb, hml, hown, hts⟩ := id hF
  have hown : s.vm.findClass RX3 = some m.cls := hown
  have hl : lv_has ls 1 [(0, .ref u)] := hl
  have hiX3 : ∀ w ∈ wsX30, w ∈ wsX3_entries := fun _ h => List.mem_cons_of_mem _ (List.mem_append_left _ (List.mem_append_right _ (h)))
  have f12 : (Cond.fieldLink RX3 12 "ConcertUsher" "hall" "LConcertUsher$Hall;").before _ s = true := hts _ (List.mem_of_getElem? (i := 1) rfl)
  refine lv_aload_n hx hb dX3_entries_0 rfl (lv_at hl 0 rfl) ?_
  refine va_get (D := g.1) (ci := 3) (v := .ref (ah 0)) (C := RX3) (T := TX3) (N := 3) hx hb hts hiX3 hown hE.1 hP 0 rfl rfl 0 (by decide) f12 (fun _ h9 => h9) rfl dX3_entries_1 ?_
  refine k_Vi (As := []) (r := (nI (Hent (hR h) 48))) hF (c_X1_entriesInAll l g ah h) (cwV 0 hts gX3_entries_X1_entriesInAll rfl rfl rfl (by decide +kernel) ⟨Nat.le_of_ble_eq_true rfl, Nat.le_of_ble_eq_true rfl⟩) hE hP hD hS hA (pm_5_1 _ _ _ _ _) ((pm_5_1 _ _ _ _ _).symm) 1 rfl rfl rfl rfl hl.1 rfl (Nat.le_of_ble_eq_true rfl) dX3_entries_4 ⟨Nat.le_of_ble_eq_true rfl, Nat.le_of_ble_eq_true rfl⟩ (fun H locs hP hD hS => ?_)
  have hP : va_P g.1 vwCl ((wU u (ah 0) (a0 0) (at9 0)) ++ ((wH g ah h) ++ ((wT g at9 (sg, (nI n))) ++ ((wK0 g a0 ak ((nI od), (nI sz))) ++ (wHs g ak hs 6))))) _ := hP
  have hD : va_D A ((wU u (ah 0) (a0 0) (at9 0)) ++ ((wH g ah h) ++ ((wT g at9 (sg, (nI n))) ++ ((wK0 g a0 ak ((nI od), (nI sz))) ++ (wHs g ak hs 6))))) := hD
  have hP : va_P g.1 vwCl ((wU u (ah 0) (a0 0) (at9 0)) ++ ((wH g ah h) ++ ((wT g at9 (sg, (nI n))) ++ ((wK0 g a0 ak ((nI od), (nI sz))) ++ (wHs g ak hs 6))))) _ := hP
  have hD : va_D A ((wU u (ah 0) (a0 0) (at9 0)) ++ ((wH g ah h) ++ ((wT g at9 (sg, (nI n))) ++ ((wK0 g a0 ak ((nI od), (nI sz))) ++ (wHs g ak hs 6))))) := hD
  exact k_iret hx hb hr hlocks rfl rfl hP hD hS (Nat.le_of_ble_eq_true rfl) (Nat.le_of_ble_eq_true rfl) dX3_entries_7
set_option maxHeartbeats 4000000 in
set_option maxRecDepth 100000 in
theorem c_X3_minutes (l : Launch) (g : kG) (u : Nat) (ah at9 a0 : Nat → Nat) (ak : Nat → Nat → Nat) (h : HSt) (sg : Nat → Int32) (n : Nat) (hn : n ≤ 60) (hch : Tok sg n) (od sz : Nat) (hod : od < 6) (hsz : sz ≤ 6) (hs : Nat → HSt) (hbo : Hbo h) (hbs : ∀ j, Hbo (hs j)) : KI l yX3_minutes wsX3_minutes ({ frames := 0, cells := 0, slots := 0, locals := 0 }) g [.ref u] ((wU u (ah 0) (a0 0) (at9 0)) ++ ((wH g ah h) ++ ((wT g at9 (sg, (nI n))) ++ ((wK0 g a0 ak ((nI od), (nI sz))) ++ (wHs g ak hs 6))))) (hmn h) ((wU u (ah 0) (a0 0) (at9 0)) ++ ((wH g ah h) ++ ((wT g at9 (sg, (nI n))) ++ ((wK0 g a0 ak ((nI od), (nI sz))) ++ (wHs g ak hs 6))))) 0 0 := by
  refine k_begin (cc := cX3_minutes) (maxL := 1) (ret := (some .int)) (Qc := fun A => kQi g (hmn h) ((wU u (ah 0) (a0 0) (at9 0)) ++ ((wH g ah h) ++ ((wT g at9 (sg, (nI n))) ++ ((wK0 g a0 ak ((nI od), (nI sz))) ++ (wHs g ak hs 6))))) A) (by decide) rfl (Nat.le_of_ble_eq_true rfl) ?_
  intro p e s m below meth c A ls hF hr hlocks hin hE hP hD hS hA hl
  obtain ⟨hx, hb, hml, hown, hts⟩ := id hF
  have hown : s.vm.findClass RX3 = some m.cls := hown
  have hl : lv_has ls 1 [(0, .ref u)] := hl
  have hiX3 : ∀ w ∈ wsX30, w ∈ wsX3_minutes := fun _ h => List.mem_cons_of_mem _ (List.mem_append_left _ (List.mem_append_right _ (h)))
  have hiX1 : ∀ w ∈ wsX10, w ∈ wsX3_minutes := fun _ h => List.mem_cons_of_mem _ (List.mem_append_right _ (h))
  have f12 : (Cond.fieldLink RX3 12 "ConcertUsher" "hall" "LConcertUsher$Hall;").before _ s = true := hts _ (List.mem_of_getElem? (i := 1) rfl)
  have f138 : (Cond.fieldLink RX3 138 "ConcertUsher$Hall" "minutes" "I").before _ s = true := hts _ (List.mem_of_getElem? (i := 2) rfl)
  refine lv_aload_n hx hb dX3_minutes_0 rfl (lv_at hl 0 rfl) ?_
  refine va_get (D := g.1) (ci := 3) (v := .ref (ah 0)) (C := RX3) (T := TX3) (N := 3) hx hb hts hiX3 hown hE.1 hP 0 rfl rfl 0 (by decide) f12 (fun _ h9 => h9) rfl dX3_minutes_1 ?_
  refine va_get (D := g.1) (ci := 1) (v := .int (hmn h)) (C := RX1) (T := TX1) (N := 12) hx hb hts hiX1 hown hE.1 hP 1 rfl rfl 10 (by decide) f138 (fun _ h9 => h9) rfl dX3_minutes_4 ?_
  have hP : va_P g.1 vwCl ((wU u (ah 0) (a0 0) (at9 0)) ++ ((wH g ah h) ++ ((wT g at9 (sg, (nI n))) ++ ((wK0 g a0 ak ((nI od), (nI sz))) ++ (wHs g ak hs 6))))) _ := hP
  have hD : va_D A ((wU u (ah 0) (a0 0) (at9 0)) ++ ((wH g ah h) ++ ((wT g at9 (sg, (nI n))) ++ ((wK0 g a0 ak ((nI od), (nI sz))) ++ (wHs g ak hs 6))))) := hD
  exact k_iret hx hb hr hlocks rfl rfl hP hD hS (Nat.le_of_ble_eq_true rfl) (Nat.le_of_ble_eq_true rfl) dX3_minutes_7
set_option maxHeartbeats 4000000 in
set_option maxRecDepth 100000 in
theorem c_X3_sinceQuestion (l : Launch) (g : kG) (u : Nat) (ah at9 a0 : Nat → Nat) (ak : Nat → Nat → Nat) (h : HSt) (sg : Nat → Int32) (n : Nat) (hn : n ≤ 60) (hch : Tok sg n) (od sz : Nat) (hod : od < 6) (hsz : sz ≤ 6) (hs : Nat → HSt) (hbo : Hbo h) (hbs : ∀ j, Hbo (hs j)) : KI l yX3_sinceQuestion wsX3_sinceQuestion ({ frames := 0, cells := 0, slots := 0, locals := 0 }) g [.ref u] ((wU u (ah 0) (a0 0) (at9 0)) ++ ((wH g ah h) ++ ((wT g at9 (sg, (nI n))) ++ ((wK0 g a0 ak ((nI od), (nI sz))) ++ (wHs g ak hs 6))))) (hsn h) ((wU u (ah 0) (a0 0) (at9 0)) ++ ((wH g ah h) ++ ((wT g at9 (sg, (nI n))) ++ ((wK0 g a0 ak ((nI od), (nI sz))) ++ (wHs g ak hs 6))))) 0 0 := by
  refine k_begin (cc := cX3_sinceQuestion) (maxL := 1) (ret := (some .int)) (Qc := fun A => kQi g (hsn h) ((wU u (ah 0) (a0 0) (at9 0)) ++ ((wH g ah h) ++ ((wT g at9 (sg, (nI n))) ++ ((wK0 g a0 ak ((nI od), (nI sz))) ++ (wHs g ak hs 6))))) A) (by decide) rfl (Nat.le_of_ble_eq_true rfl) ?_
  intro p e s m below meth c A ls hF hr hlocks hin hE hP hD hS hA hl
  obtain ⟨hx, hb, hml, hown, hts⟩ := id hF
  have hown : s.vm.findClass RX3 = some m.cls := hown
  have hl : lv_has ls 1 [(0, .ref u)] := hl
  have hiX3 : ∀ w ∈ wsX30, w ∈ wsX3_sinceQuestion := fun _ h => List.mem_cons_of_mem _ (List.mem_append_left _ (List.mem_append_right _ (h)))
  have hiX1 : ∀ w ∈ wsX10, w ∈ wsX3_sinceQuestion := fun _ h => List.mem_cons_of_mem _ (List.mem_append_right _ (h))
  have f12 : (Cond.fieldLink RX3 12 "ConcertUsher" "hall" "LConcertUsher$Hall;").before _ s = true := hts _ (List.mem_of_getElem? (i := 1) rfl)
  have f141 : (Cond.fieldLink RX3 141 "ConcertUsher$Hall" "sinceQuestion" "I").before _ s = true := hts _ (List.mem_of_getElem? (i := 2) rfl)
  refine lv_aload_n hx hb dX3_sinceQuestion_0 rfl (lv_at hl 0 rfl) ?_
  refine va_get (D := g.1) (ci := 3) (v := .ref (ah 0)) (C := RX3) (T := TX3) (N := 3) hx hb hts hiX3 hown hE.1 hP 0 rfl rfl 0 (by decide) f12 (fun _ h9 => h9) rfl dX3_sinceQuestion_1 ?_
  refine va_get (D := g.1) (ci := 1) (v := .int (hsn h)) (C := RX1) (T := TX1) (N := 12) hx hb hts hiX1 hown hE.1 hP 1 rfl rfl 11 (by decide) f141 (fun _ h9 => h9) rfl dX3_sinceQuestion_4 ?_
  have hP : va_P g.1 vwCl ((wU u (ah 0) (a0 0) (at9 0)) ++ ((wH g ah h) ++ ((wT g at9 (sg, (nI n))) ++ ((wK0 g a0 ak ((nI od), (nI sz))) ++ (wHs g ak hs 6))))) _ := hP
  have hD : va_D A ((wU u (ah 0) (a0 0) (at9 0)) ++ ((wH g ah h) ++ ((wT g at9 (sg, (nI n))) ++ ((wK0 g a0 ak ((nI od), (nI sz))) ++ (wHs g ak hs 6))))) := hD
  exact k_iret hx hb hr hlocks rfl rfl hP hD hS (Nat.le_of_ble_eq_true rfl) (Nat.le_of_ble_eq_true rfl) dX3_sinceQuestion_7
set_option maxHeartbeats 4000000 in
set_option maxRecDepth 100000 in
theorem c_X3_minutesToQuestion (l : Launch) (g : kG) (u : Nat) (ah at9 a0 : Nat → Nat) (ak : Nat → Nat → Nat) (h : HSt) (sg : Nat → Int32) (n : Nat) (hn : n ≤ 60) (hch : Tok sg n) (od sz : Nat) (hod : od < 6) (hsz : sz ≤ 6) (hs : Nat → HSt) (hbo : Hbo h) (hbs : ∀ j, Hbo (hs j)) : KI l yX3_minutesToQuestion wsX3_minutesToQuestion ({ frames := 3, cells := 0, slots := 0, locals := 60 }) g [.ref u] ((wU u (ah 0) (a0 0) (at9 0)) ++ ((wH g ah h) ++ ((wT g at9 (sg, (nI n))) ++ ((wK0 g a0 ak ((nI od), (nI sz))) ++ (wHs g ak hs 6))))) (HasksIn h) ((wU u (ah 0) (a0 0) (at9 0)) ++ ((wH g ah h) ++ ((wT g at9 (sg, (nI n))) ++ ((wK0 g a0 ak ((nI od), (nI sz))) ++ (wHs g ak hs 6))))) 0 0 := by
  refine k_begin (cc := cX3_minutesToQuestion) (maxL := 1) (ret := (some .int)) (Qc := fun A => kQi g (HasksIn h) ((wU u (ah 0) (a0 0) (at9 0)) ++ ((wH g ah h) ++ ((wT g at9 (sg, (nI n))) ++ ((wK0 g a0 ak ((nI od), (nI sz))) ++ (wHs g ak hs 6))))) A) (by decide) rfl (Nat.le_of_ble_eq_true rfl) ?_
  intro p e s m below meth c A ls hF hr hlocks hin hE hP hD hS hA hl
  obtain ⟨hx, hb, hml, hown, hts⟩ := id hF
  have hown : s.vm.findClass RX3 = some m.cls := hown
  have hl : lv_has ls 1 [(0, .ref u)] := hl
  have hiX3 : ∀ w ∈ wsX30, w ∈ wsX3_minutesToQuestion := fun _ h => List.mem_cons_of_mem _ (List.mem_append_left _ (List.mem_append_right _ (h)))
  have f12 : (Cond.fieldLink RX3 12 "ConcertUsher" "hall" "LConcertUsher$Hall;").before _ s = true := hts _ (List.mem_of_getElem? (i := 1) rfl)
  refine lv_aload_n hx hb dX3_minutesToQuestion_0 rfl (lv_at hl 0 rfl) ?_
  refine va_get (D := g.1) (ci := 3) (v := .ref (ah 0)) (C := RX3) (T := TX3) (N := 3) hx hb hts hiX3 hown hE.1 hP 0 rfl rfl 0 (by decide) f12 (fun _ h9 => h9) rfl dX3_minutesToQuestion_1 ?_
  refine k_Vi (As := []) (r := (HasksIn h)) hF (c_X1_asksIn l g ah h) (cwV 0 hts gX3_minutesToQuestion_X1_asksIn rfl rfl rfl (by decide +kernel) ⟨Nat.le_of_ble_eq_true rfl, Nat.le_of_ble_eq_true rfl⟩) hE hP hD hS hA (pm_5_1 _ _ _ _ _) ((pm_5_1 _ _ _ _ _).symm) 1 rfl rfl rfl rfl hl.1 rfl (Nat.le_of_ble_eq_true rfl) dX3_minutesToQuestion_4 ⟨Nat.le_of_ble_eq_true rfl, Nat.le_of_ble_eq_true rfl⟩ (fun H locs hP hD hS => ?_)
  have hP : va_P g.1 vwCl ((wU u (ah 0) (a0 0) (at9 0)) ++ ((wH g ah h) ++ ((wT g at9 (sg, (nI n))) ++ ((wK0 g a0 ak ((nI od), (nI sz))) ++ (wHs g ak hs 6))))) _ := hP
  have hD : va_D A ((wU u (ah 0) (a0 0) (at9 0)) ++ ((wH g ah h) ++ ((wT g at9 (sg, (nI n))) ++ ((wK0 g a0 ak ((nI od), (nI sz))) ++ (wHs g ak hs 6))))) := hD
  have hP : va_P g.1 vwCl ((wU u (ah 0) (a0 0) (at9 0)) ++ ((wH g ah h) ++ ((wT g at9 (sg, (nI n))) ++ ((wK0 g a0 ak ((nI od), (nI sz))) ++ (wHs g ak hs 6))))) _ := hP
  have hD : va_D A ((wU u (ah 0) (a0 0) (at9 0)) ++ ((wH g ah h) ++ ((wT g at9 (sg, (nI n))) ++ ((wK0 g a0 ak ((nI od), (nI sz))) ++ (wHs g ak hs 6))))) := hD
  exact k_iret hx hb hr hlocks rfl rfl hP hD hS (Nat.le_of_ble_eq_true rfl) (Nat.le_of_ble_eq_true rfl) dX3_minutesToQuestion_7
set_option maxHeartbeats 4000000 in
set_option maxRecDepth 100000 in
theorem c_X3_savedStates (l : Launch) (g : kG) (u : Nat) (ah at9 a0 : Nat → Nat) (ak : Nat → Nat → Nat) (h : HSt) (sg : Nat → Int32) (n : Nat) (hn : n ≤ 60) (hch : Tok sg n) (od sz : Nat) (hod : od < 6) (hsz : sz ≤ 6) (hs : Nat → HSt) (hbo : Hbo h) (hbs : ∀ j, Hbo (hs j)) : KI l yX3_savedStates wsX3_savedStates ({ frames := 0, cells := 0, slots := 0, locals := 0 }) g [.ref u] ((wU u (ah 0) (a0 0) (at9 0)) ++ ((wH g ah h) ++ ((wT g at9 (sg, (nI n))) ++ ((wK0 g a0 ak ((nI od), (nI sz))) ++ (wHs g ak hs 6))))) (nI sz) ((wU u (ah 0) (a0 0) (at9 0)) ++ ((wH g ah h) ++ ((wT g at9 (sg, (nI n))) ++ ((wK0 g a0 ak ((nI od), (nI sz))) ++ (wHs g ak hs 6))))) 0 0 := by
  refine k_begin (cc := cX3_savedStates) (maxL := 1) (ret := (some .int)) (Qc := fun A => kQi g (nI sz) ((wU u (ah 0) (a0 0) (at9 0)) ++ ((wH g ah h) ++ ((wT g at9 (sg, (nI n))) ++ ((wK0 g a0 ak ((nI od), (nI sz))) ++ (wHs g ak hs 6))))) A) (by decide) rfl (Nat.le_of_ble_eq_true rfl) ?_
  intro p e s m below meth c A ls hF hr hlocks hin hE hP hD hS hA hl
  obtain ⟨hx, hb, hml, hown, hts⟩ := id hF
  have hown : s.vm.findClass RX3 = some m.cls := hown
  have hl : lv_has ls 1 [(0, .ref u)] := hl
  have hiX3 : ∀ w ∈ wsX30, w ∈ wsX3_savedStates := fun _ h => List.mem_cons_of_mem _ (List.mem_append_left _ (List.mem_append_right _ (h)))
  have hiX2 : ∀ w ∈ wsX20, w ∈ wsX3_savedStates := fun _ h => List.mem_cons_of_mem _ (List.mem_append_right _ (h))
  have f19 : (Cond.fieldLink RX3 19 "ConcertUsher" "history" "LConcertUsher$History;").before _ s = true := hts _ (List.mem_of_getElem? (i := 1) rfl)
  have f181 : (Cond.fieldLink RX3 181 "ConcertUsher$History" "size" "I").before _ s = true := hts _ (List.mem_of_getElem? (i := 2) rfl)
  refine lv_aload_n hx hb dX3_savedStates_0 rfl (lv_at hl 0 rfl) ?_
  refine va_get (D := g.1) (ci := 3) (v := .ref (a0 0)) (C := RX3) (T := TX3) (N := 3) hx hb hts hiX3 hown hE.1 hP 0 rfl rfl 1 (by decide) f19 (fun _ h9 => h9) rfl dX3_savedStates_1 ?_
  refine va_get (D := g.1) (ci := 2) (v := .int (nI sz)) (C := RX2) (T := TX2) (N := 3) hx hb hts hiX2 hown hE.1 hP 7 rfl rfl 2 (by decide) f181 (fun _ h9 => h9) rfl dX3_savedStates_4 ?_
  have hP : va_P g.1 vwCl ((wU u (ah 0) (a0 0) (at9 0)) ++ ((wH g ah h) ++ ((wT g at9 (sg, (nI n))) ++ ((wK0 g a0 ak ((nI od), (nI sz))) ++ (wHs g ak hs 6))))) _ := hP
  have hD : va_D A ((wU u (ah 0) (a0 0) (at9 0)) ++ ((wH g ah h) ++ ((wT g at9 (sg, (nI n))) ++ ((wK0 g a0 ak ((nI od), (nI sz))) ++ (wHs g ak hs 6))))) := hD
  exact k_iret hx hb hr hlocks rfl rfl hP hD hS (Nat.le_of_ble_eq_true rfl) (Nat.le_of_ble_eq_true rfl) dX3_savedStates_7
set_option maxHeartbeats 4000000 in
set_option maxRecDepth 100000 in
theorem c_X3_clearText (l : Launch) (g : kG) (u : Nat) (ah at9 a0 : Nat → Nat) (ak : Nat → Nat → Nat) (h : HSt) (sg : Nat → Int32) (n : Nat) (hn : n ≤ 60) (hch : Tok sg n) (od sz : Nat) (hod : od < 6) (hsz : sz ≤ 6) (hs : Nat → HSt) (hbo : Hbo h) (hbs : ∀ j, Hbo (hs j)) : KI l yX3_clearText wsX3_clearText ({ frames := 0, cells := 0, slots := 0, locals := 0 }) g [.ref u] ((wU u (ah 0) (a0 0) (at9 0)) ++ ((wH g ah h) ++ ((wT g at9 (sg, (nI n))) ++ ((wK0 g a0 ak ((nI od), (nI sz))) ++ (wHs g ak hs 6))))) (nI n) ((wU u (ah 0) (a0 0) (at9 0)) ++ ((wH g ah h) ++ ((wT g at9 (sg, nI 0)) ++ ((wK0 g a0 ak ((nI od), (nI sz))) ++ (wHs g ak hs 6))))) 0 0 := by
  refine k_begin (cc := cX3_clearText) (maxL := 2) (ret := (some .int)) (Qc := fun A => kQi g (nI n) ((wU u (ah 0) (a0 0) (at9 0)) ++ ((wH g ah h) ++ ((wT g at9 (sg, nI 0)) ++ ((wK0 g a0 ak ((nI od), (nI sz))) ++ (wHs g ak hs 6))))) A) (by decide) rfl (Nat.le_of_ble_eq_true rfl) ?_
  intro p e s m below meth c A ls hF hr hlocks hin hE hP hD hS hA hl
  obtain ⟨hx, hb, hml, hown, hts⟩ := id hF
  have hown : s.vm.findClass RX3 = some m.cls := hown
  have hl : lv_has ls 2 [(0, .ref u)] := hl
  have hiX3 : ∀ w ∈ wsX30, w ∈ wsX3_clearText := fun _ h => List.mem_cons_of_mem _ (List.mem_append_left _ (List.mem_append_right _ (h)))
  have hiX0 : ∀ w ∈ wsX00, w ∈ wsX3_clearText := fun _ h => List.mem_cons_of_mem _ (List.mem_append_right _ (h))
  have f26 : (Cond.fieldLink RX3 26 "ConcertUsher" "text" "LConcertUsher$EventText;").before _ s = true := hts _ (List.mem_of_getElem? (i := 1) rfl)
  have f160 : (Cond.fieldLink RX3 160 "ConcertUsher$EventText" "length" "I").before _ s = true := hts _ (List.mem_of_getElem? (i := 2) rfl)
  refine lv_aload_n hx hb dX3_clearText_0 rfl (lv_at hl 0 rfl) ?_
  refine va_get (D := g.1) (ci := 3) (v := .ref (at9 0)) (C := RX3) (T := TX3) (N := 3) hx hb hts hiX3 hown hE.1 hP 0 rfl rfl 2 (by decide) f26 (fun _ h9 => h9) rfl dX3_clearText_1 ?_
  refine va_get (D := g.1) (ci := 0) (v := .int (nI n)) (C := RX0) (T := TX0) (N := 2) hx hb hts hiX0 hown hE.1 hP 5 rfl rfl 1 (by decide) f160 (fun _ h9 => h9) rfl dX3_clearText_4 ?_
  refine lv_istore_n (lv' := [(1, .int (nI n)), (0, .ref u)]) hx hb dX3_clearText_7 rfl hl (by decide) rfl (fun ls hl => ?_)
  refine lv_aload_n hx hb dX3_clearText_8 rfl (lv_at hl 1 rfl) ?_
  refine va_get (D := g.1) (ci := 3) (v := .ref (at9 0)) (C := RX3) (T := TX3) (N := 3) hx hb hts hiX3 hown hE.1 hP 0 rfl rfl 2 (by decide) f26 (fun _ h9 => h9) rfl dX3_clearText_9 ?_
  refine lv_iconst (v := (nI 0)) hx hb dX3_clearText_12 (by decide) ?_
  refine va_put (D := g.1) (ci := 0) (v := .int (nI 0)) (ty := .int) (C := RX0) (T := TX0) (N := 2) hx hb hts hiX0 tyX0 tyX0_ok nmX0 hown hE.1 hP hD hS 5 rfl rfl 1 (by decide) f160 (fun _ h9 => h9) rfl (tyX0_ok 1 (by decide)) rfl rfl (Nat.le_of_ble_eq_true rfl) dX3_clearText_13 (fun H locs hP hD hS => ?_)
  have hP : va_P g.1 vwCl ((wU u (ah 0) (a0 0) (at9 0)) ++ ((wH g ah h) ++ ((wT g at9 (sg, (nI 0))) ++ ((wK0 g a0 ak ((nI od), (nI sz))) ++ (wHs g ak hs 6))))) _ := hP
  have hD : va_D A ((wU u (ah 0) (a0 0) (at9 0)) ++ ((wH g ah h) ++ ((wT g at9 (sg, (nI 0))) ++ ((wK0 g a0 ak ((nI od), (nI sz))) ++ (wHs g ak hs 6))))) := hD
  refine lv_iload_n hx hb dX3_clearText_16 rfl (lv_at hl 0 rfl) ?_
  have hP : va_P g.1 vwCl ((wU u (ah 0) (a0 0) (at9 0)) ++ ((wH g ah h) ++ ((wT g at9 (sg, nI 0)) ++ ((wK0 g a0 ak ((nI od), (nI sz))) ++ (wHs g ak hs 6))))) _ := hP
  have hD : va_D A ((wU u (ah 0) (a0 0) (at9 0)) ++ ((wH g ah h) ++ ((wT g at9 (sg, nI 0)) ++ ((wK0 g a0 ak ((nI od), (nI sz))) ++ (wHs g ak hs 6))))) := hD
  exact k_iret hx hb hr hlocks rfl rfl hP hD hS (Nat.le_of_ble_eq_true rfl) (Nat.le_of_ble_eq_true rfl) dX3_clearText_17
set_option maxHeartbeats 4000000 in
set_option maxRecDepth 100000 in
theorem c_X3_firstError (l : Launch) (g : kG) (u : Nat) (ah at9 a0 : Nat → Nat) (ak : Nat → Nat → Nat) (h : HSt) (sg : Nat → Int32) (n : Nat) (hn : n ≤ 60) (hch : Tok sg n) (od sz : Nat) (hod : od < 6) (hsz : sz ≤ 6) (hs : Nat → HSt) (hbo : Hbo h) (hbs : ∀ j, Hbo (hs j)) : KI l yX3_firstError wsX3_firstError ({ frames := 4, cells := 0, slots := 0, locals := 85 }) g [.ref u] ((wU u (ah 0) (a0 0) (at9 0)) ++ ((wH g ah h) ++ ((wT g at9 (sg, (nI n))) ++ ((wK0 g a0 ak ((nI od), (nI sz))) ++ (wHs g ak hs 6))))) (nI (Tfw sg n 0 n)) ((wU u (ah 0) (a0 0) (at9 0)) ++ ((wH g ah h) ++ ((wT g at9 (sg, (nI n))) ++ ((wK0 g a0 ak ((nI od), (nI sz))) ++ (wHs g ak hs 6))))) 0 0 := by
  refine k_begin (cc := cX3_firstError) (maxL := 1) (ret := (some .int)) (Qc := fun A => kQi g (nI (Tfw sg n 0 n)) ((wU u (ah 0) (a0 0) (at9 0)) ++ ((wH g ah h) ++ ((wT g at9 (sg, (nI n))) ++ ((wK0 g a0 ak ((nI od), (nI sz))) ++ (wHs g ak hs 6))))) A) (by decide) rfl (Nat.le_of_ble_eq_true rfl) ?_
  intro p e s m below meth c A ls hF hr hlocks hin hE hP hD hS hA hl
  obtain ⟨hx, hb, hml, hown, hts⟩ := id hF
  have hown : s.vm.findClass RX3 = some m.cls := hown
  have hl : lv_has ls 1 [(0, .ref u)] := hl
  have hiX3 : ∀ w ∈ wsX30, w ∈ wsX3_firstError := fun _ h => List.mem_cons_of_mem _ (List.mem_append_left _ (List.mem_append_right _ (h)))
  have f26 : (Cond.fieldLink RX3 26 "ConcertUsher" "text" "LConcertUsher$EventText;").before _ s = true := hts _ (List.mem_of_getElem? (i := 1) rfl)
  refine lv_aload_n hx hb dX3_firstError_0 rfl (lv_at hl 0 rfl) ?_
  refine va_get (D := g.1) (ci := 3) (v := .ref (at9 0)) (C := RX3) (T := TX3) (N := 3) hx hb hts hiX3 hown hE.1 hP 0 rfl rfl 2 (by decide) f26 (fun _ h9 => h9) rfl dX3_firstError_1 ?_
  refine k_Vi (As := []) (r := (nI (Tfw sg n 0 n))) hF (c_X0_firstWrongSign l g at9 sg n (by omega) hch) (cwV 0 hts gX3_firstError_X0_firstWrongSign rfl rfl rfl (by decide +kernel) ⟨Nat.le_of_ble_eq_true rfl, Nat.le_of_ble_eq_true rfl⟩) hE hP hD hS hA (pm_5_2 _ _ _ _ _) ((pm_5_2 _ _ _ _ _).symm) 5 rfl rfl rfl rfl hl.1 rfl (Nat.le_of_ble_eq_true rfl) dX3_firstError_4 ⟨Nat.le_of_ble_eq_true rfl, Nat.le_of_ble_eq_true rfl⟩ (fun H locs hP hD hS => ?_)
  have hP : va_P g.1 vwCl ((wU u (ah 0) (a0 0) (at9 0)) ++ ((wH g ah h) ++ ((wT g at9 (sg, (nI n))) ++ ((wK0 g a0 ak ((nI od), (nI sz))) ++ (wHs g ak hs 6))))) _ := hP
  have hD : va_D A ((wU u (ah 0) (a0 0) (at9 0)) ++ ((wH g ah h) ++ ((wT g at9 (sg, (nI n))) ++ ((wK0 g a0 ak ((nI od), (nI sz))) ++ (wHs g ak hs 6))))) := hD
  have hP : va_P g.1 vwCl ((wU u (ah 0) (a0 0) (at9 0)) ++ ((wH g ah h) ++ ((wT g at9 (sg, (nI n))) ++ ((wK0 g a0 ak ((nI od), (nI sz))) ++ (wHs g ak hs 6))))) _ := hP
  have hD : va_D A ((wU u (ah 0) (a0 0) (at9 0)) ++ ((wH g ah h) ++ ((wT g at9 (sg, (nI n))) ++ ((wK0 g a0 ak ((nI od), (nI sz))) ++ (wHs g ak hs 6))))) := hD
  exact k_iret hx hb hr hlocks rfl rfl hP hD hS (Nat.le_of_ble_eq_true rfl) (Nat.le_of_ble_eq_true rfl) dX3_firstError_7
set_option maxHeartbeats 4000000 in
set_option maxRecDepth 100000 in
theorem c_X3_count (l : Launch) (hfl : l.stackTraces = false) (g : kG) (sa : Nat → Nat) (u : Nat) (ah at9 a0 : Nat → Nat) (ak : Nat → Nat → Nat) (h : HSt) (sg : Nat → Int32) (n : Nat) (hn : n ≤ 60) (hch : Tok sg n) (od sz : Nat) (hod : od < 6) (hsz : sz ≤ 6) (hs : Nat → HSt) (hbo : Hbo h) (hbs : ∀ j, Hbo (hs j)) (what : Int32) : KXI l yX3_count wsX3_count ({ frames := 6, cells := 1, slots := 6, locals := 90 }) g sa [.ref u, .int what] ((wU u (ah 0) (a0 0) (at9 0)) ++ ((wH g ah h) ++ ((wT g at9 (sg, (nI n))) ++ ((wK0 g a0 ak ((nI od), (nI sz))) ++ (wHs g ak hs 6))))) (cdCount what) EI (hC h what.toNatClampNeg) ((wU u (ah 0) (a0 0) (at9 0)) ++ ((wH g ah h) ++ ((wT g at9 (sg, (nI n))) ++ ((wK0 g a0 ak ((nI od), (nI sz))) ++ (wHs g ak hs 6))))) 1 6 := by
  refine k_beginX (cc := cX3_count) (maxL := 2) (ret := (some .int)) (Qc := fun A => kQxi g (cdCount what) (hC h what.toNatClampNeg) ((wU u (ah 0) (a0 0) (at9 0)) ++ ((wH g ah h) ++ ((wT g at9 (sg, (nI n))) ++ ((wK0 g a0 ak ((nI od), (nI sz))) ++ (wHs g ak hs 6))))) A) (XC := fun A => kXx g (cdCount what) EI ((wU u (ah 0) (a0 0) (at9 0)) ++ ((wH g ah h) ++ ((wT g at9 (sg, (nI n))) ++ ((wK0 g a0 ak ((nI od), (nI sz))) ++ (wHs g ak hs 6))))) A) (by decide) rfl (Nat.le_of_ble_eq_true rfl) ?_
  intro p e s m below meth c A ls hF hr hlocks hT hE hSt hZ hP hD hS hA hl
  obtain ⟨hx, hb, hml, hown, hts⟩ := id hF
  have hown : s.vm.findClass RX3 = some m.cls := hown
  have hl : lv_has ls 2 [(0, .ref u), (1, .int what)] := hl
  have hiX3 : ∀ w ∈ wsX30, w ∈ wsX3_count := fun _ h => List.mem_cons_of_mem _ (List.mem_append_left _ (List.mem_append_left _ (List.mem_append_right _ (h))))
  have hiX1 : ∀ w ∈ wsX10, w ∈ wsX3_count := fun _ h => List.mem_cons_of_mem _ (List.mem_append_left _ (List.mem_append_right _ (h)))
  have tcl101 : (Cond.classLink RX3 101 "java/lang/IndexOutOfBoundsException").before _ s = true := hts _ (List.mem_of_getElem? (i := 1) rfl)
  have tin101 : (Cond.initialized "java/lang/IndexOutOfBoundsException").before _ s = true := hts _ (List.mem_of_getElem? (i := 2) rfl)
  have tat105 : ∀ w ∈ vx_atS RX3 105 "java/lang/IndexOutOfBoundsException" ["java/lang/RuntimeException", "java/lang/Exception"], w.before _ s = true := vx_hat (B := [.castable "java/lang/IndexOutOfBoundsException" "java/lang/IndexOutOfBoundsException", .declares (Bundle.initS "java/lang/RuntimeException"), .declares (Bundle.initS "java/lang/Exception"), .declares (Bundle.initS Bundle.tN)]) (fun w h => hts w ((fun _ h => List.mem_cons_of_mem _ (List.mem_append_right _ (h))) w h)) (by decide +kernel) (vx_c (va_Nw.use rfl hSt.2.1.1) (vx_c (va_Nw.use rfl hSt.2.1.2.2.2.1) (vx_c (va_Nw.use rfl hSt.2.1.2.2.2.2.1) (vx_c (va_Nw.use rfl hSt.2.1.2.2.2.2.2) vx_n))))
  have f12 : (Cond.fieldLink RX3 12 "ConcertUsher" "hall" "LConcertUsher$Hall;").before _ s = true := hts _ (List.mem_of_getElem? (i := 3) rfl)
  have f146 : (Cond.fieldLink RX3 146 "ConcertUsher$Hall" "counts" "[I").before _ s = true := hts _ (List.mem_of_getElem? (i := 4) rfl)
  refine lv_iload_n hx hb dX3_count_0 rfl (lv_at hl 1 rfl) ?_
  refine lv_if_lt (tgt := 10) hx hb dX3_count_1 (by decide) (fun c1 => ?_) (fun c1 => ?_)
  ·
    have hcode : (cdCount what) = 1 := (by first | (simp only [cdCount, if_pos c1, if_neg (not_not_intro c1)]; done) | (simp only [cdCount, if_pos c1, if_neg (not_not_intro c1)]; rfl) | rfl | (simp [cdCount, if_pos c1, if_neg (not_not_intro c1)]; done))
    exact k_throw (i := 6) (cls := "java/lang/IndexOutOfBoundsException") hx hb hfl hown (by decide) tcl101 tin101 hSt rfl tat105 (by decide +kernel) hZ hP hD hS hA (hl.1.trans hml.symm) dX3_count_10 dX3_count_13 dX3_count_14 dX3_count_16 dX3_count_19 hT (Nat.le_of_ble_eq_true rfl) (Nat.le_of_ble_eq_true rfl) (Nat.le_of_ble_eq_true rfl) (Nat.le_of_ble_eq_true rfl) hlocks (Nat.le_of_ble_eq_true rfl) (Nat.le_of_ble_eq_true rfl) (by rw [hcode]; decide) (by rw [hcode]; rfl)
  ·
    refine lv_iload_n hx hb dX3_count_4 rfl (lv_at hl 1 rfl) ?_
    refine lv_bipush (v := (nI 6)) hx hb dX3_count_5 (by decide) ?_
    refine lv_icmp_lt (tgt := 20) hx hb dX3_count_7 (by decide) (fun c2 => ?_) (fun c2 => ?_)
    ·
      obtain ⟨q9, hq9, hq9e⟩ : ∃ k : Nat, k < 6 ∧ what = nI k := ck_nat (by decide) c1 c2
      have hq9c : what.toNatClampNeg = q9 := cl_eq hq9e (by omega)
      refine lv_aload_n hx hb dX3_count_20 rfl (lv_at hl 0 rfl) ?_
      refine va_get (D := g.1) (ci := 3) (v := .ref (ah 0)) (C := RX3) (T := TX3) (N := 3) hx hb hts hiX3 hown hE.1 hP 0 rfl rfl 0 (by decide) f12 (fun _ h9 => h9) rfl dX3_count_21 ?_
      refine va_get (D := g.1) (ci := 1) (v := .ref (ah 3)) (C := RX1) (T := TX1) (N := 12) hx hb hts hiX1 hown hE.1 hP 1 rfl rfl 2 (by decide) f146 (fun _ h9 => h9) rfl dX3_count_24 ?_
      refine lv_iload_n hx hb dX3_count_27 rfl (lv_at hl 1 rfl) ?_
      refine k_top hq9e ?_
      refine k_iald (f := (hC h)) hx hb hE hP 4 rfl q9 rfl (by omega) (by decide) dX3_count_28 ?_
      have hcode : (cdCount what) = 0 := (by first | (first | (simp only [cdCount, if_neg c1, if_pos c1, if_pos c2, if_neg (not_not_intro c2), hq9c]; done) | (simp only [cdCount, if_neg c1, if_pos c1, if_pos c2, if_neg (not_not_intro c2), hq9c]; rfl) | rfl | (simp [cdCount, if_neg c1, if_pos c1, if_pos c2, if_neg (not_not_intro c2), hq9c]; done)) | (first | (simp only [cdCount, if_neg c1, if_pos c1, if_pos c2, if_neg (not_not_intro c2)]; done) | (simp only [cdCount, if_neg c1, if_pos c1, if_pos c2, if_neg (not_not_intro c2)]; rfl) | rfl | (simp [cdCount, if_neg c1, if_pos c1, if_pos c2, if_neg (not_not_intro c2)]; done)))
      have hP : va_P g.1 vwCl ((wU u (ah 0) (a0 0) (at9 0)) ++ ((wH g ah h) ++ ((wT g at9 (sg, (nI n))) ++ ((wK0 g a0 ak ((nI od), (nI sz))) ++ (wHs g ak hs 6))))) _ := hP
      have hD : va_D A ((wU u (ah 0) (a0 0) (at9 0)) ++ ((wH g ah h) ++ ((wT g at9 (sg, (nI n))) ++ ((wK0 g a0 ak ((nI od), (nI sz))) ++ (wHs g ak hs 6))))) := hD
      exact k_xiret hx hb hr hlocks rfl hcode (by first | (simp only [bI, if_neg c1, if_pos c1, if_pos c2, if_neg (not_not_intro c2), hq9c]; done) | (simp only [bI, if_neg c1, if_pos c1, if_pos c2, if_neg (not_not_intro c2), hq9c]; rfl) | rfl | (simp [bI, if_neg c1, if_pos c1, if_pos c2, if_neg (not_not_intro c2), hq9c]; done)) hP hD hS (Nat.le_of_ble_eq_true rfl) (Nat.le_of_ble_eq_true rfl) dX3_count_29
    ·
      have hcode : (cdCount what) = 1 := (by first | (simp only [cdCount, if_neg c1, if_pos c1, if_neg c2, if_pos c2]; done) | (simp only [cdCount, if_neg c1, if_pos c1, if_neg c2, if_pos c2]; rfl) | rfl | (simp [cdCount, if_neg c1, if_pos c1, if_neg c2, if_pos c2]; done))
      exact k_throw (i := 6) (cls := "java/lang/IndexOutOfBoundsException") hx hb hfl hown (by decide) tcl101 tin101 hSt rfl tat105 (by decide +kernel) hZ hP hD hS hA (hl.1.trans hml.symm) dX3_count_10 dX3_count_13 dX3_count_14 dX3_count_16 dX3_count_19 hT (Nat.le_of_ble_eq_true rfl) (Nat.le_of_ble_eq_true rfl) (Nat.le_of_ble_eq_true rfl) (Nat.le_of_ble_eq_true rfl) hlocks (Nat.le_of_ble_eq_true rfl) (Nat.le_of_ble_eq_true rfl) (by rw [hcode]; decide) (by rw [hcode]; rfl)
set_option maxHeartbeats 4000000 in
set_option maxRecDepth 100000 in
theorem c_X3_disturbedAfter (l : Launch) (hfl : l.stackTraces = false) (g : kG) (sa : Nat → Nat) (u : Nat) (ah at9 a0 : Nat → Nat) (ak : Nat → Nat → Nat) (h : HSt) (sg : Nat → Int32) (n : Nat) (hn : n ≤ 60) (hch : Tok sg n) (od sz : Nat) (hod : od < 6) (hsz : sz ≤ 6) (hs : Nat → HSt) (hbo : Hbo h) (hbs : ∀ j, Hbo (hs j)) (con mins : Int32) : KXI l yX3_disturbedAfter wsX3_disturbedAfter ({ frames := 7, cells := 2, slots := 12, locals := 110 }) g sa [.ref u, .int con, .int mins] ((wU u (ah 0) (a0 0) (at9 0)) ++ ((wH g ah h) ++ ((wT g at9 (sg, (nI n))) ++ ((wK0 g a0 ak ((nI od), (nI sz))) ++ (wHs g ak hs 6))))) (cdDist con mins) EIA (nI (Hdist h con.toNatClampNeg mins.toNatClampNeg 8)) ((wU u (ah 0) (a0 0) (at9 0)) ++ ((wH g ah h) ++ ((wT g at9 (sg, (nI n))) ++ ((wK0 g a0 ak ((nI od), (nI sz))) ++ (wHs g ak hs 6))))) 2 12 := by
  refine k_beginX (cc := cX3_disturbedAfter) (maxL := 3) (ret := (some .int)) (Qc := fun A => kQxi g (cdDist con mins) (nI (Hdist h con.toNatClampNeg mins.toNatClampNeg 8)) ((wU u (ah 0) (a0 0) (at9 0)) ++ ((wH g ah h) ++ ((wT g at9 (sg, (nI n))) ++ ((wK0 g a0 ak ((nI od), (nI sz))) ++ (wHs g ak hs 6))))) A) (XC := fun A => kXx g (cdDist con mins) EIA ((wU u (ah 0) (a0 0) (at9 0)) ++ ((wH g ah h) ++ ((wT g at9 (sg, (nI n))) ++ ((wK0 g a0 ak ((nI od), (nI sz))) ++ (wHs g ak hs 6))))) A) (by decide) rfl (Nat.le_of_ble_eq_true rfl) ?_
  intro p e s m below meth c A ls hF hr hlocks hT hE hSt hZ hP hD hS hA hl
  obtain ⟨hx, hb, hml, hown, hts⟩ := id hF
  have hown : s.vm.findClass RX3 = some m.cls := hown
  have hl : lv_has ls 3 [(0, .ref u), (1, .int con), (2, .int mins)] := hl
  have hiX3 : ∀ w ∈ wsX30, w ∈ wsX3_disturbedAfter := fun _ h => List.mem_cons_of_mem _ (List.mem_append_left _ (List.mem_append_left _ (List.mem_append_left _ (List.mem_append_right _ (h)))))
  have f12 : (Cond.fieldLink RX3 12 "ConcertUsher" "hall" "LConcertUsher$Hall;").before _ s = true := hts _ (List.mem_of_getElem? (i := 1) rfl)
  refine lv_iload_n hx hb dX3_disturbedAfter_0 rfl (lv_at hl 1 rfl) ?_
  refine k_XSv (As := [.int con]) (w0 := []) (wr := ((wU u (ah 0) (a0 0) (at9 0)) ++ ((wH g ah h) ++ ((wT g at9 (sg, (nI n))) ++ ((wK0 g a0 ak ((nI od), (nI sz))) ++ (wHs g ak hs 6)))))) hF (c_X3_checkConcert l hfl g sa con) (va_cwS 1 hts gX3_disturbedAfter_X3_checkConcert rfl rfl rfl (by decide +kernel) ⟨Nat.le_of_ble_eq_true rfl, Nat.le_of_ble_eq_true rfl⟩) hE hSt hZ hP hD hS hA (List.Perm.refl _) rfl hl.1 rfl (Nat.le_of_ble_eq_true rfl) dX3_disturbedAfter_1 ⟨Nat.le_of_ble_eq_true rfl, Nat.le_of_ble_eq_true rfl⟩ hT hlocks (Nat.le_of_ble_eq_true rfl) (Nat.le_of_ble_eq_true rfl) (fun h9 => by have h8 : (cdDist con mins) = 1 := (by first | rfl | (simp only [cdDist, if_neg h9]; done) | (simp only [cdDist, if_neg h9]; rfl) | (simp [cdDist, if_neg h9]; done)); exact ⟨by rw [h8]; decide, by rw [h8]; rfl⟩) (fun H locs hk1 hP hD hS => ?_)
  obtain ⟨k2, hk3, hk1e⟩ := ckC_ok hk1
  have hk1c : con.toNatClampNeg = k2 := cl_eq hk1e (by omega)
  refine lv_iload_n hx hb dX3_disturbedAfter_4 rfl (lv_at hl 2 rfl) ?_
  refine k_XSv (As := [.int mins]) (w0 := []) (wr := ((wU u (ah 0) (a0 0) (at9 0)) ++ ((wH g ah h) ++ ((wT g at9 (sg, (nI n))) ++ ((wK0 g a0 ak ((nI od), (nI sz))) ++ (wHs g ak hs 6)))))) hF (c_X3_checkMinutes l hfl g sa mins) (va_cwS 1 hts gX3_disturbedAfter_X3_checkMinutes rfl rfl rfl (by decide +kernel) ⟨Nat.le_of_ble_eq_true rfl, Nat.le_of_ble_eq_true rfl⟩) hE hSt hZ hP hD hS hA (List.Perm.refl _) rfl hl.1 rfl (Nat.le_of_ble_eq_true rfl) dX3_disturbedAfter_5 ⟨Nat.le_of_ble_eq_true rfl, Nat.le_of_ble_eq_true rfl⟩ hT hlocks (Nat.le_of_ble_eq_true rfl) (Nat.le_of_ble_eq_true rfl) (fun h9 => by have h8 : (cdDist con mins) = 2 := (by first | (simp only [cdDist, if_neg h9, if_pos hk1, if_neg (not_not_intro hk1), hk1c]; done) | (simp only [cdDist, if_neg h9, if_pos hk1, if_neg (not_not_intro hk1), hk1c]; rfl) | rfl | (simp [cdDist, if_neg h9, if_pos hk1, if_neg (not_not_intro hk1), hk1c]; done)); exact ⟨by rw [h8]; decide, by rw [h8]; rfl⟩) (fun H locs hk4 hP hD hS => ?_)
  obtain ⟨k5, hk6, hk4e⟩ := ckM_ok hk4
  have hk4c : mins.toNatClampNeg = k5 := cl_eq hk4e (by omega)
  refine lv_aload_n hx hb dX3_disturbedAfter_8 rfl (lv_at hl 0 rfl) ?_
  refine va_get (D := g.1) (ci := 3) (v := .ref (ah 0)) (C := RX3) (T := TX3) (N := 3) hx hb hts hiX3 hown hE.1 hP 0 rfl rfl 0 (by decide) f12 (fun _ h9 => h9) rfl dX3_disturbedAfter_9 ?_
  refine lv_iload_n hx hb dX3_disturbedAfter_12 rfl (lv_at hl 1 rfl) ?_
  refine k_top hk1e ?_
  refine lv_iload_n hx hb dX3_disturbedAfter_13 rfl (lv_at hl 2 rfl) ?_
  refine k_top hk4e ?_
  refine k_Vi (As := [.int (nI k2), .int (nI k5)]) (r := (nI (Hdist h k2 k5 8))) hF (c_X1_disturbedIn l g ah h k2 (by omega) k5 (by omega)) (cwV 2 hts gX3_disturbedAfter_X1_disturbedIn rfl rfl rfl (by decide +kernel) ⟨Nat.le_of_ble_eq_true rfl, Nat.le_of_ble_eq_true rfl⟩) hE hP hD hS hA (pm_5_1 _ _ _ _ _) ((pm_5_1 _ _ _ _ _).symm) 1 rfl rfl rfl rfl hl.1 rfl (Nat.le_of_ble_eq_true rfl) dX3_disturbedAfter_14 ⟨Nat.le_of_ble_eq_true rfl, Nat.le_of_ble_eq_true rfl⟩ (fun H locs hP hD hS => ?_)
  have hP : va_P g.1 vwCl ((wU u (ah 0) (a0 0) (at9 0)) ++ ((wH g ah h) ++ ((wT g at9 (sg, (nI n))) ++ ((wK0 g a0 ak ((nI od), (nI sz))) ++ (wHs g ak hs 6))))) _ := hP
  have hD : va_D A ((wU u (ah 0) (a0 0) (at9 0)) ++ ((wH g ah h) ++ ((wT g at9 (sg, (nI n))) ++ ((wK0 g a0 ak ((nI od), (nI sz))) ++ (wHs g ak hs 6))))) := hD
  have hcode : (cdDist con mins) = 0 := (by first | (first | (simp only [cdDist, if_pos hk1, if_neg (not_not_intro hk1), if_pos hk4, if_neg (not_not_intro hk4), hk1c, hk4c]; done) | (simp only [cdDist, if_pos hk1, if_neg (not_not_intro hk1), if_pos hk4, if_neg (not_not_intro hk4), hk1c, hk4c]; rfl) | rfl | (simp [cdDist, if_pos hk1, if_neg (not_not_intro hk1), if_pos hk4, if_neg (not_not_intro hk4), hk1c, hk4c]; done)) | (first | (simp only [cdDist, if_pos hk1, if_neg (not_not_intro hk1), if_pos hk4, if_neg (not_not_intro hk4)]; done) | (simp only [cdDist, if_pos hk1, if_neg (not_not_intro hk1), if_pos hk4, if_neg (not_not_intro hk4)]; rfl) | rfl | (simp [cdDist, if_pos hk1, if_neg (not_not_intro hk1), if_pos hk4, if_neg (not_not_intro hk4)]; done)))
  have hP : va_P g.1 vwCl ((wU u (ah 0) (a0 0) (at9 0)) ++ ((wH g ah h) ++ ((wT g at9 (sg, (nI n))) ++ ((wK0 g a0 ak ((nI od), (nI sz))) ++ (wHs g ak hs 6))))) _ := hP
  have hD : va_D A ((wU u (ah 0) (a0 0) (at9 0)) ++ ((wH g ah h) ++ ((wT g at9 (sg, (nI n))) ++ ((wK0 g a0 ak ((nI od), (nI sz))) ++ (wHs g ak hs 6))))) := hD
  exact k_xiret hx hb hr hlocks rfl hcode (by first | (simp only [bI, if_pos hk1, if_neg (not_not_intro hk1), if_pos hk4, if_neg (not_not_intro hk4), hk1c, hk4c]; done) | (simp only [bI, if_pos hk1, if_neg (not_not_intro hk1), if_pos hk4, if_neg (not_not_intro hk4), hk1c, hk4c]; rfl) | rfl | (simp [bI, if_pos hk1, if_neg (not_not_intro hk1), if_pos hk4, if_neg (not_not_intro hk4), hk1c, hk4c]; done)) hP hD hS (Nat.le_of_ble_eq_true rfl) (Nat.le_of_ble_eq_true rfl) dX3_disturbedAfter_17
set_option maxHeartbeats 4000000 in
set_option maxRecDepth 100000 in
theorem c_X3_append (l : Launch) (hfl : l.stackTraces = false) (g : kG) (sa : Nat → Nat) (u : Nat) (ah at9 a0 : Nat → Nat) (ak : Nat → Nat → Nat) (h : HSt) (sg : Nat → Int32) (n : Nat) (hn : n ≤ 60) (hch : Tok sg n) (od sz : Nat) (hod : od < 6) (hsz : sz ≤ 6) (hs : Nat → HSt) (hbo : Hbo h) (hbs : ∀ j, Hbo (hs j)) (x : Int32) : KXI l yX3_append wsX3_append ({ frames := 6, cells := 1, slots := 6, locals := 90 }) g sa [.ref u, .int x] ((wU u (ah 0) (a0 0) (at9 0)) ++ ((wH g ah h) ++ ((wT g at9 (sg, (nI n))) ++ ((wK0 g a0 ak ((nI od), (nI sz))) ++ (wHs g ak hs 6))))) (cdApp n x) EAS (nI (n + 1)) ((wU u (ah 0) (a0 0) (at9 0)) ++ ((wH g ah h) ++ ((wT g at9 (upd sg n x, nI (n + 1))) ++ ((wK0 g a0 ak ((nI od), (nI sz))) ++ (wHs g ak hs 6))))) 1 6 := by
  refine k_beginX (cc := cX3_append) (maxL := 2) (ret := (some .int)) (Qc := fun A => kQxi g (cdApp n x) (nI (n + 1)) ((wU u (ah 0) (a0 0) (at9 0)) ++ ((wH g ah h) ++ ((wT g at9 (upd sg n x, nI (n + 1))) ++ ((wK0 g a0 ak ((nI od), (nI sz))) ++ (wHs g ak hs 6))))) A) (XC := fun A => kXx g (cdApp n x) EAS ((wU u (ah 0) (a0 0) (at9 0)) ++ ((wH g ah h) ++ ((wT g at9 (sg, (nI n))) ++ ((wK0 g a0 ak ((nI od), (nI sz))) ++ (wHs g ak hs 6))))) A) (by decide) rfl (Nat.le_of_ble_eq_true rfl) ?_
  intro p e s m below meth c A ls hF hr hlocks hT hE hSt hZ hP hD hS hA hl
  obtain ⟨hx, hb, hml, hown, hts⟩ := id hF
  have hown : s.vm.findClass RX3 = some m.cls := hown
  have hl : lv_has ls 2 [(0, .ref u), (1, .int x)] := hl
  have hiX3 : ∀ w ∈ wsX30, w ∈ wsX3_append := fun _ h => List.mem_cons_of_mem _ (List.mem_append_left _ (List.mem_append_left _ (List.mem_append_left _ (List.mem_append_right _ (h)))))
  have hiX0 : ∀ w ∈ wsX00, w ∈ wsX3_append := fun _ h => List.mem_cons_of_mem _ (List.mem_append_left _ (List.mem_append_left _ (List.mem_append_right _ (h))))
  have tcl82 : (Cond.classLink RX3 82 "java/lang/IllegalArgumentException").before _ s = true := hts _ (List.mem_of_getElem? (i := 1) rfl)
  have tin82 : (Cond.initialized "java/lang/IllegalArgumentException").before _ s = true := hts _ (List.mem_of_getElem? (i := 2) rfl)
  have tat86 : ∀ w ∈ vx_atS RX3 86 "java/lang/IllegalArgumentException" ["java/lang/RuntimeException", "java/lang/Exception"], w.before _ s = true := vx_hat (B := [.castable "java/lang/IllegalArgumentException" "java/lang/IllegalArgumentException", .declares (Bundle.initS "java/lang/RuntimeException"), .declares (Bundle.initS "java/lang/Exception"), .declares (Bundle.initS Bundle.tN)]) (fun w h => hts w ((fun _ h => List.mem_cons_of_mem _ (List.mem_append_left _ (List.mem_append_right _ (h)))) w h)) (by decide +kernel) (vx_c (va_Nw.use rfl hSt.2.1.2.2.1) (vx_c (va_Nw.use rfl hSt.2.1.2.2.2.1) (vx_c (va_Nw.use rfl hSt.2.1.2.2.2.2.1) (vx_c (va_Nw.use rfl hSt.2.1.2.2.2.2.2) vx_n))))
  have f26 : (Cond.fieldLink RX3 26 "ConcertUsher" "text" "LConcertUsher$EventText;").before _ s = true := hts _ (List.mem_of_getElem? (i := 5) rfl)
  have f160 : (Cond.fieldLink RX3 160 "ConcertUsher$EventText" "length" "I").before _ s = true := hts _ (List.mem_of_getElem? (i := 6) rfl)
  have tcl45 : (Cond.classLink RX3 45 "java/lang/IllegalStateException").before _ s = true := hts _ (List.mem_of_getElem? (i := 3) rfl)
  have tin45 : (Cond.initialized "java/lang/IllegalStateException").before _ s = true := hts _ (List.mem_of_getElem? (i := 4) rfl)
  have tat49 : ∀ w ∈ vx_atS RX3 49 "java/lang/IllegalStateException" ["java/lang/RuntimeException", "java/lang/Exception"], w.before _ s = true := vx_hat (B := [.castable "java/lang/IllegalStateException" "java/lang/IllegalStateException", .declares (Bundle.initS "java/lang/RuntimeException"), .declares (Bundle.initS "java/lang/Exception"), .declares (Bundle.initS Bundle.tN)]) (fun w h => hts w ((fun _ h => List.mem_cons_of_mem _ (List.mem_append_right _ (h))) w h)) (by decide +kernel) (vx_c (va_Nw.use rfl hSt.2.1.2.1) (vx_c (va_Nw.use rfl hSt.2.1.2.2.2.1) (vx_c (va_Nw.use rfl hSt.2.1.2.2.2.2.1) (vx_c (va_Nw.use rfl hSt.2.1.2.2.2.2.2) vx_n))))
  refine lv_iload_n hx hb dX3_append_0 rfl (lv_at hl 1 rfl) ?_
  refine lv_bipush (v := (nI 33)) hx hb dX3_append_1 (by decide) ?_
  refine lv_icmp_lt (tgt := 12) hx hb dX3_append_3 (by decide) (fun c1 => ?_) (fun c1 => ?_)
  ·
    have hcode : (cdApp n x) = 1 := (by first | (simp only [cdApp, if_pos c1, if_neg (not_not_intro c1)]; done) | (simp only [cdApp, if_pos c1, if_neg (not_not_intro c1)]; rfl) | rfl | (simp [cdApp, if_pos c1, if_neg (not_not_intro c1)]; done))
    exact k_throw (i := 7) (cls := "java/lang/IllegalArgumentException") hx hb hfl hown (by decide) tcl82 tin82 hSt rfl tat86 (by decide +kernel) hZ hP hD hS hA (hl.1.trans hml.symm) dX3_append_12 dX3_append_15 dX3_append_16 dX3_append_18 dX3_append_21 hT (Nat.le_of_ble_eq_true rfl) (Nat.le_of_ble_eq_true rfl) (Nat.le_of_ble_eq_true rfl) (Nat.le_of_ble_eq_true rfl) hlocks (Nat.le_of_ble_eq_true rfl) (Nat.le_of_ble_eq_true rfl) (by rw [hcode]; decide) (by rw [hcode]; rfl)
  ·
    refine lv_iload_n hx hb dX3_append_6 rfl (lv_at hl 1 rfl) ?_
    refine lv_bipush (v := (nI 126)) hx hb dX3_append_7 (by decide) ?_
    refine lv_icmp_le (tgt := 22) hx hb dX3_append_9 (by decide) (fun c2 => ?_) (fun c2 => ?_)
    ·
      obtain ⟨q9, hq9, hq9e⟩ := app_nat c1 c2
      refine lv_aload_n hx hb dX3_append_22 rfl (lv_at hl 0 rfl) ?_
      refine va_get (D := g.1) (ci := 3) (v := .ref (at9 0)) (C := RX3) (T := TX3) (N := 3) hx hb hts hiX3 hown hE.1 hP 0 rfl rfl 2 (by decide) f26 (fun _ h9 => h9) rfl dX3_append_23 ?_
      refine va_get (D := g.1) (ci := 0) (v := .int (nI n)) (C := RX0) (T := TX0) (N := 2) hx hb hts hiX0 hown hE.1 hP 5 rfl rfl 1 (by decide) f160 (fun _ h9 => h9) rfl dX3_append_26 ?_
      refine lv_bipush (v := (nI 60)) hx hb dX3_append_29 (by decide) ?_
      refine k_ltN (tgt := 44) hx hb (by omega) (by decide) dX3_append_31 (by decide) (fun c3 => ?_) (fun c3 => ?_)
      ·
        refine lv_aload_n hx hb dX3_append_44 rfl (lv_at hl 0 rfl) ?_
        refine va_get (D := g.1) (ci := 3) (v := .ref (at9 0)) (C := RX3) (T := TX3) (N := 3) hx hb hts hiX3 hown hE.1 hP 0 rfl rfl 2 (by decide) f26 (fun _ h9 => h9) rfl dX3_append_45 ?_
        refine lv_iload_n hx hb dX3_append_48 rfl (lv_at hl 1 rfl) ?_
        refine k_top hq9e ?_
        refine lv_i2c (v := (nI q9)) hx hb dX3_append_49 (k_i2c _ hq9.1) ?_
        refine k_Vv (As := [.int (nI q9)]) hF (c_X0_add l g at9 sg n (by omega) q9 (by omega)) (cwV 1 hts gX3_append_X0_add rfl rfl rfl (by decide +kernel) ⟨Nat.le_of_ble_eq_true rfl, Nat.le_of_ble_eq_true rfl⟩) hE hP hD hS hA (pm_5_2 _ _ _ _ _) ((pm_5_2 _ _ _ _ _).symm) 5 rfl rfl rfl rfl hl.1 rfl (Nat.le_of_ble_eq_true rfl) dX3_append_50 ⟨Nat.le_of_ble_eq_true rfl, Nat.le_of_ble_eq_true rfl⟩ (fun H locs hP hD hS => ?_)
        have hP : va_P g.1 vwCl ((wU u (ah 0) (a0 0) (at9 0)) ++ ((wH g ah h) ++ ((wT g at9 ((upd sg n (nI q9)), (nI (n + 1)))) ++ ((wK0 g a0 ak ((nI od), (nI sz))) ++ (wHs g ak hs 6))))) _ := hP
        have hD : va_D A ((wU u (ah 0) (a0 0) (at9 0)) ++ ((wH g ah h) ++ ((wT g at9 ((upd sg n (nI q9)), (nI (n + 1)))) ++ ((wK0 g a0 ak ((nI od), (nI sz))) ++ (wHs g ak hs 6))))) := hD
        refine lv_aload_n hx hb dX3_append_53 rfl (lv_at hl 0 rfl) ?_
        refine va_get (D := g.1) (ci := 3) (v := .ref (at9 0)) (C := RX3) (T := TX3) (N := 3) hx hb hts hiX3 hown hE.1 hP 0 rfl rfl 2 (by decide) f26 (fun _ h9 => h9) rfl dX3_append_54 ?_
        refine va_get (D := g.1) (ci := 0) (v := .int (nI (n + 1))) (C := RX0) (T := TX0) (N := 2) hx hb hts hiX0 hown hE.1 hP 5 rfl rfl 1 (by decide) f160 (fun _ h9 => h9) rfl dX3_append_57 ?_
        have hcode : (cdApp n x) = 0 := (by first | (first | (simp only [cdApp, if_neg c1, if_pos c1, if_pos c2, if_neg (not_not_intro c2), if_pos c3, if_neg (not_not_intro c3), hq9e]; done) | (simp only [cdApp, if_neg c1, if_pos c1, if_pos c2, if_neg (not_not_intro c2), if_pos c3, if_neg (not_not_intro c3), hq9e]; rfl) | rfl | (simp [cdApp, if_neg c1, if_pos c1, if_pos c2, if_neg (not_not_intro c2), if_pos c3, if_neg (not_not_intro c3), hq9e]; done)) | (first | (simp only [cdApp, if_neg c1, if_pos c1, if_pos c2, if_neg (not_not_intro c2), if_pos c3, if_neg (not_not_intro c3)]; done) | (simp only [cdApp, if_neg c1, if_pos c1, if_pos c2, if_neg (not_not_intro c2), if_pos c3, if_neg (not_not_intro c3)]; rfl) | rfl | (simp [cdApp, if_neg c1, if_pos c1, if_pos c2, if_neg (not_not_intro c2), if_pos c3, if_neg (not_not_intro c3)]; done)))
        have e4 : (upd sg n x, nI (n + 1)) = ((upd sg n (nI q9)), (nI (n + 1))) := (by first | (simp only [if_neg c1, if_pos c1, if_pos c2, if_neg (not_not_intro c2), if_pos c3, if_neg (not_not_intro c3), hq9e]; done) | (simp only [if_neg c1, if_pos c1, if_pos c2, if_neg (not_not_intro c2), if_pos c3, if_neg (not_not_intro c3), hq9e]; rfl) | rfl | (simp [if_neg c1, if_pos c1, if_pos c2, if_neg (not_not_intro c2), if_pos c3, if_neg (not_not_intro c3), hq9e]; done))
        have hP : va_P g.1 vwCl ((wU u (ah 0) (a0 0) (at9 0)) ++ ((wH g ah h) ++ ((wT g at9 (upd sg n x, nI (n + 1))) ++ ((wK0 g a0 ak ((nI od), (nI sz))) ++ (wHs g ak hs 6))))) H := by rw [e4]; exact hP
        have hD : va_D A ((wU u (ah 0) (a0 0) (at9 0)) ++ ((wH g ah h) ++ ((wT g at9 (upd sg n x, nI (n + 1))) ++ ((wK0 g a0 ak ((nI od), (nI sz))) ++ (wHs g ak hs 6))))) := by rw [e4]; exact hD
        exact k_xiret hx hb hr hlocks rfl hcode rfl hP hD hS (Nat.le_of_ble_eq_true rfl) (Nat.le_of_ble_eq_true rfl) dX3_append_60
      ·
        have hcode : (cdApp n x) = 2 := (by first | (first | (simp only [cdApp, if_neg c1, if_pos c1, if_pos c2, if_neg (not_not_intro c2), if_neg (Nat.not_lt.mpr c3), if_pos (Nat.not_lt.mpr c3), hq9e]; done) | (simp only [cdApp, if_neg c1, if_pos c1, if_pos c2, if_neg (not_not_intro c2), if_neg (Nat.not_lt.mpr c3), if_pos (Nat.not_lt.mpr c3), hq9e]; rfl) | rfl | (simp [cdApp, if_neg c1, if_pos c1, if_pos c2, if_neg (not_not_intro c2), if_neg (Nat.not_lt.mpr c3), if_pos (Nat.not_lt.mpr c3), hq9e]; done)) | (first | (simp only [cdApp, if_neg c1, if_pos c1, if_pos c2, if_neg (not_not_intro c2), if_neg (Nat.not_lt.mpr c3), if_pos (Nat.not_lt.mpr c3)]; done) | (simp only [cdApp, if_neg c1, if_pos c1, if_pos c2, if_neg (not_not_intro c2), if_neg (Nat.not_lt.mpr c3), if_pos (Nat.not_lt.mpr c3)]; rfl) | rfl | (simp [cdApp, if_neg c1, if_pos c1, if_pos c2, if_neg (not_not_intro c2), if_neg (Nat.not_lt.mpr c3), if_pos (Nat.not_lt.mpr c3)]; done)))
        exact k_throw (i := 8) (cls := "java/lang/IllegalStateException") hx hb hfl hown (by decide) tcl45 tin45 hSt rfl tat49 (by decide +kernel) hZ hP hD hS hA (hl.1.trans hml.symm) dX3_append_34 dX3_append_37 dX3_append_38 dX3_append_40 dX3_append_43 hT (Nat.le_of_ble_eq_true rfl) (Nat.le_of_ble_eq_true rfl) (Nat.le_of_ble_eq_true rfl) (Nat.le_of_ble_eq_true rfl) hlocks (Nat.le_of_ble_eq_true rfl) (Nat.le_of_ble_eq_true rfl) (by rw [hcode]; decide) (by rw [hcode]; rfl)
    ·
      have hcode : (cdApp n x) = 1 := (by first | (simp only [cdApp, if_neg c1, if_pos c1, if_neg c2, if_pos c2]; done) | (simp only [cdApp, if_neg c1, if_pos c1, if_neg c2, if_pos c2]; rfl) | rfl | (simp [cdApp, if_neg c1, if_pos c1, if_neg c2, if_pos c2]; done))
      exact k_throw (i := 7) (cls := "java/lang/IllegalArgumentException") hx hb hfl hown (by decide) tcl82 tin82 hSt rfl tat86 (by decide +kernel) hZ hP hD hS hA (hl.1.trans hml.symm) dX3_append_12 dX3_append_15 dX3_append_16 dX3_append_18 dX3_append_21 hT (Nat.le_of_ble_eq_true rfl) (Nat.le_of_ble_eq_true rfl) (Nat.le_of_ble_eq_true rfl) (Nat.le_of_ble_eq_true rfl) hlocks (Nat.le_of_ble_eq_true rfl) (Nat.le_of_ble_eq_true rfl) (by rw [hcode]; decide) (by rw [hcode]; rfl)
set_option maxHeartbeats 4000000 in
set_option maxRecDepth 100000 in
theorem c_X3_run (l : Launch) (hfl : l.stackTraces = false) (g : kG) (sa : Nat → Nat) (u : Nat) (ah at9 a0 : Nat → Nat) (ak : Nat → Nat → Nat) (h : HSt) (sg : Nat → Int32) (n : Nat) (hn : n ≤ 60) (hch : Tok sg n) (od sz : Nat) (hod : od < 6) (hsz : sz ≤ 6) (hs : Nat → HSt) (hbo : Hbo h) (hbs : ∀ j, Hbo (hs j)) : KXI l yX3_run wsX3_run ({ frames := 6, cells := 1, slots := 6, locals := 134 }) g sa [.ref u] ((wU u (ah 0) (a0 0) (at9 0)) ++ ((wH g ah h) ++ ((wT g at9 (sg, (nI n))) ++ ((wK0 g a0 ak ((nI od), (nI sz))) ++ (wHs g ak hs 6))))) (if Tdone sg n then 0 else 1) EA (nI ((Ufin sg n 0 n h 0).2)) ((wU u (ah 0) (a0 0) (at9 0)) ++ ((wH g ah ((Ufin sg n 0 n h 0).1)) ++ ((wT g at9 (sg, nI 0)) ++ ((wK0 g a0 ak (nI (kOd od sz), nI (kSz sz))) ++ (wHs g ak (va_up hs (kJ od sz) h) 6))))) 1 6 := by
  refine k_beginX (cc := cX3_run) (maxL := 2) (ret := (some .int)) (Qc := fun A => kQxi g (if Tdone sg n then 0 else 1) (nI ((Ufin sg n 0 n h 0).2)) ((wU u (ah 0) (a0 0) (at9 0)) ++ ((wH g ah ((Ufin sg n 0 n h 0).1)) ++ ((wT g at9 (sg, nI 0)) ++ ((wK0 g a0 ak (nI (kOd od sz), nI (kSz sz))) ++ (wHs g ak (va_up hs (kJ od sz) h) 6))))) A) (XC := fun A => kXx g (if Tdone sg n then 0 else 1) EA ((wU u (ah 0) (a0 0) (at9 0)) ++ ((wH g ah h) ++ ((wT g at9 (sg, (nI n))) ++ ((wK0 g a0 ak ((nI od), (nI sz))) ++ (wHs g ak hs 6))))) A) (by decide) rfl (Nat.le_of_ble_eq_true rfl) ?_
  intro p e s m below meth c A ls hF hr hlocks hT hE hSt hZ hP hD hS hA hl
  obtain ⟨hx, hb, hml, hown, hts⟩ := id hF
  have hown : s.vm.findClass RX3 = some m.cls := hown
  have hl : lv_has ls 2 [(0, .ref u)] := hl
  have hiX3 : ∀ w ∈ wsX30, w ∈ wsX3_run := fun _ h => List.mem_cons_of_mem _ (List.mem_append_left _ (List.mem_append_left _ (List.mem_append_left _ (List.mem_append_left _ (List.mem_append_right _ (h))))))
  have hiX0 : ∀ w ∈ wsX00, w ∈ wsX3_run := fun _ h => List.mem_cons_of_mem _ (List.mem_append_left _ (List.mem_append_left _ (List.mem_append_left _ (List.mem_append_right _ (h)))))
  have f26 : (Cond.fieldLink RX3 26 "ConcertUsher" "text" "LConcertUsher$EventText;").before _ s = true := hts _ (List.mem_of_getElem? (i := 3) rfl)
  have f19 : (Cond.fieldLink RX3 19 "ConcertUsher" "history" "LConcertUsher$History;").before _ s = true := hts _ (List.mem_of_getElem? (i := 4) rfl)
  have f12 : (Cond.fieldLink RX3 12 "ConcertUsher" "hall" "LConcertUsher$Hall;").before _ s = true := hts _ (List.mem_of_getElem? (i := 5) rfl)
  have f160 : (Cond.fieldLink RX3 160 "ConcertUsher$EventText" "length" "I").before _ s = true := hts _ (List.mem_of_getElem? (i := 6) rfl)
  have tcl82 : (Cond.classLink RX3 82 "java/lang/IllegalArgumentException").before _ s = true := hts _ (List.mem_of_getElem? (i := 1) rfl)
  have tin82 : (Cond.initialized "java/lang/IllegalArgumentException").before _ s = true := hts _ (List.mem_of_getElem? (i := 2) rfl)
  have tat86 : ∀ w ∈ vx_atS RX3 86 "java/lang/IllegalArgumentException" ["java/lang/RuntimeException", "java/lang/Exception"], w.before _ s = true := vx_hat (B := [.castable "java/lang/IllegalArgumentException" "java/lang/IllegalArgumentException", .declares (Bundle.initS "java/lang/RuntimeException"), .declares (Bundle.initS "java/lang/Exception"), .declares (Bundle.initS Bundle.tN)]) (fun w h => hts w ((fun _ h => List.mem_cons_of_mem _ (List.mem_append_right _ (h))) w h)) (by decide +kernel) (vx_c (va_Nw.use rfl hSt.2.1.2.2.1) (vx_c (va_Nw.use rfl hSt.2.1.2.2.2.1) (vx_c (va_Nw.use rfl hSt.2.1.2.2.2.2.1) (vx_c (va_Nw.use rfl hSt.2.1.2.2.2.2.2) vx_n))))
  refine lv_aload_n hx hb dX3_run_0 rfl (lv_at hl 0 rfl) ?_
  refine va_get (D := g.1) (ci := 3) (v := .ref (at9 0)) (C := RX3) (T := TX3) (N := 3) hx hb hts hiX3 hown hE.1 hP 0 rfl rfl 2 (by decide) f26 (fun _ h9 => h9) rfl dX3_run_1 ?_
  refine k_Vi (As := []) (r := (bI (Sst sg n n = 5 ∨ Sst sg n n = 6 ∨ Sst sg n n = 7))) hF (c_X0_isComplete l g at9 sg n (by omega) hch) (cwV 0 hts gX3_run_X0_isComplete rfl rfl rfl (by decide +kernel) ⟨Nat.le_of_ble_eq_true rfl, Nat.le_of_ble_eq_true rfl⟩) hE hP hD hS hA (pm_5_2 _ _ _ _ _) ((pm_5_2 _ _ _ _ _).symm) 5 rfl rfl rfl rfl hl.1 rfl (Nat.le_of_ble_eq_true rfl) dX3_run_4 ⟨Nat.le_of_ble_eq_true rfl, Nat.le_of_ble_eq_true rfl⟩ (fun H locs hP hD hS => ?_)
  have hP : va_P g.1 vwCl ((wU u (ah 0) (a0 0) (at9 0)) ++ ((wH g ah h) ++ ((wT g at9 (sg, (nI n))) ++ ((wK0 g a0 ak ((nI od), (nI sz))) ++ (wHs g ak hs 6))))) _ := hP
  have hD : va_D A ((wU u (ah 0) (a0 0) (at9 0)) ++ ((wH g ah h) ++ ((wT g at9 (sg, (nI n))) ++ ((wK0 g a0 ak ((nI od), (nI sz))) ++ (wHs g ak hs 6))))) := hD
  refine k_ifneB (tgt := 20) hx hb dX3_run_7 (by decide) (fun c1 => ?_) (fun c1 => ?_)
  ·
    refine lv_aload_n hx hb dX3_run_20 rfl (lv_at hl 0 rfl) ?_
    refine va_get (D := g.1) (ci := 3) (v := .ref (a0 0)) (C := RX3) (T := TX3) (N := 3) hx hb hts hiX3 hown hE.1 hP 0 rfl rfl 1 (by decide) f19 (fun _ h9 => h9) rfl dX3_run_21 ?_
    refine lv_aload_n hx hb dX3_run_24 rfl (lv_at hl 0 rfl) ?_
    refine va_get (D := g.1) (ci := 3) (v := .ref (ah 0)) (C := RX3) (T := TX3) (N := 3) hx hb hts hiX3 hown hE.1 hP 0 rfl rfl 0 (by decide) f12 (fun _ h9 => h9) rfl dX3_run_25 ?_
    refine k_Vv (As := [.ref (ah 0)]) hF (c_X2_keep l g a0 ak ah od sz (by omega) (by omega) hs h hbo) (cwV 1 hts gX3_run_X2_keep rfl rfl rfl (by decide +kernel) ⟨Nat.le_of_ble_eq_true rfl, Nat.le_of_ble_eq_true rfl⟩) hE hP hD hS hA (pm_5_341 _ _ _ _ _) ((pm_5_341 _ _ _ _ _).symm) 7 rfl rfl rfl rfl hl.1 rfl (Nat.le_of_ble_eq_true rfl) dX3_run_28 ⟨Nat.le_of_ble_eq_true rfl, Nat.le_of_ble_eq_true rfl⟩ (fun H locs hP hD hS => ?_)
    have hP : va_P g.1 vwCl ((wU u (ah 0) (a0 0) (at9 0)) ++ ((wH g ah h) ++ ((wT g at9 (sg, (nI n))) ++ ((wK0 g a0 ak ((nI (kOd od sz)), (nI (kSz sz)))) ++ (wHs g ak (va_up hs (kJ od sz) h) 6))))) _ := hP
    have hD : va_D A ((wU u (ah 0) (a0 0) (at9 0)) ++ ((wH g ah h) ++ ((wT g at9 (sg, (nI n))) ++ ((wK0 g a0 ak ((nI (kOd od sz)), (nI (kSz sz)))) ++ (wHs g ak (va_up hs (kJ od sz) h) 6))))) := hD
    refine lv_aload_n hx hb dX3_run_31 rfl (lv_at hl 0 rfl) ?_
    refine k_Vi (As := []) (r := (nI ((Ufin sg n 0 n h 0).2))) hF (c_X3_doEvents l g u ah at9 a0 ak h sg n (by omega) hch (kOd od sz) (kSz sz) (kOd_lt hod) (kSz_le hsz) (va_up hs (kJ od sz) h) hbo (k_bs hbs hbo) (Tev_ok ‹_›)) (cwV 0 hts gX3_run_X3_doEvents rfl rfl rfl (by decide +kernel) ⟨Nat.le_of_ble_eq_true rfl, Nat.le_of_ble_eq_true rfl⟩) hE hP hD hS hA (k_pall _) ((k_pall _).symm) 0 rfl rfl rfl rfl hl.1 rfl (Nat.le_of_ble_eq_true rfl) dX3_run_32 ⟨Nat.le_of_ble_eq_true rfl, Nat.le_of_ble_eq_true rfl⟩ (fun H locs hP hD hS => ?_)
    have hP : va_P g.1 vwCl ((wU u (ah 0) (a0 0) (at9 0)) ++ ((wH g ah ((Ufin sg n 0 n h 0).1)) ++ ((wT g at9 (sg, (nI n))) ++ ((wK0 g a0 ak ((nI (kOd od sz)), (nI (kSz sz)))) ++ (wHs g ak (va_up hs (kJ od sz) h) 6))))) _ := hP
    have hD : va_D A ((wU u (ah 0) (a0 0) (at9 0)) ++ ((wH g ah ((Ufin sg n 0 n h 0).1)) ++ ((wT g at9 (sg, (nI n))) ++ ((wK0 g a0 ak ((nI (kOd od sz)), (nI (kSz sz)))) ++ (wHs g ak (va_up hs (kJ od sz) h) 6))))) := hD
    obtain ⟨z2, ez2⟩ : ∃ x : HSt, (Ufin sg n 0 n h 0).1 = x := ⟨_, rfl⟩
    rw [ez2] at hP hD
    refine lv_istore_n (lv' := [(1, .int (nI ((Ufin sg n 0 n h 0).2))), (0, .ref u)]) hx hb dX3_run_35 rfl hl (by decide) rfl (fun ls hl => ?_)
    refine lv_aload_n hx hb dX3_run_36 rfl (lv_at hl 1 rfl) ?_
    refine va_get (D := g.1) (ci := 3) (v := .ref (at9 0)) (C := RX3) (T := TX3) (N := 3) hx hb hts hiX3 hown hE.1 hP 0 rfl rfl 2 (by decide) f26 (fun _ h9 => h9) rfl dX3_run_37 ?_
    refine lv_iconst (v := (nI 0)) hx hb dX3_run_40 (by decide) ?_
    refine va_put (D := g.1) (ci := 0) (v := .int (nI 0)) (ty := .int) (C := RX0) (T := TX0) (N := 2) hx hb hts hiX0 tyX0 tyX0_ok nmX0 hown hE.1 hP hD hS 5 rfl rfl 1 (by decide) f160 (fun _ h9 => h9) rfl (tyX0_ok 1 (by decide)) rfl rfl (Nat.le_of_ble_eq_true rfl) dX3_run_41 (fun H locs hP hD hS => ?_)
    have hP : va_P g.1 vwCl ((wU u (ah 0) (a0 0) (at9 0)) ++ ((wH g ah z2) ++ ((wT g at9 (sg, (nI 0))) ++ ((wK0 g a0 ak ((nI (kOd od sz)), (nI (kSz sz)))) ++ (wHs g ak (va_up hs (kJ od sz) h) 6))))) _ := hP
    have hD : va_D A ((wU u (ah 0) (a0 0) (at9 0)) ++ ((wH g ah z2) ++ ((wT g at9 (sg, (nI 0))) ++ ((wK0 g a0 ak ((nI (kOd od sz)), (nI (kSz sz)))) ++ (wHs g ak (va_up hs (kJ od sz) h) 6))))) := hD
    refine lv_iload_n hx hb dX3_run_44 rfl (lv_at hl 0 rfl) ?_
    have hcode : (if Tdone sg n then 0 else 1) = 0 := (by subst ez2; first | (simp only [if_pos c1, if_neg (not_not_intro c1)]; done) | (simp only [if_pos c1, if_neg (not_not_intro c1)]; rfl) | rfl | (simp [if_pos c1, if_neg (not_not_intro c1)]; done))
    have e3 : (Ufin sg n 0 n h 0).1 = z2 := (by subst ez2; first | (simp only [if_pos c1, if_neg (not_not_intro c1)]; done) | (simp only [if_pos c1, if_neg (not_not_intro c1)]; rfl) | rfl | (simp [if_pos c1, if_neg (not_not_intro c1)]; done))
    have e4 : (sg, nI 0) = (sg, (nI 0)) := (by subst ez2; first | (simp only [if_pos c1, if_neg (not_not_intro c1)]; done) | (simp only [if_pos c1, if_neg (not_not_intro c1)]; rfl) | rfl | (simp [if_pos c1, if_neg (not_not_intro c1)]; done))
    have e5 : (nI (kOd od sz), nI (kSz sz)) = ((nI (kOd od sz)), (nI (kSz sz))) := (by subst ez2; first | (simp only [if_pos c1, if_neg (not_not_intro c1)]; done) | (simp only [if_pos c1, if_neg (not_not_intro c1)]; rfl) | rfl | (simp [if_pos c1, if_neg (not_not_intro c1)]; done))
    have hP : va_P g.1 vwCl ((wU u (ah 0) (a0 0) (at9 0)) ++ ((wH g ah ((Ufin sg n 0 n h 0).1)) ++ ((wT g at9 (sg, nI 0)) ++ ((wK0 g a0 ak (nI (kOd od sz), nI (kSz sz))) ++ (wHs g ak (va_up hs (kJ od sz) h) 6))))) H := by rw [e3, e4, e5]; exact hP
    have hD : va_D A ((wU u (ah 0) (a0 0) (at9 0)) ++ ((wH g ah ((Ufin sg n 0 n h 0).1)) ++ ((wT g at9 (sg, nI 0)) ++ ((wK0 g a0 ak (nI (kOd od sz), nI (kSz sz))) ++ (wHs g ak (va_up hs (kJ od sz) h) 6))))) := by rw [e3, e4, e5]; exact hD
    exact k_xiret hx hb hr hlocks rfl hcode (by subst ez2; first | (simp only [bI, if_pos c1, if_neg (not_not_intro c1)]; done) | (simp only [bI, if_pos c1, if_neg (not_not_intro c1)]; rfl) | rfl | (simp [bI, if_pos c1, if_neg (not_not_intro c1)]; done)) hP hD hS (Nat.le_of_ble_eq_true rfl) (Nat.le_of_ble_eq_true rfl) dX3_run_45
  ·
    have hcode : (if Tdone sg n then 0 else 1) = 1 := (by first | (simp only [if_neg c1, if_pos c1]; done) | (simp only [if_neg c1, if_pos c1]; rfl) | rfl | (simp [if_neg c1, if_pos c1]; done))
    exact k_throw (i := 9) (cls := "java/lang/IllegalArgumentException") hx hb hfl hown (by decide) tcl82 tin82 hSt rfl tat86 (by decide +kernel) hZ hP hD hS hA (hl.1.trans hml.symm) dX3_run_10 dX3_run_13 dX3_run_14 dX3_run_16 dX3_run_19 hT (Nat.le_of_ble_eq_true rfl) (Nat.le_of_ble_eq_true rfl) (Nat.le_of_ble_eq_true rfl) (Nat.le_of_ble_eq_true rfl) hlocks (Nat.le_of_ble_eq_true rfl) (Nat.le_of_ble_eq_true rfl) (by rw [hcode]; decide) (by rw [hcode]; rfl)
set_option maxHeartbeats 4000000 in
set_option maxRecDepth 100000 in
theorem c_X3_undo (l : Launch) (hfl : l.stackTraces = false) (g : kG) (sa : Nat → Nat) (u : Nat) (ah at9 a0 : Nat → Nat) (ak : Nat → Nat → Nat) (h : HSt) (sg : Nat → Int32) (n : Nat) (hn : n ≤ 60) (hch : Tok sg n) (od sz : Nat) (hod : od < 6) (hsz : sz ≤ 6) (hs : Nat → HSt) (hbo : Hbo h) (hbs : ∀ j, Hbo (hs j)) : KXI l yX3_undo wsX3_undo ({ frames := 6, cells := 1, slots := 6, locals := 102 }) g sa [.ref u] ((wU u (ah 0) (a0 0) (at9 0)) ++ ((wH g ah h) ++ ((wT g at9 (sg, (nI n))) ++ ((wK0 g a0 ak ((nI od), (nI sz))) ++ (wHs g ak hs 6))))) (if sz = 0 then 1 else 0) ES (nI (sz - 1)) ((wU u (ah 0) (a0 0) (at9 0)) ++ ((wH g ah (hs ((od + (sz - 1)) % 6))) ++ ((wT g at9 (sg, (nI n))) ++ ((wK0 g a0 ak (nI od, nI (sz - 1))) ++ (wHs g ak hs 6))))) 1 6 := by
  refine k_beginX (cc := cX3_undo) (maxL := 1) (ret := (some .int)) (Qc := fun A => kQxi g (if sz = 0 then 1 else 0) (nI (sz - 1)) ((wU u (ah 0) (a0 0) (at9 0)) ++ ((wH g ah (hs ((od + (sz - 1)) % 6))) ++ ((wT g at9 (sg, (nI n))) ++ ((wK0 g a0 ak (nI od, nI (sz - 1))) ++ (wHs g ak hs 6))))) A) (XC := fun A => kXx g (if sz = 0 then 1 else 0) ES ((wU u (ah 0) (a0 0) (at9 0)) ++ ((wH g ah h) ++ ((wT g at9 (sg, (nI n))) ++ ((wK0 g a0 ak ((nI od), (nI sz))) ++ (wHs g ak hs 6))))) A) (by decide) rfl (Nat.le_of_ble_eq_true rfl) ?_
  intro p e s m below meth c A ls hF hr hlocks hT hE hSt hZ hP hD hS hA hl
  obtain ⟨hx, hb, hml, hown, hts⟩ := id hF
  have hown : s.vm.findClass RX3 = some m.cls := hown
  have hl : lv_has ls 1 [(0, .ref u)] := hl
  have hiX3 : ∀ w ∈ wsX30, w ∈ wsX3_undo := fun _ h => List.mem_cons_of_mem _ (List.mem_append_left _ (List.mem_append_left _ (List.mem_append_left _ (List.mem_append_right _ (h)))))
  have hiX2 : ∀ w ∈ wsX20, w ∈ wsX3_undo := fun _ h => List.mem_cons_of_mem _ (List.mem_append_left _ (List.mem_append_left _ (List.mem_append_right _ (h))))
  have f19 : (Cond.fieldLink RX3 19 "ConcertUsher" "history" "LConcertUsher$History;").before _ s = true := hts _ (List.mem_of_getElem? (i := 3) rfl)
  have f181 : (Cond.fieldLink RX3 181 "ConcertUsher$History" "size" "I").before _ s = true := hts _ (List.mem_of_getElem? (i := 4) rfl)
  have f12 : (Cond.fieldLink RX3 12 "ConcertUsher" "hall" "LConcertUsher$Hall;").before _ s = true := hts _ (List.mem_of_getElem? (i := 5) rfl)
  have tcl45 : (Cond.classLink RX3 45 "java/lang/IllegalStateException").before _ s = true := hts _ (List.mem_of_getElem? (i := 1) rfl)
  have tin45 : (Cond.initialized "java/lang/IllegalStateException").before _ s = true := hts _ (List.mem_of_getElem? (i := 2) rfl)
  have tat49 : ∀ w ∈ vx_atS RX3 49 "java/lang/IllegalStateException" ["java/lang/RuntimeException", "java/lang/Exception"], w.before _ s = true := vx_hat (B := [.castable "java/lang/IllegalStateException" "java/lang/IllegalStateException", .declares (Bundle.initS "java/lang/RuntimeException"), .declares (Bundle.initS "java/lang/Exception"), .declares (Bundle.initS Bundle.tN)]) (fun w h => hts w ((fun _ h => List.mem_cons_of_mem _ (List.mem_append_right _ (h))) w h)) (by decide +kernel) (vx_c (va_Nw.use rfl hSt.2.1.2.1) (vx_c (va_Nw.use rfl hSt.2.1.2.2.2.1) (vx_c (va_Nw.use rfl hSt.2.1.2.2.2.2.1) (vx_c (va_Nw.use rfl hSt.2.1.2.2.2.2.2) vx_n))))
  refine lv_aload_n hx hb dX3_undo_0 rfl (lv_at hl 0 rfl) ?_
  refine va_get (D := g.1) (ci := 3) (v := .ref (a0 0)) (C := RX3) (T := TX3) (N := 3) hx hb hts hiX3 hown hE.1 hP 0 rfl rfl 1 (by decide) f19 (fun _ h9 => h9) rfl dX3_undo_1 ?_
  refine va_get (D := g.1) (ci := 2) (v := .int (nI sz)) (C := RX2) (T := TX2) (N := 3) hx hb hts hiX2 hown hE.1 hP 7 rfl rfl 2 (by decide) f181 (fun _ h9 => h9) rfl dX3_undo_4 ?_
  refine k_ifn0 (tgt := 20) hx hb (by omega) dX3_undo_7 (by decide) (fun c1 => ?_) (fun c1 => ?_)
  ·
    refine lv_aload_n hx hb dX3_undo_20 rfl (lv_at hl 0 rfl) ?_
    refine va_get (D := g.1) (ci := 3) (v := .ref (a0 0)) (C := RX3) (T := TX3) (N := 3) hx hb hts hiX3 hown hE.1 hP 0 rfl rfl 1 (by decide) f19 (fun _ h9 => h9) rfl dX3_undo_21 ?_
    refine lv_aload_n hx hb dX3_undo_24 rfl (lv_at hl 0 rfl) ?_
    refine va_get (D := g.1) (ci := 3) (v := .ref (ah 0)) (C := RX3) (T := TX3) (N := 3) hx hb hts hiX3 hown hE.1 hP 0 rfl rfl 0 (by decide) f12 (fun _ h9 => h9) rfl dX3_undo_25 ?_
    refine k_Vv (As := [.ref (ah 0)]) hF (c_X2_takeBack l g a0 ak ah od sz (by omega) (by omega) hs h (by omega) hbs) (cwV 1 hts gX3_undo_X2_takeBack rfl rfl rfl (by decide +kernel) ⟨Nat.le_of_ble_eq_true rfl, Nat.le_of_ble_eq_true rfl⟩) hE hP hD hS hA (pm_5_341 _ _ _ _ _) ((pm_5_341 _ _ _ _ _).symm) 7 rfl rfl rfl rfl hl.1 rfl (Nat.le_of_ble_eq_true rfl) dX3_undo_28 ⟨Nat.le_of_ble_eq_true rfl, Nat.le_of_ble_eq_true rfl⟩ (fun H locs hP hD hS => ?_)
    have hP : va_P g.1 vwCl ((wU u (ah 0) (a0 0) (at9 0)) ++ ((wH g ah (hs ((od + (sz - 1)) % 6))) ++ ((wT g at9 (sg, (nI n))) ++ ((wK0 g a0 ak ((nI od), (nI (sz - 1)))) ++ (wHs g ak hs 6))))) _ := hP
    have hD : va_D A ((wU u (ah 0) (a0 0) (at9 0)) ++ ((wH g ah (hs ((od + (sz - 1)) % 6))) ++ ((wT g at9 (sg, (nI n))) ++ ((wK0 g a0 ak ((nI od), (nI (sz - 1)))) ++ (wHs g ak hs 6))))) := hD
    obtain ⟨z2, ez2⟩ : ∃ x : HSt, (hs ((od + (sz - 1)) % 6)) = x := ⟨_, rfl⟩
    rw [ez2] at hP hD
    refine lv_aload_n hx hb dX3_undo_31 rfl (lv_at hl 0 rfl) ?_
    refine va_get (D := g.1) (ci := 3) (v := .ref (a0 0)) (C := RX3) (T := TX3) (N := 3) hx hb hts hiX3 hown hE.1 hP 0 rfl rfl 1 (by decide) f19 (fun _ h9 => h9) rfl dX3_undo_32 ?_
    refine va_get (D := g.1) (ci := 2) (v := .int (nI (sz - 1))) (C := RX2) (T := TX2) (N := 3) hx hb hts hiX2 hown hE.1 hP 7 rfl rfl 2 (by decide) f181 (fun _ h9 => h9) rfl dX3_undo_35 ?_
    have hcode : (if sz = 0 then 1 else 0) = 0 := (by subst ez2; first | (simp only [if_neg c1, if_pos c1]; done) | (simp only [if_neg c1, if_pos c1]; rfl) | rfl | (simp [if_neg c1, if_pos c1]; done))
    have e3 : (hs ((od + (sz - 1)) % 6)) = z2 := (by subst ez2; first | (simp only [if_neg c1, if_pos c1]; done) | (simp only [if_neg c1, if_pos c1]; rfl) | rfl | (simp [if_neg c1, if_pos c1]; done))
    have e4 : (nI od, nI (sz - 1)) = ((nI od), (nI (sz - 1))) := (by subst ez2; first | (simp only [if_neg c1, if_pos c1]; done) | (simp only [if_neg c1, if_pos c1]; rfl) | rfl | (simp [if_neg c1, if_pos c1]; done))
    have hP : va_P g.1 vwCl ((wU u (ah 0) (a0 0) (at9 0)) ++ ((wH g ah (hs ((od + (sz - 1)) % 6))) ++ ((wT g at9 (sg, (nI n))) ++ ((wK0 g a0 ak (nI od, nI (sz - 1))) ++ (wHs g ak hs 6))))) H := by rw [e3, e4]; exact hP
    have hD : va_D A ((wU u (ah 0) (a0 0) (at9 0)) ++ ((wH g ah (hs ((od + (sz - 1)) % 6))) ++ ((wT g at9 (sg, (nI n))) ++ ((wK0 g a0 ak (nI od, nI (sz - 1))) ++ (wHs g ak hs 6))))) := by rw [e3, e4]; exact hD
    exact k_xiret hx hb hr hlocks rfl hcode (by subst ez2; first | (simp only [bI, if_neg c1, if_pos c1]; done) | (simp only [bI, if_neg c1, if_pos c1]; rfl) | rfl | (simp [bI, if_neg c1, if_pos c1]; done)) hP hD hS (Nat.le_of_ble_eq_true rfl) (Nat.le_of_ble_eq_true rfl) dX3_undo_38
  ·
    have hcode : (if sz = 0 then 1 else 0) = 1 := (by first | (simp only [if_pos c1, if_neg (not_not_intro c1)]; done) | (simp only [if_pos c1, if_neg (not_not_intro c1)]; rfl) | rfl | (simp [if_pos c1, if_neg (not_not_intro c1)]; done))
    exact k_throw (i := 10) (cls := "java/lang/IllegalStateException") hx hb hfl hown (by decide) tcl45 tin45 hSt rfl tat49 (by decide +kernel) hZ hP hD hS hA (hl.1.trans hml.symm) dX3_undo_10 dX3_undo_13 dX3_undo_14 dX3_undo_16 dX3_undo_19 hT (Nat.le_of_ble_eq_true rfl) (Nat.le_of_ble_eq_true rfl) (Nat.le_of_ble_eq_true rfl) (Nat.le_of_ble_eq_true rfl) hlocks (Nat.le_of_ble_eq_true rfl) (Nat.le_of_ble_eq_true rfl) (by rw [hcode]; decide) (by rw [hcode]; rfl)
set_option maxHeartbeats 4000000 in
set_option maxRecDepth 100000 in
theorem c_X3_mix (l : Launch) (g : kG) (x : Int64) (v : Int32) : KL l yX3_mix wsX3_mix ({ frames := 0, cells := 0, slots := 0, locals := 0 }) g [.long x, .int v] [] (mixI x v) [] 0 0 := by
  refine k_begin (cc := cX3_mix) (maxL := 3) (ret := (some .long)) (Qc := fun A => kQl g (mixI x v) [] A) (by decide) rfl (Nat.le_of_ble_eq_true rfl) ?_
  intro p e s m below meth c A ls hF hr hlocks hin hE hP hD hS hA hl
  obtain ⟨hx, hb, hml, hown, hts⟩ := id hF
  have hown : s.vm.findClass RX3 = some m.cls := hown
  have hl : lv_has ls 3 [(0, .long x), (2, .int v)] := hl
  have cst198 : (Cond.constantLong RX3 198 (31)).before _ s = true := hts _ (List.mem_of_getElem? (i := 1) rfl)
  refine lv_ldc2 hx hb hown cst198 dX3_mix_0 ?_
  refine lv_lload_n hx hb dX3_mix_3 rfl (lv_at hl 0 rfl) ?_
  refine lv_lmul hx hb dX3_mix_4 ?_
  refine lv_iload_n hx hb dX3_mix_5 rfl (lv_at hl 1 rfl) ?_
  refine lv_i2l (v := (Int32.toInt64 v)) hx hb dX3_mix_6 rfl ?_
  refine lv_ladd hx hb dX3_mix_7 ?_
  have hP : va_P g.1 vwCl [] _ := hP
  have hD : va_D A [] := hD
  exact k_lret hx hb hr hlocks (by first | rfl | (simp only [mixI, bI]; done) | (simp only [mixI, bI]; rfl) | (simp [mixI, bI]; done)) hP hD hS (Nat.le_of_ble_eq_true rfl) (Nat.le_of_ble_eq_true rfl) dX3_mix_8
set_option maxHeartbeats 4000000 in
set_option maxRecDepth 100000 in
theorem c_X3_mixRow (l : Launch) (g : kG) (u : Nat) (ah at9 a0 : Nat → Nat) (ak : Nat → Nat → Nat) (h : HSt) (sg : Nat → Int32) (n : Nat) (hn : n ≤ 60) (hch : Tok sg n) (od sz : Nat) (hod : od < 6) (hsz : sz ≤ 6) (hs : Nat → HSt) (hbo : Hbo h) (hbs : ∀ j, Hbo (hs j)) (x : Int64) (r : Nat) (hr8 : r < 8) : KL l yX3_mixRow wsX3_mixRow ({ frames := 4, cells := 0, slots := 0, locals := 82 }) g [.ref u, .long x, .int (nI r)] ((wU u (ah 0) (a0 0) (at9 0)) ++ ((wH g ah h) ++ ((wT g at9 (sg, (nI n))) ++ ((wK0 g a0 ak ((nI od), (nI sz))) ++ (wHs g ak hs 6))))) (DgRow h x r) ((wU u (ah 0) (a0 0) (at9 0)) ++ ((wH g ah h) ++ ((wT g at9 (sg, (nI n))) ++ ((wK0 g a0 ak ((nI od), (nI sz))) ++ (wHs g ak hs 6))))) 0 0 := by
  refine k_begin (cc := cX3_mixRow) (maxL := 8) (ret := (some .long)) (Qc := fun A => kQl g (DgRow h x r) ((wU u (ah 0) (a0 0) (at9 0)) ++ ((wH g ah h) ++ ((wT g at9 (sg, (nI n))) ++ ((wK0 g a0 ak ((nI od), (nI sz))) ++ (wHs g ak hs 6))))) A) (by decide) rfl (Nat.le_of_ble_eq_true rfl) ?_
  intro p e s m below meth c A ls hF hr hlocks hin hE hP hD hS hA hl
  obtain ⟨hx, hb, hml, hown, hts⟩ := id hF
  have hown : s.vm.findClass RX3 = some m.cls := hown
  have hl : lv_has ls 8 [(0, .ref u), (1, .long x), (3, .int (nI r))] := hl
  have hiX3 : ∀ w ∈ wsX30, w ∈ wsX3_mixRow := fun _ h => List.mem_cons_of_mem _ (List.mem_append_left _ (List.mem_append_right _ (h)))
  have hiX1 : ∀ w ∈ wsX10, w ∈ wsX3_mixRow := fun _ h => List.mem_cons_of_mem _ (List.mem_append_right _ (h))
  have f12 : (Cond.fieldLink RX3 12 "ConcertUsher" "hall" "LConcertUsher$Hall;").before _ s = true := hts _ (List.mem_of_getElem? (i := 1) rfl)
  have f59 : (Cond.fieldLink RX3 59 "ConcertUsher$Hall" "listeners" "[I").before _ s = true := hts _ (List.mem_of_getElem? (i := 2) rfl)
  have f116 : (Cond.fieldLink RX3 116 "ConcertUsher$Hall" "rests" "[I").before _ s = true := hts _ (List.mem_of_getElem? (i := 3) rfl)
  refine lv_lload_n hx hb dX3_mixRow_0 rfl (lv_at hl 1 rfl) ?_
  refine lv_aload_n hx hb dX3_mixRow_1 rfl (lv_at hl 0 rfl) ?_
  refine va_get (D := g.1) (ci := 3) (v := .ref (ah 0)) (C := RX3) (T := TX3) (N := 3) hx hb hts hiX3 hown hE.1 hP 0 rfl rfl 0 (by decide) f12 (fun _ h9 => h9) rfl dX3_mixRow_2 ?_
  refine lv_iload_n hx hb dX3_mixRow_5 rfl (lv_at hl 2 rfl) ?_
  refine k_Vi (As := [.int (nI r)]) (r := (bI (Hopen h r))) hF (c_X1_isRowOpen l g ah h r (by omega)) (cwV 1 hts gX3_mixRow_X1_isRowOpen rfl rfl rfl (by decide +kernel) ⟨Nat.le_of_ble_eq_true rfl, Nat.le_of_ble_eq_true rfl⟩) hE hP hD hS hA (pm_5_1 _ _ _ _ _) ((pm_5_1 _ _ _ _ _).symm) 1 rfl rfl rfl rfl hl.1 rfl (Nat.le_of_ble_eq_true rfl) dX3_mixRow_6 ⟨Nat.le_of_ble_eq_true rfl, Nat.le_of_ble_eq_true rfl⟩ (fun H locs hP hD hS => ?_)
  have hP : va_P g.1 vwCl ((wU u (ah 0) (a0 0) (at9 0)) ++ ((wH g ah h) ++ ((wT g at9 (sg, (nI n))) ++ ((wK0 g a0 ak ((nI od), (nI sz))) ++ (wHs g ak hs 6))))) _ := hP
  have hD : va_D A ((wU u (ah 0) (a0 0) (at9 0)) ++ ((wH g ah h) ++ ((wT g at9 (sg, (nI n))) ++ ((wK0 g a0 ak ((nI od), (nI sz))) ++ (wHs g ak hs 6))))) := hD
  refine k_meet (x := .int (bI (Hopen h r))) (pj := 17) (rest := [.long x]) (fun J1 => ?_) ?_
  ·
    refine k_ifeqB (tgt := 16) hx hb dX3_mixRow_9 (by decide) (fun c2 => ?_) (fun c2 => ?_)
    ·
      refine lv_iconst (v := (nI 0)) hx hb dX3_mixRow_16 (by decide) ?_
      exact k_top (by first | (simp only [DgRow, bI, if_neg c2, if_pos c2]; done) | (simp only [DgRow, bI, if_neg c2, if_pos c2]; rfl) | rfl | (simp [DgRow, bI, if_neg c2, if_pos c2]; done)) J1
    ·
      refine lv_iconst (v := (nI 1)) hx hb dX3_mixRow_12 (by decide) ?_
      refine lv_goto (tgt := 17) hx hb dX3_mixRow_13 (by decide) ?_
      exact k_top (by first | (simp only [DgRow, bI, if_pos c2, if_neg (not_not_intro c2)]; done) | (simp only [DgRow, bI, if_pos c2, if_neg (not_not_intro c2)]; rfl) | rfl | (simp [DgRow, bI, if_pos c2, if_neg (not_not_intro c2)]; done)) J1
  ·
    refine k_Sl (w0 := []) (w1 := []) (As := [.long x, .int (bI (Hopen h r))]) (r := (mixI x (bI (Hopen h r)))) hF (c_X3_mix l g x (bI (Hopen h r))) (va_cwS 2 hts gX3_mixRow_X3_mix rfl rfl rfl (by decide +kernel) ⟨Nat.le_of_ble_eq_true rfl, Nat.le_of_ble_eq_true rfl⟩) hE hP hD hS hA (List.Perm.refl _) (List.Perm.refl _) rfl hl.1 rfl (Nat.le_of_ble_eq_true rfl) dX3_mixRow_17 ⟨Nat.le_of_ble_eq_true rfl, Nat.le_of_ble_eq_true rfl⟩ (fun H locs hP hD hS => ?_)
    have hP : va_P g.1 vwCl ((wU u (ah 0) (a0 0) (at9 0)) ++ ((wH g ah h) ++ ((wT g at9 (sg, (nI n))) ++ ((wK0 g a0 ak ((nI od), (nI sz))) ++ (wHs g ak hs 6))))) _ := hP
    have hD : va_D A ((wU u (ah 0) (a0 0) (at9 0)) ++ ((wH g ah h) ++ ((wT g at9 (sg, (nI n))) ++ ((wK0 g a0 ak ((nI od), (nI sz))) ++ (wHs g ak hs 6))))) := hD
    refine lv_lstore (lv' := [(4, .long (mixI x (bI (Hopen h r)))), (0, .ref u), (1, .long x), (3, .int (nI r))]) hx hb dX3_mixRow_20 hl (by decide) rfl (fun ls hl => ?_)
    refine lv_iconst (v := (nI 0)) hx hb dX3_mixRow_22 (by decide) ?_
    refine lv_istore (lv' := [(6, .int (nI 0)), (4, .long (mixI x (bI (Hopen h r)))), (0, .ref u), (1, .long x), (3, .int (nI r))]) hx hb dX3_mixRow_23 hl (by decide) rfl (fun ls hl => ?_)
    refine k_loop (N := 6) (Inv := fun (i : Nat) (H : Heap) (locs : List Loc) (ls : Array Slot) => va_P g.1 vwCl ((wU u (ah 0) (a0 0) (at9 0)) ++ ((wH g ah h) ++ ((wT g at9 (sg, (nI n))) ++ ((wK0 g a0 ak ((nI od), (nI sz))) ++ (wHs g ak hs 6))))) H ∧ va_D A ((wU u (ah 0) (a0 0) (at9 0)) ++ ((wH g ah h) ++ ((wT g at9 (sg, (nI n))) ++ ((wK0 g a0 ak ((nI od), (nI sz))) ++ (wHs g ak hs 6))))) ∧ va_S A s.heap H locs ∧ lv_has ls 8 [(6, .int (nI i)), (4, .long (DgK h r (mixI x (bI (Hopen h r))) i)), (0, .ref u), (1, .long x), (3, .int (nI r))]) 0 (Nat.zero_le _) ⟨hP, hD, hS, lv_sub hl [0, 1, 2, 3, 4] rfl⟩ (fun i hle4 ih3 H locs ls hinv => ?_)
    obtain ⟨hP, hD, hS, hl⟩ := hinv
    refine lv_iload hx hb dX3_mixRow_25 (lv_at hl 0 rfl) ?_
    refine lv_bipush (v := (nI 6)) hx hb dX3_mixRow_27 (by decide) ?_
    refine k_geN (tgt := 96) hx hb (by omega) (by decide) dX3_mixRow_29 (by decide) (fun c5 => ?_) (fun c5 => ?_)
    ·
      obtain rfl : 6 = i := by omega
      refine lv_lload hx hb dX3_mixRow_96 (lv_at hl 1 rfl) ?_
      have hP : va_P g.1 vwCl ((wU u (ah 0) (a0 0) (at9 0)) ++ ((wH g ah h) ++ ((wT g at9 (sg, (nI n))) ++ ((wK0 g a0 ak ((nI od), (nI sz))) ++ (wHs g ak hs 6))))) _ := hP
      have hD : va_D A ((wU u (ah 0) (a0 0) (at9 0)) ++ ((wH g ah h) ++ ((wT g at9 (sg, (nI n))) ++ ((wK0 g a0 ak ((nI od), (nI sz))) ++ (wHs g ak hs 6))))) := hD
      exact k_lret hx hb hr hlocks (by first | (simp only [DgRow, bI, if_pos c5, if_neg (not_not_intro c5)]; done) | (simp only [DgRow, bI, if_pos c5, if_neg (not_not_intro c5)]; rfl) | rfl | (simp [DgRow, bI, if_pos c5, if_neg (not_not_intro c5)]; done)) hP hD hS (Nat.le_of_ble_eq_true rfl) (Nat.le_of_ble_eq_true rfl) dX3_mixRow_98
    ·
      refine lv_iload_n hx hb dX3_mixRow_32 rfl (lv_at hl 4 rfl) ?_
      refine lv_iload hx hb dX3_mixRow_33 (lv_at hl 0 rfl) ?_
      refine k_Si (w0 := []) (w1 := []) (As := [.int (nI r), .int (nI i)]) (r := (nI (r * 6 + i))) hF (c_X3_placeOf l g r i) (va_cwS 2 hts gX3_mixRow_X3_placeOf rfl rfl rfl (by decide +kernel) ⟨Nat.le_of_ble_eq_true rfl, Nat.le_of_ble_eq_true rfl⟩) hE hP hD hS hA (List.Perm.refl _) (List.Perm.refl _) rfl hl.1 rfl (Nat.le_of_ble_eq_true rfl) dX3_mixRow_35 ⟨Nat.le_of_ble_eq_true rfl, Nat.le_of_ble_eq_true rfl⟩ (fun H locs hP hD hS => ?_)
      have hP : va_P g.1 vwCl ((wU u (ah 0) (a0 0) (at9 0)) ++ ((wH g ah h) ++ ((wT g at9 (sg, (nI n))) ++ ((wK0 g a0 ak ((nI od), (nI sz))) ++ (wHs g ak hs 6))))) _ := hP
      have hD : va_D A ((wU u (ah 0) (a0 0) (at9 0)) ++ ((wH g ah h) ++ ((wT g at9 (sg, (nI n))) ++ ((wK0 g a0 ak ((nI od), (nI sz))) ++ (wHs g ak hs 6))))) := hD
      refine lv_istore (lv' := [(7, .int (nI (r * 6 + i))), (6, .int (nI i)), (4, .long (DgK h r (mixI x (bI (Hopen h r))) i)), (0, .ref u), (1, .long x), (3, .int (nI r))]) hx hb dX3_mixRow_38 hl (by decide) rfl (fun ls hl => ?_)
      refine lv_lload hx hb dX3_mixRow_40 (lv_at hl 2 rfl) ?_
      refine lv_aload_n hx hb dX3_mixRow_42 rfl (lv_at hl 3 rfl) ?_
      refine va_get (D := g.1) (ci := 3) (v := .ref (ah 0)) (C := RX3) (T := TX3) (N := 3) hx hb hts hiX3 hown hE.1 hP 0 rfl rfl 0 (by decide) f12 (fun _ h9 => h9) rfl dX3_mixRow_43 ?_
      refine va_get (D := g.1) (ci := 1) (v := .ref (ah 1)) (C := RX1) (T := TX1) (N := 12) hx hb hts hiX1 hown hE.1 hP 1 rfl rfl 0 (by decide) f59 (fun _ h9 => h9) rfl dX3_mixRow_46 ?_
      refine lv_iload hx hb dX3_mixRow_49 (lv_at hl 0 rfl) ?_
      refine k_iald (f := (hL h)) hx hb hE hP 2 rfl (r * 6 + i) rfl (by omega) (by decide) dX3_mixRow_51 ?_
      refine k_Sl (w0 := []) (w1 := []) (As := [.long (DgK h r (mixI x (bI (Hopen h r))) i), .int ((hL h) (r * 6 + i))]) (r := (mixI (DgK h r (mixI x (bI (Hopen h r))) i) ((hL h) (r * 6 + i)))) hF (c_X3_mix l g (DgK h r (mixI x (bI (Hopen h r))) i) ((hL h) (r * 6 + i))) (va_cwS 2 hts gX3_mixRow_X3_mix rfl rfl rfl (by decide +kernel) ⟨Nat.le_of_ble_eq_true rfl, Nat.le_of_ble_eq_true rfl⟩) hE hP hD hS hA (List.Perm.refl _) (List.Perm.refl _) rfl hl.1 rfl (Nat.le_of_ble_eq_true rfl) dX3_mixRow_52 ⟨Nat.le_of_ble_eq_true rfl, Nat.le_of_ble_eq_true rfl⟩ (fun H locs hP hD hS => ?_)
      have hP : va_P g.1 vwCl ((wU u (ah 0) (a0 0) (at9 0)) ++ ((wH g ah h) ++ ((wT g at9 (sg, (nI n))) ++ ((wK0 g a0 ak ((nI od), (nI sz))) ++ (wHs g ak hs 6))))) _ := hP
      have hD : va_D A ((wU u (ah 0) (a0 0) (at9 0)) ++ ((wH g ah h) ++ ((wT g at9 (sg, (nI n))) ++ ((wK0 g a0 ak ((nI od), (nI sz))) ++ (wHs g ak hs 6))))) := hD
      refine lv_lstore (lv' := [(4, .long (mixI (DgK h r (mixI x (bI (Hopen h r))) i) ((hL h) (r * 6 + i)))), (7, .int (nI (r * 6 + i))), (6, .int (nI i)), (0, .ref u), (1, .long x), (3, .int (nI r))]) hx hb dX3_mixRow_55 hl (by decide) rfl (fun ls hl => ?_)
      refine lv_lload hx hb dX3_mixRow_57 (lv_at hl 0 rfl) ?_
      refine lv_aload_n hx hb dX3_mixRow_59 rfl (lv_at hl 3 rfl) ?_
      refine va_get (D := g.1) (ci := 3) (v := .ref (ah 0)) (C := RX3) (T := TX3) (N := 3) hx hb hts hiX3 hown hE.1 hP 0 rfl rfl 0 (by decide) f12 (fun _ h9 => h9) rfl dX3_mixRow_60 ?_
      refine va_get (D := g.1) (ci := 1) (v := .ref (ah 2)) (C := RX1) (T := TX1) (N := 12) hx hb hts hiX1 hown hE.1 hP 1 rfl rfl 1 (by decide) f116 (fun _ h9 => h9) rfl dX3_mixRow_63 ?_
      refine lv_iload hx hb dX3_mixRow_66 (lv_at hl 1 rfl) ?_
      refine k_iald (f := (hR h)) hx hb hE hP 3 rfl (r * 6 + i) rfl (by omega) (by decide) dX3_mixRow_68 ?_
      refine k_Sl (w0 := []) (w1 := []) (As := [.long (mixI (DgK h r (mixI x (bI (Hopen h r))) i) ((hL h) (r * 6 + i))), .int ((hR h) (r * 6 + i))]) (r := (mixI (mixI (DgK h r (mixI x (bI (Hopen h r))) i) ((hL h) (r * 6 + i))) ((hR h) (r * 6 + i)))) hF (c_X3_mix l g (mixI (DgK h r (mixI x (bI (Hopen h r))) i) ((hL h) (r * 6 + i))) ((hR h) (r * 6 + i))) (va_cwS 2 hts gX3_mixRow_X3_mix rfl rfl rfl (by decide +kernel) ⟨Nat.le_of_ble_eq_true rfl, Nat.le_of_ble_eq_true rfl⟩) hE hP hD hS hA (List.Perm.refl _) (List.Perm.refl _) rfl hl.1 rfl (Nat.le_of_ble_eq_true rfl) dX3_mixRow_69 ⟨Nat.le_of_ble_eq_true rfl, Nat.le_of_ble_eq_true rfl⟩ (fun H locs hP hD hS => ?_)
      have hP : va_P g.1 vwCl ((wU u (ah 0) (a0 0) (at9 0)) ++ ((wH g ah h) ++ ((wT g at9 (sg, (nI n))) ++ ((wK0 g a0 ak ((nI od), (nI sz))) ++ (wHs g ak hs 6))))) _ := hP
      have hD : va_D A ((wU u (ah 0) (a0 0) (at9 0)) ++ ((wH g ah h) ++ ((wT g at9 (sg, (nI n))) ++ ((wK0 g a0 ak ((nI od), (nI sz))) ++ (wHs g ak hs 6))))) := hD
      refine lv_lstore (lv' := [(4, .long (mixI (mixI (DgK h r (mixI x (bI (Hopen h r))) i) ((hL h) (r * 6 + i))) ((hR h) (r * 6 + i)))), (7, .int (nI (r * 6 + i))), (6, .int (nI i)), (0, .ref u), (1, .long x), (3, .int (nI r))]) hx hb dX3_mixRow_72 hl (by decide) rfl (fun ls hl => ?_)
      refine lv_lload hx hb dX3_mixRow_74 (lv_at hl 0 rfl) ?_
      refine lv_aload_n hx hb dX3_mixRow_76 rfl (lv_at hl 3 rfl) ?_
      refine va_get (D := g.1) (ci := 3) (v := .ref (ah 0)) (C := RX3) (T := TX3) (N := 3) hx hb hts hiX3 hown hE.1 hP 0 rfl rfl 0 (by decide) f12 (fun _ h9 => h9) rfl dX3_mixRow_77 ?_
      refine lv_iload hx hb dX3_mixRow_80 (lv_at hl 1 rfl) ?_
      refine k_Vi (As := [.int (nI (r * 6 + i))]) (r := (HfadesIn (r * 6 + i) h)) hF (c_X1_fadesIn l g ah h (r * 6 + i) (by omega)) (cwV 1 hts gX3_mixRow_X1_fadesIn rfl rfl rfl (by decide +kernel) ⟨Nat.le_of_ble_eq_true rfl, Nat.le_of_ble_eq_true rfl⟩) hE hP hD hS hA (pm_5_1 _ _ _ _ _) ((pm_5_1 _ _ _ _ _).symm) 1 rfl rfl rfl rfl hl.1 rfl (Nat.le_of_ble_eq_true rfl) dX3_mixRow_82 ⟨Nat.le_of_ble_eq_true rfl, Nat.le_of_ble_eq_true rfl⟩ (fun H locs hP hD hS => ?_)
      have hP : va_P g.1 vwCl ((wU u (ah 0) (a0 0) (at9 0)) ++ ((wH g ah h) ++ ((wT g at9 (sg, (nI n))) ++ ((wK0 g a0 ak ((nI od), (nI sz))) ++ (wHs g ak hs 6))))) _ := hP
      have hD : va_D A ((wU u (ah 0) (a0 0) (at9 0)) ++ ((wH g ah h) ++ ((wT g at9 (sg, (nI n))) ++ ((wK0 g a0 ak ((nI od), (nI sz))) ++ (wHs g ak hs 6))))) := hD
      refine k_Sl (w0 := []) (w1 := []) (As := [.long (mixI (mixI (DgK h r (mixI x (bI (Hopen h r))) i) ((hL h) (r * 6 + i))) ((hR h) (r * 6 + i))), .int (HfadesIn (r * 6 + i) h)]) (r := (mixI (mixI (mixI (DgK h r (mixI x (bI (Hopen h r))) i) ((hL h) (r * 6 + i))) ((hR h) (r * 6 + i))) (HfadesIn (r * 6 + i) h))) hF (c_X3_mix l g (mixI (mixI (DgK h r (mixI x (bI (Hopen h r))) i) ((hL h) (r * 6 + i))) ((hR h) (r * 6 + i))) (HfadesIn (r * 6 + i) h)) (va_cwS 2 hts gX3_mixRow_X3_mix rfl rfl rfl (by decide +kernel) ⟨Nat.le_of_ble_eq_true rfl, Nat.le_of_ble_eq_true rfl⟩) hE hP hD hS hA (List.Perm.refl _) (List.Perm.refl _) rfl hl.1 rfl (Nat.le_of_ble_eq_true rfl) dX3_mixRow_85 ⟨Nat.le_of_ble_eq_true rfl, Nat.le_of_ble_eq_true rfl⟩ (fun H locs hP hD hS => ?_)
      have hP : va_P g.1 vwCl ((wU u (ah 0) (a0 0) (at9 0)) ++ ((wH g ah h) ++ ((wT g at9 (sg, (nI n))) ++ ((wK0 g a0 ak ((nI od), (nI sz))) ++ (wHs g ak hs 6))))) _ := hP
      have hD : va_D A ((wU u (ah 0) (a0 0) (at9 0)) ++ ((wH g ah h) ++ ((wT g at9 (sg, (nI n))) ++ ((wK0 g a0 ak ((nI od), (nI sz))) ++ (wHs g ak hs 6))))) := hD
      refine lv_lstore (lv' := [(4, .long (mixI (mixI (mixI (DgK h r (mixI x (bI (Hopen h r))) i) ((hL h) (r * 6 + i))) ((hR h) (r * 6 + i))) (HfadesIn (r * 6 + i) h))), (7, .int (nI (r * 6 + i))), (6, .int (nI i)), (0, .ref u), (1, .long x), (3, .int (nI r))]) hx hb dX3_mixRow_88 hl (by decide) rfl (fun ls hl => ?_)
      refine lv_iinc (v := (nI (i + 1))) (lv' := [(6, .int (nI (i + 1))), (4, .long (mixI (mixI (mixI (DgK h r (mixI x (bI (Hopen h r))) i) ((hL h) (r * 6 + i))) ((hR h) (r * 6 + i))) (HfadesIn (r * 6 + i) h))), (7, .int (nI (r * 6 + i))), (0, .ref u), (1, .long x), (3, .int (nI r))]) hx hb dX3_mixRow_90 hl (k := 2) rfl (k_inc1 _) (by decide) rfl (fun ls hl => ?_)
      refine lv_goto (tgt := 25) hx hb dX3_mixRow_93 (by decide) ?_
      have e6 : (DgK h r (mixI x (bI (Hopen h r))) (i + 1)) = (mixI (mixI (mixI (DgK h r (mixI x (bI (Hopen h r))) i) ((hL h) (r * 6 + i))) ((hR h) (r * 6 + i))) (HfadesIn (r * 6 + i) h)) := (by first | (simp only [DgRow, DgK, bI, if_neg (Nat.not_le.mpr c5), if_pos (Nat.not_le.mpr c5)]; done) | (simp only [DgRow, DgK, bI, if_neg (Nat.not_le.mpr c5), if_pos (Nat.not_le.mpr c5)]; rfl) | rfl | (simp [DgRow, DgK, bI, if_neg (Nat.not_le.mpr c5), if_pos (Nat.not_le.mpr c5)]; done))
      exact ih3 _ _ _ (by omega) ⟨hP, hD, hS, (by rw [e6]; exact lv_sub hl [0, 1, 3, 4, 5] rfl)⟩
set_option maxHeartbeats 4000000 in
set_option maxRecDepth 100000 in
theorem c_X3_digest (l : Launch) (g : kG) (u : Nat) (ah at9 a0 : Nat → Nat) (ak : Nat → Nat → Nat) (h : HSt) (sg : Nat → Int32) (n : Nat) (hn : n ≤ 60) (hch : Tok sg n) (od sz : Nat) (hod : od < 6) (hsz : sz ≤ 6) (hs : Nat → HSt) (hbo : Hbo h) (hbs : ∀ j, Hbo (hs j)) : KL l yX3_digest wsX3_digest ({ frames := 5, cells := 0, slots := 0, locals := 109 }) g [.ref u] ((wU u (ah 0) (a0 0) (at9 0)) ++ ((wH g ah h) ++ ((wT g at9 (sg, (nI n))) ++ ((wK0 g a0 ak ((nI od), (nI sz))) ++ (wHs g ak hs 6))))) (Udig h) ((wU u (ah 0) (a0 0) (at9 0)) ++ ((wH g ah h) ++ ((wT g at9 (sg, (nI n))) ++ ((wK0 g a0 ak ((nI od), (nI sz))) ++ (wHs g ak hs 6))))) 0 0 := by
  refine k_begin (cc := cX3_digest) (maxL := 4) (ret := (some .long)) (Qc := fun A => kQl g (Udig h) ((wU u (ah 0) (a0 0) (at9 0)) ++ ((wH g ah h) ++ ((wT g at9 (sg, (nI n))) ++ ((wK0 g a0 ak ((nI od), (nI sz))) ++ (wHs g ak hs 6))))) A) (by decide) rfl (Nat.le_of_ble_eq_true rfl) ?_
  intro p e s m below meth c A ls hF hr hlocks hin hE hP hD hS hA hl
  obtain ⟨hx, hb, hml, hown, hts⟩ := id hF
  have hown : s.vm.findClass RX3 = some m.cls := hown
  have hl : lv_has ls 4 [(0, .ref u)] := hl
  have hiX3 : ∀ w ∈ wsX30, w ∈ wsX3_digest := fun _ h => List.mem_cons_of_mem _ (List.mem_append_left _ (List.mem_append_right _ (h)))
  have hiX1 : ∀ w ∈ wsX10, w ∈ wsX3_digest := fun _ h => List.mem_cons_of_mem _ (List.mem_append_right _ (h))
  have cst189 : (Cond.constantLong RX3 189 (4701)).before _ s = true := hts _ (List.mem_of_getElem? (i := 1) rfl)
  have f12 : (Cond.fieldLink RX3 12 "ConcertUsher" "hall" "LConcertUsher$Hall;").before _ s = true := hts _ (List.mem_of_getElem? (i := 2) rfl)
  have f138 : (Cond.fieldLink RX3 138 "ConcertUsher$Hall" "minutes" "I").before _ s = true := hts _ (List.mem_of_getElem? (i := 3) rfl)
  have f141 : (Cond.fieldLink RX3 141 "ConcertUsher$Hall" "sinceQuestion" "I").before _ s = true := hts _ (List.mem_of_getElem? (i := 4) rfl)
  have f146 : (Cond.fieldLink RX3 146 "ConcertUsher$Hall" "counts" "[I").before _ s = true := hts _ (List.mem_of_getElem? (i := 5) rfl)
  refine lv_ldc2 hx hb hown cst189 dX3_digest_0 ?_
  refine lv_lstore_n (lv' := [(1, .long 4701), (0, .ref u)]) hx hb dX3_digest_3 rfl hl (by decide) rfl (fun ls hl => ?_)
  refine lv_lload_n hx hb dX3_digest_4 rfl (lv_at hl 0 rfl) ?_
  refine lv_aload_n hx hb dX3_digest_5 rfl (lv_at hl 1 rfl) ?_
  refine va_get (D := g.1) (ci := 3) (v := .ref (ah 0)) (C := RX3) (T := TX3) (N := 3) hx hb hts hiX3 hown hE.1 hP 0 rfl rfl 0 (by decide) f12 (fun _ h9 => h9) rfl dX3_digest_6 ?_
  refine va_get (D := g.1) (ci := 1) (v := .int (hmn h)) (C := RX1) (T := TX1) (N := 12) hx hb hts hiX1 hown hE.1 hP 1 rfl rfl 10 (by decide) f138 (fun _ h9 => h9) rfl dX3_digest_9 ?_
  refine k_Sl (w0 := []) (w1 := []) (As := [.long 4701, .int (hmn h)]) (r := (mixI 4701 (hmn h))) hF (c_X3_mix l g 4701 (hmn h)) (va_cwS 2 hts gX3_digest_X3_mix rfl rfl rfl (by decide +kernel) ⟨Nat.le_of_ble_eq_true rfl, Nat.le_of_ble_eq_true rfl⟩) hE hP hD hS hA (List.Perm.refl _) (List.Perm.refl _) rfl hl.1 rfl (Nat.le_of_ble_eq_true rfl) dX3_digest_12 ⟨Nat.le_of_ble_eq_true rfl, Nat.le_of_ble_eq_true rfl⟩ (fun H locs hP hD hS => ?_)
  have hP : va_P g.1 vwCl ((wU u (ah 0) (a0 0) (at9 0)) ++ ((wH g ah h) ++ ((wT g at9 (sg, (nI n))) ++ ((wK0 g a0 ak ((nI od), (nI sz))) ++ (wHs g ak hs 6))))) _ := hP
  have hD : va_D A ((wU u (ah 0) (a0 0) (at9 0)) ++ ((wH g ah h) ++ ((wT g at9 (sg, (nI n))) ++ ((wK0 g a0 ak ((nI od), (nI sz))) ++ (wHs g ak hs 6))))) := hD
  refine lv_lstore_n (lv' := [(1, .long (mixI 4701 (hmn h))), (0, .ref u)]) hx hb dX3_digest_15 rfl hl (by decide) rfl (fun ls hl => ?_)
  refine lv_lload_n hx hb dX3_digest_16 rfl (lv_at hl 0 rfl) ?_
  refine lv_aload_n hx hb dX3_digest_17 rfl (lv_at hl 1 rfl) ?_
  refine va_get (D := g.1) (ci := 3) (v := .ref (ah 0)) (C := RX3) (T := TX3) (N := 3) hx hb hts hiX3 hown hE.1 hP 0 rfl rfl 0 (by decide) f12 (fun _ h9 => h9) rfl dX3_digest_18 ?_
  refine va_get (D := g.1) (ci := 1) (v := .int (hsn h)) (C := RX1) (T := TX1) (N := 12) hx hb hts hiX1 hown hE.1 hP 1 rfl rfl 11 (by decide) f141 (fun _ h9 => h9) rfl dX3_digest_21 ?_
  refine k_Sl (w0 := []) (w1 := []) (As := [.long (mixI 4701 (hmn h)), .int (hsn h)]) (r := (mixI (mixI 4701 (hmn h)) (hsn h))) hF (c_X3_mix l g (mixI 4701 (hmn h)) (hsn h)) (va_cwS 2 hts gX3_digest_X3_mix rfl rfl rfl (by decide +kernel) ⟨Nat.le_of_ble_eq_true rfl, Nat.le_of_ble_eq_true rfl⟩) hE hP hD hS hA (List.Perm.refl _) (List.Perm.refl _) rfl hl.1 rfl (Nat.le_of_ble_eq_true rfl) dX3_digest_24 ⟨Nat.le_of_ble_eq_true rfl, Nat.le_of_ble_eq_true rfl⟩ (fun H locs hP hD hS => ?_)
  have hP : va_P g.1 vwCl ((wU u (ah 0) (a0 0) (at9 0)) ++ ((wH g ah h) ++ ((wT g at9 (sg, (nI n))) ++ ((wK0 g a0 ak ((nI od), (nI sz))) ++ (wHs g ak hs 6))))) _ := hP
  have hD : va_D A ((wU u (ah 0) (a0 0) (at9 0)) ++ ((wH g ah h) ++ ((wT g at9 (sg, (nI n))) ++ ((wK0 g a0 ak ((nI od), (nI sz))) ++ (wHs g ak hs 6))))) := hD
  refine lv_lstore_n (lv' := [(1, .long (mixI (mixI 4701 (hmn h)) (hsn h))), (0, .ref u)]) hx hb dX3_digest_27 rfl hl (by decide) rfl (fun ls hl => ?_)
  refine lv_lload_n hx hb dX3_digest_28 rfl (lv_at hl 0 rfl) ?_
  refine lv_aload_n hx hb dX3_digest_29 rfl (lv_at hl 1 rfl) ?_
  refine va_get (D := g.1) (ci := 3) (v := .ref (ah 0)) (C := RX3) (T := TX3) (N := 3) hx hb hts hiX3 hown hE.1 hP 0 rfl rfl 0 (by decide) f12 (fun _ h9 => h9) rfl dX3_digest_30 ?_
  refine k_Vi (As := []) (r := (Hchief h)) hF (c_X1_chiefAsker l g ah h) (cwV 0 hts gX3_digest_X1_chiefAsker rfl rfl rfl (by decide +kernel) ⟨Nat.le_of_ble_eq_true rfl, Nat.le_of_ble_eq_true rfl⟩) hE hP hD hS hA (pm_5_1 _ _ _ _ _) ((pm_5_1 _ _ _ _ _).symm) 1 rfl rfl rfl rfl hl.1 rfl (Nat.le_of_ble_eq_true rfl) dX3_digest_33 ⟨Nat.le_of_ble_eq_true rfl, Nat.le_of_ble_eq_true rfl⟩ (fun H locs hP hD hS => ?_)
  have hP : va_P g.1 vwCl ((wU u (ah 0) (a0 0) (at9 0)) ++ ((wH g ah h) ++ ((wT g at9 (sg, (nI n))) ++ ((wK0 g a0 ak ((nI od), (nI sz))) ++ (wHs g ak hs 6))))) _ := hP
  have hD : va_D A ((wU u (ah 0) (a0 0) (at9 0)) ++ ((wH g ah h) ++ ((wT g at9 (sg, (nI n))) ++ ((wK0 g a0 ak ((nI od), (nI sz))) ++ (wHs g ak hs 6))))) := hD
  refine k_Sl (w0 := []) (w1 := []) (As := [.long (mixI (mixI 4701 (hmn h)) (hsn h)), .int (Hchief h)]) (r := (mixI (mixI (mixI 4701 (hmn h)) (hsn h)) (Hchief h))) hF (c_X3_mix l g (mixI (mixI 4701 (hmn h)) (hsn h)) (Hchief h)) (va_cwS 2 hts gX3_digest_X3_mix rfl rfl rfl (by decide +kernel) ⟨Nat.le_of_ble_eq_true rfl, Nat.le_of_ble_eq_true rfl⟩) hE hP hD hS hA (List.Perm.refl _) (List.Perm.refl _) rfl hl.1 rfl (Nat.le_of_ble_eq_true rfl) dX3_digest_36 ⟨Nat.le_of_ble_eq_true rfl, Nat.le_of_ble_eq_true rfl⟩ (fun H locs hP hD hS => ?_)
  have hP : va_P g.1 vwCl ((wU u (ah 0) (a0 0) (at9 0)) ++ ((wH g ah h) ++ ((wT g at9 (sg, (nI n))) ++ ((wK0 g a0 ak ((nI od), (nI sz))) ++ (wHs g ak hs 6))))) _ := hP
  have hD : va_D A ((wU u (ah 0) (a0 0) (at9 0)) ++ ((wH g ah h) ++ ((wT g at9 (sg, (nI n))) ++ ((wK0 g a0 ak ((nI od), (nI sz))) ++ (wHs g ak hs 6))))) := hD
  refine lv_lstore_n (lv' := [(1, .long (mixI (mixI (mixI 4701 (hmn h)) (hsn h)) (Hchief h))), (0, .ref u)]) hx hb dX3_digest_39 rfl hl (by decide) rfl (fun ls hl => ?_)
  refine lv_lload_n hx hb dX3_digest_40 rfl (lv_at hl 0 rfl) ?_
  refine lv_aload_n hx hb dX3_digest_41 rfl (lv_at hl 1 rfl) ?_
  refine va_get (D := g.1) (ci := 3) (v := .ref (ah 0)) (C := RX3) (T := TX3) (N := 3) hx hb hts hiX3 hown hE.1 hP 0 rfl rfl 0 (by decide) f12 (fun _ h9 => h9) rfl dX3_digest_42 ?_
  refine k_Vi (As := []) (r := (nI (Hent (hR h) 48))) hF (c_X1_entriesInAll l g ah h) (cwV 0 hts gX3_digest_X1_entriesInAll rfl rfl rfl (by decide +kernel) ⟨Nat.le_of_ble_eq_true rfl, Nat.le_of_ble_eq_true rfl⟩) hE hP hD hS hA (pm_5_1 _ _ _ _ _) ((pm_5_1 _ _ _ _ _).symm) 1 rfl rfl rfl rfl hl.1 rfl (Nat.le_of_ble_eq_true rfl) dX3_digest_45 ⟨Nat.le_of_ble_eq_true rfl, Nat.le_of_ble_eq_true rfl⟩ (fun H locs hP hD hS => ?_)
  have hP : va_P g.1 vwCl ((wU u (ah 0) (a0 0) (at9 0)) ++ ((wH g ah h) ++ ((wT g at9 (sg, (nI n))) ++ ((wK0 g a0 ak ((nI od), (nI sz))) ++ (wHs g ak hs 6))))) _ := hP
  have hD : va_D A ((wU u (ah 0) (a0 0) (at9 0)) ++ ((wH g ah h) ++ ((wT g at9 (sg, (nI n))) ++ ((wK0 g a0 ak ((nI od), (nI sz))) ++ (wHs g ak hs 6))))) := hD
  refine k_Sl (w0 := []) (w1 := []) (As := [.long (mixI (mixI (mixI 4701 (hmn h)) (hsn h)) (Hchief h)), .int (nI (Hent (hR h) 48))]) (r := (mixI (mixI (mixI (mixI 4701 (hmn h)) (hsn h)) (Hchief h)) (nI (Hent (hR h) 48)))) hF (c_X3_mix l g (mixI (mixI (mixI 4701 (hmn h)) (hsn h)) (Hchief h)) (nI (Hent (hR h) 48))) (va_cwS 2 hts gX3_digest_X3_mix rfl rfl rfl (by decide +kernel) ⟨Nat.le_of_ble_eq_true rfl, Nat.le_of_ble_eq_true rfl⟩) hE hP hD hS hA (List.Perm.refl _) (List.Perm.refl _) rfl hl.1 rfl (Nat.le_of_ble_eq_true rfl) dX3_digest_48 ⟨Nat.le_of_ble_eq_true rfl, Nat.le_of_ble_eq_true rfl⟩ (fun H locs hP hD hS => ?_)
  have hP : va_P g.1 vwCl ((wU u (ah 0) (a0 0) (at9 0)) ++ ((wH g ah h) ++ ((wT g at9 (sg, (nI n))) ++ ((wK0 g a0 ak ((nI od), (nI sz))) ++ (wHs g ak hs 6))))) _ := hP
  have hD : va_D A ((wU u (ah 0) (a0 0) (at9 0)) ++ ((wH g ah h) ++ ((wT g at9 (sg, (nI n))) ++ ((wK0 g a0 ak ((nI od), (nI sz))) ++ (wHs g ak hs 6))))) := hD
  refine lv_lstore_n (lv' := [(1, .long (mixI (mixI (mixI (mixI 4701 (hmn h)) (hsn h)) (Hchief h)) (nI (Hent (hR h) 48)))), (0, .ref u)]) hx hb dX3_digest_51 rfl hl (by decide) rfl (fun ls hl => ?_)
  refine lv_lload_n hx hb dX3_digest_52 rfl (lv_at hl 0 rfl) ?_
  refine lv_aload_n hx hb dX3_digest_53 rfl (lv_at hl 1 rfl) ?_
  refine va_get (D := g.1) (ci := 3) (v := .ref (ah 0)) (C := RX3) (T := TX3) (N := 3) hx hb hts hiX3 hown hE.1 hP 0 rfl rfl 0 (by decide) f12 (fun _ h9 => h9) rfl dX3_digest_54 ?_
  refine k_Vi (As := []) (r := (HasksIn h)) hF (c_X1_asksIn l g ah h) (cwV 0 hts gX3_digest_X1_asksIn rfl rfl rfl (by decide +kernel) ⟨Nat.le_of_ble_eq_true rfl, Nat.le_of_ble_eq_true rfl⟩) hE hP hD hS hA (pm_5_1 _ _ _ _ _) ((pm_5_1 _ _ _ _ _).symm) 1 rfl rfl rfl rfl hl.1 rfl (Nat.le_of_ble_eq_true rfl) dX3_digest_57 ⟨Nat.le_of_ble_eq_true rfl, Nat.le_of_ble_eq_true rfl⟩ (fun H locs hP hD hS => ?_)
  have hP : va_P g.1 vwCl ((wU u (ah 0) (a0 0) (at9 0)) ++ ((wH g ah h) ++ ((wT g at9 (sg, (nI n))) ++ ((wK0 g a0 ak ((nI od), (nI sz))) ++ (wHs g ak hs 6))))) _ := hP
  have hD : va_D A ((wU u (ah 0) (a0 0) (at9 0)) ++ ((wH g ah h) ++ ((wT g at9 (sg, (nI n))) ++ ((wK0 g a0 ak ((nI od), (nI sz))) ++ (wHs g ak hs 6))))) := hD
  refine k_Sl (w0 := []) (w1 := []) (As := [.long (mixI (mixI (mixI (mixI 4701 (hmn h)) (hsn h)) (Hchief h)) (nI (Hent (hR h) 48))), .int (HasksIn h)]) (r := (mixI (mixI (mixI (mixI (mixI 4701 (hmn h)) (hsn h)) (Hchief h)) (nI (Hent (hR h) 48))) (HasksIn h))) hF (c_X3_mix l g (mixI (mixI (mixI (mixI 4701 (hmn h)) (hsn h)) (Hchief h)) (nI (Hent (hR h) 48))) (HasksIn h)) (va_cwS 2 hts gX3_digest_X3_mix rfl rfl rfl (by decide +kernel) ⟨Nat.le_of_ble_eq_true rfl, Nat.le_of_ble_eq_true rfl⟩) hE hP hD hS hA (List.Perm.refl _) (List.Perm.refl _) rfl hl.1 rfl (Nat.le_of_ble_eq_true rfl) dX3_digest_60 ⟨Nat.le_of_ble_eq_true rfl, Nat.le_of_ble_eq_true rfl⟩ (fun H locs hP hD hS => ?_)
  have hP : va_P g.1 vwCl ((wU u (ah 0) (a0 0) (at9 0)) ++ ((wH g ah h) ++ ((wT g at9 (sg, (nI n))) ++ ((wK0 g a0 ak ((nI od), (nI sz))) ++ (wHs g ak hs 6))))) _ := hP
  have hD : va_D A ((wU u (ah 0) (a0 0) (at9 0)) ++ ((wH g ah h) ++ ((wT g at9 (sg, (nI n))) ++ ((wK0 g a0 ak ((nI od), (nI sz))) ++ (wHs g ak hs 6))))) := hD
  refine lv_lstore_n (lv' := [(1, .long (mixI (mixI (mixI (mixI (mixI 4701 (hmn h)) (hsn h)) (Hchief h)) (nI (Hent (hR h) 48))) (HasksIn h))), (0, .ref u)]) hx hb dX3_digest_63 rfl hl (by decide) rfl (fun ls hl => ?_)
  refine lv_iconst (v := (nI 0)) hx hb dX3_digest_64 (by decide) ?_
  refine lv_istore_n (lv' := [(3, .int (nI 0)), (1, .long (mixI (mixI (mixI (mixI (mixI 4701 (hmn h)) (hsn h)) (Hchief h)) (nI (Hent (hR h) 48))) (HasksIn h))), (0, .ref u)]) hx hb dX3_digest_65 rfl hl (by decide) rfl (fun ls hl => ?_)
  refine k_loop (N := 6) (Inv := fun (i : Nat) (H : Heap) (locs : List Loc) (ls : Array Slot) => va_P g.1 vwCl ((wU u (ah 0) (a0 0) (at9 0)) ++ ((wH g ah h) ++ ((wT g at9 (sg, (nI n))) ++ ((wK0 g a0 ak ((nI od), (nI sz))) ++ (wHs g ak hs 6))))) H ∧ va_D A ((wU u (ah 0) (a0 0) (at9 0)) ++ ((wH g ah h) ++ ((wT g at9 (sg, (nI n))) ++ ((wK0 g a0 ak ((nI od), (nI sz))) ++ (wHs g ak hs 6))))) ∧ va_S A s.heap H locs ∧ lv_has ls 4 [(3, .int (nI i)), (1, .long (DgC (hC h) (mixI (mixI (mixI (mixI (mixI 4701 (hmn h)) (hsn h)) (Hchief h)) (nI (Hent (hR h) 48))) (HasksIn h)) i)), (0, .ref u)]) 0 (Nat.zero_le _) ⟨hP, hD, hS, lv_sub hl [0, 1, 2] rfl⟩ (fun i hle2 ih1 H locs ls hinv => ?_)
  obtain ⟨hP, hD, hS, hl⟩ := hinv
  refine lv_iload_n hx hb dX3_digest_66 rfl (lv_at hl 0 rfl) ?_
  refine lv_bipush (v := (nI 6)) hx hb dX3_digest_67 (by decide) ?_
  refine k_geN (tgt := 92) hx hb (by omega) (by decide) dX3_digest_69 (by decide) (fun c3 => ?_) (fun c3 => ?_)
  ·
    obtain rfl : 6 = i := by omega
    refine lv_iconst (v := (nI 0)) hx hb dX3_digest_92 (by decide) ?_
    refine lv_istore_n (lv' := [(3, .int (nI 0)), (1, .long (DgC (hC h) (mixI (mixI (mixI (mixI (mixI 4701 (hmn h)) (hsn h)) (Hchief h)) (nI (Hent (hR h) 48))) (HasksIn h)) 6)), (0, .ref u)]) hx hb dX3_digest_93 rfl hl (by decide) rfl (fun ls hl => ?_)
    refine k_loop (N := 6) (Inv := fun (i2 : Nat) (H : Heap) (locs : List Loc) (ls : Array Slot) => va_P g.1 vwCl ((wU u (ah 0) (a0 0) (at9 0)) ++ ((wH g ah h) ++ ((wT g at9 (sg, (nI n))) ++ ((wK0 g a0 ak ((nI od), (nI sz))) ++ (wHs g ak hs 6))))) H ∧ va_D A ((wU u (ah 0) (a0 0) (at9 0)) ++ ((wH g ah h) ++ ((wT g at9 (sg, (nI n))) ++ ((wK0 g a0 ak ((nI od), (nI sz))) ++ (wHs g ak hs 6))))) ∧ va_S A s.heap H locs ∧ lv_has ls 4 [(3, .int (nI i2)), (1, .long (DgM h (DgC (hC h) (mixI (mixI (mixI (mixI (mixI 4701 (hmn h)) (hsn h)) (Hchief h)) (nI (Hent (hR h) 48))) (HasksIn h)) 6) i2)), (0, .ref u)]) 0 (Nat.zero_le _) ⟨hP, hD, hS, lv_sub hl [0, 1, 2] rfl⟩ (fun i2 hle5 ih4 H locs ls hinv => ?_)
    obtain ⟨hP, hD, hS, hl⟩ := hinv
    refine lv_iload_n hx hb dX3_digest_94 rfl (lv_at hl 0 rfl) ?_
    refine lv_bipush (v := (nI 6)) hx hb dX3_digest_95 (by decide) ?_
    refine k_geN (tgt := 132) hx hb (by omega) (by decide) dX3_digest_97 (by decide) (fun c6 => ?_) (fun c6 => ?_)
    ·
      obtain rfl : 6 = i2 := by omega
      refine lv_iconst (v := (nI 0)) hx hb dX3_digest_132 (by decide) ?_
      refine lv_istore_n (lv' := [(3, .int (nI 0)), (1, .long (DgM h (DgC (hC h) (mixI (mixI (mixI (mixI (mixI 4701 (hmn h)) (hsn h)) (Hchief h)) (nI (Hent (hR h) 48))) (HasksIn h)) 6) 6)), (0, .ref u)]) hx hb dX3_digest_133 rfl hl (by decide) rfl (fun ls hl => ?_)
      refine k_loop (N := 8) (Inv := fun (i3 : Nat) (H : Heap) (locs : List Loc) (ls : Array Slot) => va_P g.1 vwCl ((wU u (ah 0) (a0 0) (at9 0)) ++ ((wH g ah h) ++ ((wT g at9 (sg, (nI n))) ++ ((wK0 g a0 ak ((nI od), (nI sz))) ++ (wHs g ak hs 6))))) H ∧ va_D A ((wU u (ah 0) (a0 0) (at9 0)) ++ ((wH g ah h) ++ ((wT g at9 (sg, (nI n))) ++ ((wK0 g a0 ak ((nI od), (nI sz))) ++ (wHs g ak hs 6))))) ∧ va_S A s.heap H locs ∧ lv_has ls 4 [(3, .int (nI i3)), (1, .long (DgR h (DgM h (DgC (hC h) (mixI (mixI (mixI (mixI (mixI 4701 (hmn h)) (hsn h)) (Hchief h)) (nI (Hent (hR h) 48))) (HasksIn h)) 6) 6) i3)), (0, .ref u)]) 0 (Nat.zero_le _) ⟨hP, hD, hS, lv_sub hl [0, 1, 2] rfl⟩ (fun i3 hle8 ih7 H locs ls hinv => ?_)
      obtain ⟨hP, hD, hS, hl⟩ := hinv
      refine lv_iload_n hx hb dX3_digest_134 rfl (lv_at hl 0 rfl) ?_
      refine lv_bipush (v := (nI 8)) hx hb dX3_digest_135 (by decide) ?_
      refine k_geN (tgt := 153) hx hb (by omega) (by decide) dX3_digest_137 (by decide) (fun c9 => ?_) (fun c9 => ?_)
      ·
        obtain rfl : 8 = i3 := by omega
        refine lv_lload_n hx hb dX3_digest_153 rfl (lv_at hl 1 rfl) ?_
        have hP : va_P g.1 vwCl ((wU u (ah 0) (a0 0) (at9 0)) ++ ((wH g ah h) ++ ((wT g at9 (sg, (nI n))) ++ ((wK0 g a0 ak ((nI od), (nI sz))) ++ (wHs g ak hs 6))))) _ := hP
        have hD : va_D A ((wU u (ah 0) (a0 0) (at9 0)) ++ ((wH g ah h) ++ ((wT g at9 (sg, (nI n))) ++ ((wK0 g a0 ak ((nI od), (nI sz))) ++ (wHs g ak hs 6))))) := hD
        exact k_lret hx hb hr hlocks (by first | (simp only [Udig, bI, if_pos c3, if_neg (not_not_intro c3), if_pos c6, if_neg (not_not_intro c6), if_pos c9, if_neg (not_not_intro c9)]; done) | (simp only [Udig, bI, if_pos c3, if_neg (not_not_intro c3), if_pos c6, if_neg (not_not_intro c6), if_pos c9, if_neg (not_not_intro c9)]; rfl) | rfl | (simp [Udig, bI, if_pos c3, if_neg (not_not_intro c3), if_pos c6, if_neg (not_not_intro c6), if_pos c9, if_neg (not_not_intro c9)]; done)) hP hD hS (Nat.le_of_ble_eq_true rfl) (Nat.le_of_ble_eq_true rfl) dX3_digest_154
      ·
        refine lv_aload_n hx hb dX3_digest_140 rfl (lv_at hl 2 rfl) ?_
        refine lv_lload_n hx hb dX3_digest_141 rfl (lv_at hl 1 rfl) ?_
        refine lv_iload_n hx hb dX3_digest_142 rfl (lv_at hl 0 rfl) ?_
        refine k_Vl (As := [.long (DgR h (DgM h (DgC (hC h) (mixI (mixI (mixI (mixI (mixI 4701 (hmn h)) (hsn h)) (Hchief h)) (nI (Hent (hR h) 48))) (HasksIn h)) 6) 6) i3), .int (nI i3)]) (r := (DgRow h (DgR h (DgM h (DgC (hC h) (mixI (mixI (mixI (mixI (mixI 4701 (hmn h)) (hsn h)) (Hchief h)) (nI (Hent (hR h) 48))) (HasksIn h)) 6) 6) i3) i3)) hF (c_X3_mixRow l g u ah at9 a0 ak h sg n (by omega) hch od sz (by omega) (by omega) hs hbo hbs (DgR h (DgM h (DgC (hC h) (mixI (mixI (mixI (mixI (mixI 4701 (hmn h)) (hsn h)) (Hchief h)) (nI (Hent (hR h) 48))) (HasksIn h)) 6) 6) i3) i3 (by omega)) (cwV 2 hts gX3_digest_X3_mixRow rfl rfl rfl (by decide +kernel) ⟨Nat.le_of_ble_eq_true rfl, Nat.le_of_ble_eq_true rfl⟩) hE hP hD hS hA (k_pall _) ((k_pall _).symm) 0 rfl rfl rfl rfl hl.1 rfl (Nat.le_of_ble_eq_true rfl) dX3_digest_143 ⟨Nat.le_of_ble_eq_true rfl, Nat.le_of_ble_eq_true rfl⟩ (fun H locs hP hD hS => ?_)
        have hP : va_P g.1 vwCl ((wU u (ah 0) (a0 0) (at9 0)) ++ ((wH g ah h) ++ ((wT g at9 (sg, (nI n))) ++ ((wK0 g a0 ak ((nI od), (nI sz))) ++ (wHs g ak hs 6))))) _ := hP
        have hD : va_D A ((wU u (ah 0) (a0 0) (at9 0)) ++ ((wH g ah h) ++ ((wT g at9 (sg, (nI n))) ++ ((wK0 g a0 ak ((nI od), (nI sz))) ++ (wHs g ak hs 6))))) := hD
        refine lv_lstore_n (lv' := [(1, .long (DgRow h (DgR h (DgM h (DgC (hC h) (mixI (mixI (mixI (mixI (mixI 4701 (hmn h)) (hsn h)) (Hchief h)) (nI (Hent (hR h) 48))) (HasksIn h)) 6) 6) i3) i3)), (3, .int (nI i3)), (0, .ref u)]) hx hb dX3_digest_146 rfl hl (by decide) rfl (fun ls hl => ?_)
        refine lv_iinc (v := (nI (i3 + 1))) (lv' := [(3, .int (nI (i3 + 1))), (1, .long (DgRow h (DgR h (DgM h (DgC (hC h) (mixI (mixI (mixI (mixI (mixI 4701 (hmn h)) (hsn h)) (Hchief h)) (nI (Hent (hR h) 48))) (HasksIn h)) 6) 6) i3) i3)), (0, .ref u)]) hx hb dX3_digest_147 hl (k := 1) rfl (k_inc1 _) (by decide) rfl (fun ls hl => ?_)
        refine lv_goto (tgt := 134) hx hb dX3_digest_150 (by decide) ?_
        have e10 : (DgR h (DgM h (DgC (hC h) (mixI (mixI (mixI (mixI (mixI 4701 (hmn h)) (hsn h)) (Hchief h)) (nI (Hent (hR h) 48))) (HasksIn h)) 6) 6) (i3 + 1)) = (DgRow h (DgR h (DgM h (DgC (hC h) (mixI (mixI (mixI (mixI (mixI 4701 (hmn h)) (hsn h)) (Hchief h)) (nI (Hent (hR h) 48))) (HasksIn h)) 6) 6) i3) i3) := (by first | (simp only [Udig, DgR, bI, if_pos c3, if_neg (not_not_intro c3), if_pos c6, if_neg (not_not_intro c6), if_neg (Nat.not_le.mpr c9), if_pos (Nat.not_le.mpr c9)]; done) | (simp only [Udig, DgR, bI, if_pos c3, if_neg (not_not_intro c3), if_pos c6, if_neg (not_not_intro c6), if_neg (Nat.not_le.mpr c9), if_pos (Nat.not_le.mpr c9)]; rfl) | rfl | (simp [Udig, DgR, bI, if_pos c3, if_neg (not_not_intro c3), if_pos c6, if_neg (not_not_intro c6), if_neg (Nat.not_le.mpr c9), if_pos (Nat.not_le.mpr c9)]; done))
        exact ih7 _ _ _ (by omega) ⟨hP, hD, hS, (by rw [e10]; exact lv_sub hl [0, 1, 2] rfl)⟩
    ·
      refine lv_lload_n hx hb dX3_digest_100 rfl (lv_at hl 1 rfl) ?_
      refine lv_aload_n hx hb dX3_digest_101 rfl (lv_at hl 2 rfl) ?_
      refine va_get (D := g.1) (ci := 3) (v := .ref (ah 0)) (C := RX3) (T := TX3) (N := 3) hx hb hts hiX3 hown hE.1 hP 0 rfl rfl 0 (by decide) f12 (fun _ h9 => h9) rfl dX3_digest_102 ?_
      refine lv_iload_n hx hb dX3_digest_105 rfl (lv_at hl 0 rfl) ?_
      refine k_Vi (As := [.int (nI i2)]) (r := (Hget h i2 8)) hF (c_X1_rowsThatGet l g ah h i2 (by omega)) (cwV 1 hts gX3_digest_X1_rowsThatGet rfl rfl rfl (by decide +kernel) ⟨Nat.le_of_ble_eq_true rfl, Nat.le_of_ble_eq_true rfl⟩) hE hP hD hS hA (pm_5_1 _ _ _ _ _) ((pm_5_1 _ _ _ _ _).symm) 1 rfl rfl rfl rfl hl.1 rfl (Nat.le_of_ble_eq_true rfl) dX3_digest_106 ⟨Nat.le_of_ble_eq_true rfl, Nat.le_of_ble_eq_true rfl⟩ (fun H locs hP hD hS => ?_)
      have hP : va_P g.1 vwCl ((wU u (ah 0) (a0 0) (at9 0)) ++ ((wH g ah h) ++ ((wT g at9 (sg, (nI n))) ++ ((wK0 g a0 ak ((nI od), (nI sz))) ++ (wHs g ak hs 6))))) _ := hP
      have hD : va_D A ((wU u (ah 0) (a0 0) (at9 0)) ++ ((wH g ah h) ++ ((wT g at9 (sg, (nI n))) ++ ((wK0 g a0 ak ((nI od), (nI sz))) ++ (wHs g ak hs 6))))) := hD
      refine k_Sl (w0 := []) (w1 := []) (As := [.long (DgM h (DgC (hC h) (mixI (mixI (mixI (mixI (mixI 4701 (hmn h)) (hsn h)) (Hchief h)) (nI (Hent (hR h) 48))) (HasksIn h)) 6) i2), .int (Hget h i2 8)]) (r := (mixI (DgM h (DgC (hC h) (mixI (mixI (mixI (mixI (mixI 4701 (hmn h)) (hsn h)) (Hchief h)) (nI (Hent (hR h) 48))) (HasksIn h)) 6) i2) (Hget h i2 8))) hF (c_X3_mix l g (DgM h (DgC (hC h) (mixI (mixI (mixI (mixI (mixI 4701 (hmn h)) (hsn h)) (Hchief h)) (nI (Hent (hR h) 48))) (HasksIn h)) 6) i2) (Hget h i2 8)) (va_cwS 2 hts gX3_digest_X3_mix rfl rfl rfl (by decide +kernel) ⟨Nat.le_of_ble_eq_true rfl, Nat.le_of_ble_eq_true rfl⟩) hE hP hD hS hA (List.Perm.refl _) (List.Perm.refl _) rfl hl.1 rfl (Nat.le_of_ble_eq_true rfl) dX3_digest_109 ⟨Nat.le_of_ble_eq_true rfl, Nat.le_of_ble_eq_true rfl⟩ (fun H locs hP hD hS => ?_)
      have hP : va_P g.1 vwCl ((wU u (ah 0) (a0 0) (at9 0)) ++ ((wH g ah h) ++ ((wT g at9 (sg, (nI n))) ++ ((wK0 g a0 ak ((nI od), (nI sz))) ++ (wHs g ak hs 6))))) _ := hP
      have hD : va_D A ((wU u (ah 0) (a0 0) (at9 0)) ++ ((wH g ah h) ++ ((wT g at9 (sg, (nI n))) ++ ((wK0 g a0 ak ((nI od), (nI sz))) ++ (wHs g ak hs 6))))) := hD
      refine lv_lstore_n (lv' := [(1, .long (mixI (DgM h (DgC (hC h) (mixI (mixI (mixI (mixI (mixI 4701 (hmn h)) (hsn h)) (Hchief h)) (nI (Hent (hR h) 48))) (HasksIn h)) 6) i2) (Hget h i2 8))), (3, .int (nI i2)), (0, .ref u)]) hx hb dX3_digest_112 rfl hl (by decide) rfl (fun ls hl => ?_)
      refine lv_lload_n hx hb dX3_digest_113 rfl (lv_at hl 0 rfl) ?_
      refine lv_aload_n hx hb dX3_digest_114 rfl (lv_at hl 2 rfl) ?_
      refine va_get (D := g.1) (ci := 3) (v := .ref (ah 0)) (C := RX3) (T := TX3) (N := 3) hx hb hts hiX3 hown hE.1 hP 0 rfl rfl 0 (by decide) f12 (fun _ h9 => h9) rfl dX3_digest_115 ?_
      refine lv_iload_n hx hb dX3_digest_118 rfl (lv_at hl 1 rfl) ?_
      refine k_Vi (As := [.int (nI i2)]) (r := (Hwant h i2 8)) hF (c_X1_rowsThatWant l g ah h i2 (by omega)) (cwV 1 hts gX3_digest_X1_rowsThatWant rfl rfl rfl (by decide +kernel) ⟨Nat.le_of_ble_eq_true rfl, Nat.le_of_ble_eq_true rfl⟩) hE hP hD hS hA (pm_5_1 _ _ _ _ _) ((pm_5_1 _ _ _ _ _).symm) 1 rfl rfl rfl rfl hl.1 rfl (Nat.le_of_ble_eq_true rfl) dX3_digest_119 ⟨Nat.le_of_ble_eq_true rfl, Nat.le_of_ble_eq_true rfl⟩ (fun H locs hP hD hS => ?_)
      have hP : va_P g.1 vwCl ((wU u (ah 0) (a0 0) (at9 0)) ++ ((wH g ah h) ++ ((wT g at9 (sg, (nI n))) ++ ((wK0 g a0 ak ((nI od), (nI sz))) ++ (wHs g ak hs 6))))) _ := hP
      have hD : va_D A ((wU u (ah 0) (a0 0) (at9 0)) ++ ((wH g ah h) ++ ((wT g at9 (sg, (nI n))) ++ ((wK0 g a0 ak ((nI od), (nI sz))) ++ (wHs g ak hs 6))))) := hD
      refine k_Sl (w0 := []) (w1 := []) (As := [.long (mixI (DgM h (DgC (hC h) (mixI (mixI (mixI (mixI (mixI 4701 (hmn h)) (hsn h)) (Hchief h)) (nI (Hent (hR h) 48))) (HasksIn h)) 6) i2) (Hget h i2 8)), .int (Hwant h i2 8)]) (r := (mixI (mixI (DgM h (DgC (hC h) (mixI (mixI (mixI (mixI (mixI 4701 (hmn h)) (hsn h)) (Hchief h)) (nI (Hent (hR h) 48))) (HasksIn h)) 6) i2) (Hget h i2 8)) (Hwant h i2 8))) hF (c_X3_mix l g (mixI (DgM h (DgC (hC h) (mixI (mixI (mixI (mixI (mixI 4701 (hmn h)) (hsn h)) (Hchief h)) (nI (Hent (hR h) 48))) (HasksIn h)) 6) i2) (Hget h i2 8)) (Hwant h i2 8)) (va_cwS 2 hts gX3_digest_X3_mix rfl rfl rfl (by decide +kernel) ⟨Nat.le_of_ble_eq_true rfl, Nat.le_of_ble_eq_true rfl⟩) hE hP hD hS hA (List.Perm.refl _) (List.Perm.refl _) rfl hl.1 rfl (Nat.le_of_ble_eq_true rfl) dX3_digest_122 ⟨Nat.le_of_ble_eq_true rfl, Nat.le_of_ble_eq_true rfl⟩ (fun H locs hP hD hS => ?_)
      have hP : va_P g.1 vwCl ((wU u (ah 0) (a0 0) (at9 0)) ++ ((wH g ah h) ++ ((wT g at9 (sg, (nI n))) ++ ((wK0 g a0 ak ((nI od), (nI sz))) ++ (wHs g ak hs 6))))) _ := hP
      have hD : va_D A ((wU u (ah 0) (a0 0) (at9 0)) ++ ((wH g ah h) ++ ((wT g at9 (sg, (nI n))) ++ ((wK0 g a0 ak ((nI od), (nI sz))) ++ (wHs g ak hs 6))))) := hD
      refine lv_lstore_n (lv' := [(1, .long (mixI (mixI (DgM h (DgC (hC h) (mixI (mixI (mixI (mixI (mixI 4701 (hmn h)) (hsn h)) (Hchief h)) (nI (Hent (hR h) 48))) (HasksIn h)) 6) i2) (Hget h i2 8)) (Hwant h i2 8))), (3, .int (nI i2)), (0, .ref u)]) hx hb dX3_digest_125 rfl hl (by decide) rfl (fun ls hl => ?_)
      refine lv_iinc (v := (nI (i2 + 1))) (lv' := [(3, .int (nI (i2 + 1))), (1, .long (mixI (mixI (DgM h (DgC (hC h) (mixI (mixI (mixI (mixI (mixI 4701 (hmn h)) (hsn h)) (Hchief h)) (nI (Hent (hR h) 48))) (HasksIn h)) 6) i2) (Hget h i2 8)) (Hwant h i2 8))), (0, .ref u)]) hx hb dX3_digest_126 hl (k := 1) rfl (k_inc1 _) (by decide) rfl (fun ls hl => ?_)
      refine lv_goto (tgt := 94) hx hb dX3_digest_129 (by decide) ?_
      have e11 : (DgM h (DgC (hC h) (mixI (mixI (mixI (mixI (mixI 4701 (hmn h)) (hsn h)) (Hchief h)) (nI (Hent (hR h) 48))) (HasksIn h)) 6) (i2 + 1)) = (mixI (mixI (DgM h (DgC (hC h) (mixI (mixI (mixI (mixI (mixI 4701 (hmn h)) (hsn h)) (Hchief h)) (nI (Hent (hR h) 48))) (HasksIn h)) 6) i2) (Hget h i2 8)) (Hwant h i2 8)) := (by first | (simp only [Udig, DgM, bI, if_pos c3, if_neg (not_not_intro c3), if_neg (Nat.not_le.mpr c6), if_pos (Nat.not_le.mpr c6)]; done) | (simp only [Udig, DgM, bI, if_pos c3, if_neg (not_not_intro c3), if_neg (Nat.not_le.mpr c6), if_pos (Nat.not_le.mpr c6)]; rfl) | rfl | (simp [Udig, DgM, bI, if_pos c3, if_neg (not_not_intro c3), if_neg (Nat.not_le.mpr c6), if_pos (Nat.not_le.mpr c6)]; done))
      exact ih4 _ _ _ (by omega) ⟨hP, hD, hS, (by rw [e11]; exact lv_sub hl [0, 1, 2] rfl)⟩
  ·
    refine lv_lload_n hx hb dX3_digest_72 rfl (lv_at hl 1 rfl) ?_
    refine lv_aload_n hx hb dX3_digest_73 rfl (lv_at hl 2 rfl) ?_
    refine va_get (D := g.1) (ci := 3) (v := .ref (ah 0)) (C := RX3) (T := TX3) (N := 3) hx hb hts hiX3 hown hE.1 hP 0 rfl rfl 0 (by decide) f12 (fun _ h9 => h9) rfl dX3_digest_74 ?_
    refine va_get (D := g.1) (ci := 1) (v := .ref (ah 3)) (C := RX1) (T := TX1) (N := 12) hx hb hts hiX1 hown hE.1 hP 1 rfl rfl 2 (by decide) f146 (fun _ h9 => h9) rfl dX3_digest_77 ?_
    refine lv_iload_n hx hb dX3_digest_80 rfl (lv_at hl 0 rfl) ?_
    refine k_iald (f := (hC h)) hx hb hE hP 4 rfl i rfl (by omega) (by decide) dX3_digest_81 ?_
    refine k_Sl (w0 := []) (w1 := []) (As := [.long (DgC (hC h) (mixI (mixI (mixI (mixI (mixI 4701 (hmn h)) (hsn h)) (Hchief h)) (nI (Hent (hR h) 48))) (HasksIn h)) i), .int ((hC h) i)]) (r := (mixI (DgC (hC h) (mixI (mixI (mixI (mixI (mixI 4701 (hmn h)) (hsn h)) (Hchief h)) (nI (Hent (hR h) 48))) (HasksIn h)) i) ((hC h) i))) hF (c_X3_mix l g (DgC (hC h) (mixI (mixI (mixI (mixI (mixI 4701 (hmn h)) (hsn h)) (Hchief h)) (nI (Hent (hR h) 48))) (HasksIn h)) i) ((hC h) i)) (va_cwS 2 hts gX3_digest_X3_mix rfl rfl rfl (by decide +kernel) ⟨Nat.le_of_ble_eq_true rfl, Nat.le_of_ble_eq_true rfl⟩) hE hP hD hS hA (List.Perm.refl _) (List.Perm.refl _) rfl hl.1 rfl (Nat.le_of_ble_eq_true rfl) dX3_digest_82 ⟨Nat.le_of_ble_eq_true rfl, Nat.le_of_ble_eq_true rfl⟩ (fun H locs hP hD hS => ?_)
    have hP : va_P g.1 vwCl ((wU u (ah 0) (a0 0) (at9 0)) ++ ((wH g ah h) ++ ((wT g at9 (sg, (nI n))) ++ ((wK0 g a0 ak ((nI od), (nI sz))) ++ (wHs g ak hs 6))))) _ := hP
    have hD : va_D A ((wU u (ah 0) (a0 0) (at9 0)) ++ ((wH g ah h) ++ ((wT g at9 (sg, (nI n))) ++ ((wK0 g a0 ak ((nI od), (nI sz))) ++ (wHs g ak hs 6))))) := hD
    refine lv_lstore_n (lv' := [(1, .long (mixI (DgC (hC h) (mixI (mixI (mixI (mixI (mixI 4701 (hmn h)) (hsn h)) (Hchief h)) (nI (Hent (hR h) 48))) (HasksIn h)) i) ((hC h) i))), (3, .int (nI i)), (0, .ref u)]) hx hb dX3_digest_85 rfl hl (by decide) rfl (fun ls hl => ?_)
    refine lv_iinc (v := (nI (i + 1))) (lv' := [(3, .int (nI (i + 1))), (1, .long (mixI (DgC (hC h) (mixI (mixI (mixI (mixI (mixI 4701 (hmn h)) (hsn h)) (Hchief h)) (nI (Hent (hR h) 48))) (HasksIn h)) i) ((hC h) i))), (0, .ref u)]) hx hb dX3_digest_86 hl (k := 1) rfl (k_inc1 _) (by decide) rfl (fun ls hl => ?_)
    refine lv_goto (tgt := 66) hx hb dX3_digest_89 (by decide) ?_
    have e12 : (DgC (hC h) (mixI (mixI (mixI (mixI (mixI 4701 (hmn h)) (hsn h)) (Hchief h)) (nI (Hent (hR h) 48))) (HasksIn h)) (i + 1)) = (mixI (DgC (hC h) (mixI (mixI (mixI (mixI (mixI 4701 (hmn h)) (hsn h)) (Hchief h)) (nI (Hent (hR h) 48))) (HasksIn h)) i) ((hC h) i)) := (by first | (simp only [Udig, DgC, bI, if_neg (Nat.not_le.mpr c3), if_pos (Nat.not_le.mpr c3)]; done) | (simp only [Udig, DgC, bI, if_neg (Nat.not_le.mpr c3), if_pos (Nat.not_le.mpr c3)]; rfl) | rfl | (simp [Udig, DgC, bI, if_neg (Nat.not_le.mpr c3), if_pos (Nat.not_le.mpr c3)]; done))
    exact ih1 _ _ _ (by omega) ⟨hP, hD, hS, (by rw [e12]; exact lv_sub hl [0, 1, 2] rfl)⟩
