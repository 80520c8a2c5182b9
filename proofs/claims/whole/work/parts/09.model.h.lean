set_option maxHeartbeats 4000000 in
set_option maxRecDepth 100000 in
theorem c_X4_passes (l : Launch) (g : kG) (a : Nat → Nat) (m9 : MSt) (n : Nat) (hn60 : n ≤ 60) : KI l yX4_passes wsX4_passes ({ frames := 3, cells := 0, slots := 0, locals := 62 }) g [.ref (a 0), .int (nI n)] (wM g a m9) (MgoQ (ms m9) n) (wM g a (sMs m9 (MgoN (ms m9) n))) 0 0 := by
  refine k_begin (cc := cX4_passes) (maxL := 4) (ret := (some .int)) (Qc := fun A => kQi g (MgoQ (ms m9) n) (wM g a (sMs m9 (MgoN (ms m9) n))) A) (by decide) rfl (Nat.le_of_ble_eq_true rfl) ?_
  intro p e s m below meth c A ls hF hr hlocks hin hE hP hD hS hA hl
  obtain ⟨hx, hb, hml, hown, hts⟩ := id hF
  have hown : s.vm.findClass RX4 = some m.cls := hown
  have hl : lv_has ls 4 [(0, .ref (a 0)), (1, .int (nI n))] := hl
  refine lv_iconst (v := (nI 0)) hx hb dX4_passes_0 (by decide) ?_
  refine lv_istore_n (lv' := [(2, .int (nI 0)), (0, .ref (a 0)), (1, .int (nI n))]) hx hb dX4_passes_1 rfl hl (by decide) rfl (fun ls hl => ?_)
  refine lv_iconst (v := (nI 0)) hx hb dX4_passes_2 (by decide) ?_
  refine lv_istore_n (lv' := [(3, .int (nI 0)), (2, .int (nI 0)), (0, .ref (a 0)), (1, .int (nI n))]) hx hb dX4_passes_3 rfl hl (by decide) rfl (fun ls hl => ?_)
  refine k_loop (N := n) (Inv := fun (i : Nat) (H : Heap) (locs : List Loc) (ls : Array Slot) => va_P g.1 vwCl (wM g a (sMs m9 (MgoN (ms m9) i))) H ∧ va_D A (wM g a (sMs m9 (MgoN (ms m9) i))) ∧ va_S A s.heap H locs ∧ lv_has ls 4 [(3, .int (nI i)), (2, .int (MgoQ (ms m9) i)), (0, .ref (a 0)), (1, .int (nI n))]) 0 (Nat.zero_le _) ⟨hP, hD, hS, lv_sub hl [0, 1, 2, 3] rfl⟩ (fun i hle2 ih1 H locs ls hinv => ?_)
  obtain ⟨hP, hD, hS, hl⟩ := hinv
  refine lv_iload_n hx hb dX4_passes_4 rfl (lv_at hl 0 rfl) ?_
  refine lv_iload_n hx hb dX4_passes_5 rfl (lv_at hl 3 rfl) ?_
  refine k_geN (tgt := 30) hx hb (by omega) (by omega) dX4_passes_6 (by decide) (fun c3 => ?_) (fun c3 => ?_)
  ·
    obtain rfl : n = i := by omega
    refine lv_iload_n hx hb dX4_passes_30 rfl (lv_at hl 1 rfl) ?_
    have hP : va_P g.1 vwCl (wM g a (sMs m9 (MgoN (ms m9) n))) _ := hP
    have hD : va_D A (wM g a (sMs m9 (MgoN (ms m9) n))) := hD
    exact k_iret hx hb hr hlocks rfl rfl hP hD hS (Nat.le_of_ble_eq_true rfl) (Nat.le_of_ble_eq_true rfl) dX4_passes_31
  ·
    refine lv_iload_n hx hb dX4_passes_9 rfl (lv_at hl 1 rfl) ?_
    refine lv_aload_n hx hb dX4_passes_10 rfl (lv_at hl 2 rfl) ?_
    refine k_Vi (As := []) (r := (bI (Masks (MgoN (ms m9) i)))) hF (c_X4_goesBy l g a (sMs m9 (MgoN (ms m9) i))) (cwV 0 hts gX4_passes_X4_goesBy rfl rfl rfl (by decide +kernel) ⟨Nat.le_of_ble_eq_true rfl, Nat.le_of_ble_eq_true rfl⟩) hE hP hD hS hA (k_pall _) ((k_pall _).symm) 0 rfl rfl rfl rfl hl.1 rfl (Nat.le_of_ble_eq_true rfl) dX4_passes_11 ⟨Nat.le_of_ble_eq_true rfl, Nat.le_of_ble_eq_true rfl⟩ (fun H locs hP hD hS => ?_)
    have hP : va_P g.1 vwCl (wM g a (sMs m9 (Mgo (MgoN (ms m9) i)))) _ := hP
    have hD : va_D A (wM g a (sMs m9 (Mgo (MgoN (ms m9) i)))) := hD
    refine k_meet (x := .int (bI (Masks (MgoN (ms m9) i)))) (pj := 22) (rest := [.int (MgoQ (ms m9) i)]) (fun J4 => ?_) ?_
    ·
      refine k_ifeqB (tgt := 21) hx hb dX4_passes_14 (by decide) (fun c5 => ?_) (fun c5 => ?_)
      ·
        refine lv_iconst (v := (nI 0)) hx hb dX4_passes_21 (by decide) ?_
        exact k_top (by first | (simp only [bI, if_neg (Nat.not_le.mpr c3), if_pos (Nat.not_le.mpr c3), if_neg c5, if_pos c5]; done) | (simp only [bI, if_neg (Nat.not_le.mpr c3), if_pos (Nat.not_le.mpr c3), if_neg c5, if_pos c5]; with_reducible rfl) | with_reducible rfl | (simp [bI, if_neg (Nat.not_le.mpr c3), if_pos (Nat.not_le.mpr c3), if_neg c5, if_pos c5]; done)) J4
      ·
        refine lv_iconst (v := (nI 1)) hx hb dX4_passes_17 (by decide) ?_
        refine lv_goto (tgt := 22) hx hb dX4_passes_18 (by decide) ?_
        exact k_top (by first | (simp only [bI, if_neg (Nat.not_le.mpr c3), if_pos (Nat.not_le.mpr c3), if_pos c5, if_neg (not_not_intro c5)]; done) | (simp only [bI, if_neg (Nat.not_le.mpr c3), if_pos (Nat.not_le.mpr c3), if_pos c5, if_neg (not_not_intro c5)]; with_reducible rfl) | with_reducible rfl | (simp [bI, if_neg (Nat.not_le.mpr c3), if_pos (Nat.not_le.mpr c3), if_pos c5, if_neg (not_not_intro c5)]; done)) J4
    ·
      refine lv_iadd hx hb dX4_passes_22 ?_
      refine lv_istore_n (lv' := [(2, .int ((MgoQ (ms m9) i) + (bI (Masks (MgoN (ms m9) i))))), (3, .int (nI i)), (0, .ref (a 0)), (1, .int (nI n))]) hx hb dX4_passes_23 rfl hl (by decide) rfl (fun ls hl => ?_)
      refine lv_iinc (v := (nI (i + 1))) (lv' := [(3, .int (nI (i + 1))), (2, .int ((MgoQ (ms m9) i) + (bI (Masks (MgoN (ms m9) i))))), (0, .ref (a 0)), (1, .int (nI n))]) hx hb dX4_passes_24 hl (k := 1) rfl (k_inc1 _) (by decide) rfl (fun ls hl => ?_)
      refine lv_goto (tgt := 4) hx hb dX4_passes_27 (by decide) ?_
      have e6 : (sMs m9 (MgoN (ms m9) (i + 1))) = (sMs m9 (Mgo (MgoN (ms m9) i))) := (by first | (simp only [MgoN, MgoQ, if_neg (Nat.not_le.mpr c3), if_pos (Nat.not_le.mpr c3)]; done) | (simp only [MgoN, MgoQ, if_neg (Nat.not_le.mpr c3), if_pos (Nat.not_le.mpr c3)]; with_reducible rfl) | with_reducible rfl | (simp [MgoN, MgoQ, if_neg (Nat.not_le.mpr c3), if_pos (Nat.not_le.mpr c3)]; done))
      have e7 : (MgoQ (ms m9) (i + 1)) = ((MgoQ (ms m9) i) + (bI (Masks (MgoN (ms m9) i)))) := (by first | (simp only [MgoN, MgoQ, bI, if_neg (Nat.not_le.mpr c3), if_pos (Nat.not_le.mpr c3)]; done) | (simp only [MgoN, MgoQ, bI, if_neg (Nat.not_le.mpr c3), if_pos (Nat.not_le.mpr c3)]; with_reducible rfl) | with_reducible rfl | (simp [MgoN, MgoQ, bI, if_neg (Nat.not_le.mpr c3), if_pos (Nat.not_le.mpr c3)]; done))
      exact ih1 _ _ _ (by omega) ⟨(by rw [e6]; exact hP), (by rw [e6]; exact hD), hS, (by rw [e7]; exact lv_sub hl [0, 1, 2, 3] rfl)⟩
set_option maxHeartbeats 4000000 in
set_option maxRecDepth 100000 in
theorem c_X4_pass (l : Launch) (g : kG) (a : Nat → Nat) (m9 : MSt) (j : Nat) (hj : j ≤ 6) (hjm : msm m9 = nI j) (mins : Int32) : KI l yX4_pass wsX4_pass ({ frames := 4, cells := 0, slots := 0, locals := 85 }) g [.ref (a 0), .int mins] (wM g a m9) (MpassR mins m9) (wM g a (MpassS j mins m9)) 0 0 := by
  refine k_begin (cc := cX4_pass) (maxL := 2) (ret := (some .int)) (Qc := fun A => kQi g (MpassR mins m9) (wM g a (MpassS j mins m9)) A) (by decide) rfl (Nat.le_of_ble_eq_true rfl) ?_
  intro p e s m below meth c A ls hF hr hlocks hin hE hP hD hS hA hl
  obtain ⟨hx, hb, hml, hown, hts⟩ := id hF
  have hown : s.vm.findClass RX4 = some m.cls := hown
  have hl : lv_has ls 2 [(0, .ref (a 0)), (1, .int mins)] := hl
  have hiX4 : ∀ w ∈ wsX40, w ∈ wsX4_pass := fun _ h => List.mem_cons_of_mem _ (List.mem_append_right _ (h))
  have f25 : (Cond.fieldLink RX4 25 "ConcertUsherModel" "thrown" "I").before _ s = true := hts _ (List.mem_of_getElem? (i := 1) rfl)
  refine lv_aload_n hx hb dX4_pass_0 rfl (lv_at hl 0 rfl) ?_
  refine lv_iconst (v := (nI 0)) hx hb dX4_pass_1 (by decide) ?_
  refine va_put (D := g.1) (ci := 4) (v := .int (nI 0)) (ty := .int) (C := RX4) (T := TX4) (N := 12) hx hb hts hiX4 tyX4 tyX4_ok nmX4 hown hE.1 hP hD hS 0 rfl rfl 0 (by decide) f25 (fun _ h9 => h9) rfl (tyX4_ok 0 (by decide)) rfl rfl (Nat.le_of_ble_eq_true rfl) dX4_pass_2 (fun H locs hP hD hS => ?_)
  have hP : va_P g.1 vwCl (wM g a (sMth m9 (nI 0))) _ := hP
  have hD : va_D A (wM g a (sMth m9 (nI 0))) := hD
  refine lv_iload_n hx hb dX4_pass_5 rfl (lv_at hl 1 rfl) ?_
  refine lv_iconst (v := (nI 1)) hx hb dX4_pass_6 (by decide) ?_
  refine lv_bipush (v := (nI 60)) hx hb dX4_pass_7 (by decide) ?_
  refine k_Si (w0 := []) (w1 := []) (As := [.int mins, .int (nI 1), .int (nI 60)]) (r := (bI ((nI 1) ≤ mins ∧ mins ≤ (nI 60)))) hF (c_X4_in l g mins (nI 1) (nI 60)) (va_cwS 3 hts gX4_pass_X4_in rfl rfl rfl (by decide +kernel) ⟨Nat.le_of_ble_eq_true rfl, Nat.le_of_ble_eq_true rfl⟩) hE hP hD hS hA (List.Perm.refl _) (List.Perm.refl _) rfl hl.1 rfl (Nat.le_of_ble_eq_true rfl) dX4_pass_9 ⟨Nat.le_of_ble_eq_true rfl, Nat.le_of_ble_eq_true rfl⟩ (fun H locs hP hD hS => ?_)
  have hP : va_P g.1 vwCl (wM g a (sMth m9 (nI 0))) _ := hP
  have hD : va_D A (wM g a (sMth m9 (nI 0))) := hD
  refine k_ifneB (tgt := 21) hx hb dX4_pass_12 (by decide) (fun c1 => ?_) (fun c1 => ?_)
  ·
    obtain ⟨k9, hk9, hk9e⟩ := in_nat (by decide) (by decide) c1
    have hk9c : mins.toNatClampNeg = k9 := cl_eq hk9e (by omega)
    refine lv_aload_n hx hb dX4_pass_21 rfl (lv_at hl 0 rfl) ?_
    refine k_Vv (As := []) hF (c_X4_saves l g a (sMth m9 (nI 0)) j (by omega) hjm) (cwV 0 hts gX4_pass_X4_saves rfl rfl rfl (by decide +kernel) ⟨Nat.le_of_ble_eq_true rfl, Nat.le_of_ble_eq_true rfl⟩) hE hP hD hS hA (k_pall _) ((k_pall _).symm) 0 rfl rfl rfl rfl hl.1 rfl (Nat.le_of_ble_eq_true rfl) dX4_pass_22 ⟨Nat.le_of_ble_eq_true rfl, Nat.le_of_ble_eq_true rfl⟩ (fun H locs hP hD hS => ?_)
    have hP : va_P g.1 vwCl (wM g a (sMsm (sMsv (sMth m9 (nI 0)) (Msv (ms m9) (msv m9) j)) (nI (kSz j)))) _ := hP
    have hD : va_D A (wM g a (sMsm (sMsv (sMth m9 (nI 0)) (Msv (ms m9) (msv m9) j)) (nI (kSz j)))) := hD
    refine lv_aload_n hx hb dX4_pass_25 rfl (lv_at hl 0 rfl) ?_
    refine lv_iload_n hx hb dX4_pass_26 rfl (lv_at hl 1 rfl) ?_
    refine k_top hk9e ?_
    refine k_Vi (As := [.int (nI k9)]) (r := (MgoQ (ms m9) k9)) hF (c_X4_passes l g a (sMsm (sMsv (sMth m9 (nI 0)) (Msv (ms m9) (msv m9) j)) (nI (kSz j))) k9 (by omega)) (cwV 1 hts gX4_pass_X4_passes rfl rfl rfl (by decide +kernel) ⟨Nat.le_of_ble_eq_true rfl, Nat.le_of_ble_eq_true rfl⟩) hE hP hD hS hA (k_pall _) ((k_pall _).symm) 0 rfl rfl rfl rfl hl.1 rfl (Nat.le_of_ble_eq_true rfl) dX4_pass_27 ⟨Nat.le_of_ble_eq_true rfl, Nat.le_of_ble_eq_true rfl⟩ (fun H locs hP hD hS => ?_)
    have hP : va_P g.1 vwCl (wM g a (sMs (sMsm (sMsv (sMth m9 (nI 0)) (Msv (ms m9) (msv m9) j)) (nI (kSz j))) (MgoN (ms m9) k9))) _ := hP
    have hD : va_D A (wM g a (sMs (sMsm (sMsv (sMth m9 (nI 0)) (Msv (ms m9) (msv m9) j)) (nI (kSz j))) (MgoN (ms m9) k9))) := hD
    have e2 : (MpassS j mins m9) = (sMs (sMsm (sMsv (sMth m9 (nI 0)) (Msv (ms m9) (msv m9) j)) (nI (kSz j))) (MgoN (ms m9) k9)) := (by first | (simp only [MpassS, MpassR, if_pos c1, if_neg (not_not_intro c1), hk9c]; done) | (simp only [MpassS, MpassR, if_pos c1, if_neg (not_not_intro c1), hk9c]; with_reducible rfl) | with_reducible rfl | (simp [MpassS, MpassR, if_pos c1, if_neg (not_not_intro c1), hk9c]; done))
    have hP : va_P g.1 vwCl (wM g a (MpassS j mins m9)) H := by rw [e2]; exact hP
    have hD : va_D A (wM g a (MpassS j mins m9)) := by rw [e2]; exact hD
    exact k_iret hx hb hr hlocks rfl (by first | (simp only [MpassS, MpassR, bI, if_pos c1, if_neg (not_not_intro c1), hk9c]; done) | (simp only [MpassS, MpassR, bI, if_pos c1, if_neg (not_not_intro c1), hk9c]; with_reducible rfl) | with_reducible rfl | (simp [MpassS, MpassR, bI, if_pos c1, if_neg (not_not_intro c1), hk9c]; done)) hP hD hS (Nat.le_of_ble_eq_true rfl) (Nat.le_of_ble_eq_true rfl) dX4_pass_30
  ·
    refine lv_aload_n hx hb dX4_pass_15 rfl (lv_at hl 0 rfl) ?_
    refine lv_iconst (v := (nI 1)) hx hb dX4_pass_16 (by decide) ?_
    refine k_Vi (As := [.int (nI 1)]) (r := (nI 0)) hF (c_X4_fails l g a (sMth m9 (nI 0)) (nI 1)) (cwV 1 hts gX4_pass_X4_fails rfl rfl rfl (by decide +kernel) ⟨Nat.le_of_ble_eq_true rfl, Nat.le_of_ble_eq_true rfl⟩) hE hP hD hS hA (k_pall _) ((k_pall _).symm) 0 rfl rfl rfl rfl hl.1 rfl (Nat.le_of_ble_eq_true rfl) dX4_pass_17 ⟨Nat.le_of_ble_eq_true rfl, Nat.le_of_ble_eq_true rfl⟩ (fun H locs hP hD hS => ?_)
    have hP : va_P g.1 vwCl (wM g a (sMth m9 (nI 1))) _ := hP
    have hD : va_D A (wM g a (sMth m9 (nI 1))) := hD
    have e3 : (MpassS j mins m9) = (sMth m9 (nI 1)) := (by first | (simp only [MpassS, MpassR, if_neg c1, if_pos c1]; done) | (simp only [MpassS, MpassR, if_neg c1, if_pos c1]; with_reducible rfl) | with_reducible rfl | (simp [MpassS, MpassR, if_neg c1, if_pos c1]; done))
    have hP : va_P g.1 vwCl (wM g a (MpassS j mins m9)) H := by rw [e3]; exact hP
    have hD : va_D A (wM g a (MpassS j mins m9)) := by rw [e3]; exact hD
    exact k_iret hx hb hr hlocks rfl (by first | (simp only [MpassS, MpassR, bI, if_neg c1, if_pos c1]; done) | (simp only [MpassS, MpassR, bI, if_neg c1, if_pos c1]; with_reducible rfl) | with_reducible rfl | (simp [MpassS, MpassR, bI, if_neg c1, if_pos c1]; done)) hP hD hS (Nat.le_of_ble_eq_true rfl) (Nat.le_of_ble_eq_true rfl) dX4_pass_20
