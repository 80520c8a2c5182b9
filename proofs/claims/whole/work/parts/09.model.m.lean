set_option maxHeartbeats 4000000 in
set_option maxRecDepth 100000 in
theorem c_X4_disturbedAfter (l : Launch) (g : kG) (a : Nat → Nat) (m9 : MSt) (j : Nat) (hj : j ≤ 6) (hjm : msm m9 = nI j) (con mins : Int32) : KI l yX4_disturbedAfter wsX4_disturbedAfter ({ frames := 4, cells := 0, slots := 0, locals := 85 }) g [.ref (a 0), .int con, .int mins] (wM g a m9) (MdistR con mins m9) (wM g a (MdistS con mins m9)) 0 0 := by
  refine k_begin (cc := cX4_disturbedAfter) (maxL := 5) (ret := (some .int)) (Qc := fun A => kQi g (MdistR con mins m9) (wM g a (MdistS con mins m9)) A) (by decide) rfl (Nat.le_of_ble_eq_true rfl) ?_
  intro p e s m below meth c A ls hF hr hlocks hin hE hP hD hS hA hl
  obtain ⟨hx, hb, hml, hown, hts⟩ := id hF
  have hown : s.vm.findClass RX4 = some m.cls := hown
  have hl : lv_has ls 5 [(0, .ref (a 0)), (1, .int con), (2, .int mins)] := hl
  have hiX4 : ∀ w ∈ wsX40, w ∈ wsX4_disturbedAfter := fun _ h => List.mem_cons_of_mem _ (List.mem_append_right _ (h))
  have f25 : (Cond.fieldLink RX4 25 "ConcertUsherModel" "thrown" "I").before _ s = true := hts _ (List.mem_of_getElem? (i := 1) rfl)
  refine lv_aload_n hx hb dX4_disturbedAfter_0 rfl (lv_at hl 0 rfl) ?_
  refine lv_iconst (v := (nI 0)) hx hb dX4_disturbedAfter_1 (by decide) ?_
  refine va_put (D := g.1) (ci := 4) (v := .int (nI 0)) (ty := .int) (C := RX4) (T := TX4) (N := 12) hx hb hts hiX4 tyX4 tyX4_ok nmX4 hown hE.1 hP hD hS 0 rfl rfl 0 (by decide) f25 (fun _ h9 => h9) rfl (tyX4_ok 0 (by decide)) rfl rfl (Nat.le_of_ble_eq_true rfl) dX4_disturbedAfter_2 (fun H locs hP hD hS => ?_)
  have hP : va_P g.1 vwCl (wM g a (sMth m9 (nI 0))) _ := hP
  have hD : va_D A (wM g a (sMth m9 (nI 0))) := hD
  refine lv_iload_n hx hb dX4_disturbedAfter_5 rfl (lv_at hl 1 rfl) ?_
  refine k_Si (w0 := []) (w1 := []) (As := [.int con]) (r := (bI (nI 0 ≤ con ∧ con ≤ nI 5))) hF (c_X4_isConcert l g con) (va_cwS 1 hts gX4_disturbedAfter_X4_isConcert rfl rfl rfl (by decide +kernel) ⟨Nat.le_of_ble_eq_true rfl, Nat.le_of_ble_eq_true rfl⟩) hE hP hD hS hA (List.Perm.refl _) (List.Perm.refl _) rfl hl.1 rfl (Nat.le_of_ble_eq_true rfl) dX4_disturbedAfter_6 ⟨Nat.le_of_ble_eq_true rfl, Nat.le_of_ble_eq_true rfl⟩ (fun H locs hP hD hS => ?_)
  have hP : va_P g.1 vwCl (wM g a (sMth m9 (nI 0))) _ := hP
  have hD : va_D A (wM g a (sMth m9 (nI 0))) := hD
  refine k_ifneB (tgt := 18) hx hb dX4_disturbedAfter_9 (by decide) (fun c1 => ?_) (fun c1 => ?_)
  ·
    obtain ⟨c9, hc9, hc9e⟩ := in_nat (by decide) (by decide) c1
    have hc9c : con.toNatClampNeg = c9 := cl_eq hc9e (by omega)
    refine lv_iload_n hx hb dX4_disturbedAfter_18 rfl (lv_at hl 2 rfl) ?_
    refine lv_iconst (v := (nI 1)) hx hb dX4_disturbedAfter_19 (by decide) ?_
    refine lv_bipush (v := (nI 60)) hx hb dX4_disturbedAfter_20 (by decide) ?_
    refine k_Si (w0 := []) (w1 := []) (As := [.int mins, .int (nI 1), .int (nI 60)]) (r := (bI ((nI 1) ≤ mins ∧ mins ≤ (nI 60)))) hF (c_X4_in l g mins (nI 1) (nI 60)) (va_cwS 3 hts gX4_disturbedAfter_X4_in rfl rfl rfl (by decide +kernel) ⟨Nat.le_of_ble_eq_true rfl, Nat.le_of_ble_eq_true rfl⟩) hE hP hD hS hA (List.Perm.refl _) (List.Perm.refl _) rfl hl.1 rfl (Nat.le_of_ble_eq_true rfl) dX4_disturbedAfter_22 ⟨Nat.le_of_ble_eq_true rfl, Nat.le_of_ble_eq_true rfl⟩ (fun H locs hP hD hS => ?_)
    have hP : va_P g.1 vwCl (wM g a (sMth m9 (nI 0))) _ := hP
    have hD : va_D A (wM g a (sMth m9 (nI 0))) := hD
    refine k_ifneB (tgt := 34) hx hb dX4_disturbedAfter_25 (by decide) (fun c2 => ?_) (fun c2 => ?_)
    ·
      obtain ⟨k9, hk9, hk9e⟩ := in_nat (by decide) (by decide) c2
      have hk9c : mins.toNatClampNeg = k9 := cl_eq hk9e (by omega)
      refine lv_aload_n hx hb dX4_disturbedAfter_34 rfl (lv_at hl 0 rfl) ?_
      refine k_Vv (As := []) hF (c_X4_putAside l g a (sMth m9 (nI 0))) (cwV 0 hts gX4_disturbedAfter_X4_putAside rfl rfl rfl (by decide +kernel) ⟨Nat.le_of_ble_eq_true rfl, Nat.le_of_ble_eq_true rfl⟩) hE hP hD hS hA (k_pall _) ((k_pall _).symm) 0 rfl rfl rfl rfl hl.1 rfl (Nat.le_of_ble_eq_true rfl) dX4_disturbedAfter_35 ⟨Nat.le_of_ble_eq_true rfl, Nat.le_of_ble_eq_true rfl⟩ (fun H locs hP hD hS => ?_)
      have hP : va_P g.1 vwCl (wM g a (sMas (sMth m9 (nI 0)) (ms m9))) _ := hP
      have hD : va_D A (wM g a (sMas (sMth m9 (nI 0)) (ms m9))) := hD
      refine lv_aload_n hx hb dX4_disturbedAfter_38 rfl (lv_at hl 0 rfl) ?_
      refine lv_iload_n hx hb dX4_disturbedAfter_39 rfl (lv_at hl 2 rfl) ?_
      refine k_top hk9e ?_
      refine k_Vi (As := [.int (nI k9)]) (r := (MgoQ (ms m9) k9)) hF (c_X4_passes l g a (sMas (sMth m9 (nI 0)) (ms m9)) k9 (by omega)) (cwV 1 hts gX4_disturbedAfter_X4_passes rfl rfl rfl (by decide +kernel) ⟨Nat.le_of_ble_eq_true rfl, Nat.le_of_ble_eq_true rfl⟩) hE hP hD hS hA (k_pall _) ((k_pall _).symm) 0 rfl rfl rfl rfl hl.1 rfl (Nat.le_of_ble_eq_true rfl) dX4_disturbedAfter_40 ⟨Nat.le_of_ble_eq_true rfl, Nat.le_of_ble_eq_true rfl⟩ (fun H locs hP hD hS => ?_)
      have hP : va_P g.1 vwCl (wM g a (sMs (sMas (sMth m9 (nI 0)) (ms m9)) (MgoN (ms m9) k9))) _ := hP
      have hD : va_D A (wM g a (sMs (sMas (sMth m9 (nI 0)) (ms m9)) (MgoN (ms m9) k9))) := hD
      refine lv_pop hx hb dX4_disturbedAfter_43 rfl ?_
      refine lv_iconst (v := (nI 0)) hx hb dX4_disturbedAfter_44 (by decide) ?_
      refine lv_istore_n (lv' := [(3, .int (nI 0)), (0, .ref (a 0)), (1, .int con), (2, .int mins)]) hx hb dX4_disturbedAfter_45 rfl hl (by decide) rfl (fun ls hl => ?_)
      refine lv_iconst (v := (nI 0)) hx hb dX4_disturbedAfter_46 (by decide) ?_
      refine lv_istore (lv' := [(4, .int (nI 0)), (3, .int (nI 0)), (0, .ref (a 0)), (1, .int con), (2, .int mins)]) hx hb dX4_disturbedAfter_47 hl (by decide) rfl (fun ls hl => ?_)
      refine k_loop (N := 8) (Inv := fun (i : Nat) (H : Heap) (locs : List Loc) (ls : Array Slot) => va_P g.1 vwCl (wM g a (sMs (sMas (sMth m9 (nI 0)) (ms m9)) (MgoN (ms m9) k9))) H ∧ va_D A (wM g a (sMs (sMas (sMth m9 (nI 0)) (ms m9)) (MgoN (ms m9) k9))) ∧ va_S A s.heap H locs ∧ lv_has ls 5 [(4, .int (nI i)), (3, .int (Mdist (MgoN (ms m9) k9) c9 i)), (0, .ref (a 0)), (1, .int con), (2, .int mins)]) 0 (Nat.zero_le _) ⟨hP, hD, hS, lv_sub hl [0, 1, 2, 3, 4] rfl⟩ (fun i hle4 ih3 H locs ls hinv => ?_)
      obtain ⟨hP, hD, hS, hl⟩ := hinv
      refine lv_iload hx hb dX4_disturbedAfter_49 (lv_at hl 0 rfl) ?_
      refine lv_bipush (v := (nI 8)) hx hb dX4_disturbedAfter_51 (by decide) ?_
      refine k_geN (tgt := 90) hx hb (by omega) (by decide) dX4_disturbedAfter_53 (by decide) (fun c5 => ?_) (fun c5 => ?_)
      ·
        obtain rfl : 8 = i := by omega
        refine lv_aload_n hx hb dX4_disturbedAfter_90 rfl (lv_at hl 2 rfl) ?_
        refine k_Vv (As := []) hF (c_X4_takeBack l g a (sMs (sMas (sMth m9 (nI 0)) (ms m9)) (MgoN (ms m9) k9))) (cwV 0 hts gX4_disturbedAfter_X4_takeBack rfl rfl rfl (by decide +kernel) ⟨Nat.le_of_ble_eq_true rfl, Nat.le_of_ble_eq_true rfl⟩) hE hP hD hS hA (k_pall _) ((k_pall _).symm) 0 rfl rfl rfl rfl hl.1 rfl (Nat.le_of_ble_eq_true rfl) dX4_disturbedAfter_91 ⟨Nat.le_of_ble_eq_true rfl, Nat.le_of_ble_eq_true rfl⟩ (fun H locs hP hD hS => ?_)
        have hP : va_P g.1 vwCl (wM g a (sMs (sMas (sMth m9 (nI 0)) (ms m9)) (ms m9))) _ := hP
        have hD : va_D A (wM g a (sMs (sMas (sMth m9 (nI 0)) (ms m9)) (ms m9))) := hD
        refine lv_iload_n hx hb dX4_disturbedAfter_94 rfl (lv_at hl 1 rfl) ?_
        have e6 : (MdistS con mins m9) = (sMs (sMas (sMth m9 (nI 0)) (ms m9)) (ms m9)) := (by first | (simp only [MdistS, MdistR, if_pos c1, if_neg (not_not_intro c1), if_pos c2, if_neg (not_not_intro c2), if_pos c5, if_neg (not_not_intro c5), hc9c, hk9c]; done) | (simp only [MdistS, MdistR, if_pos c1, if_neg (not_not_intro c1), if_pos c2, if_neg (not_not_intro c2), if_pos c5, if_neg (not_not_intro c5), hc9c, hk9c]; with_reducible rfl) | with_reducible rfl | (simp [MdistS, MdistR, if_pos c1, if_neg (not_not_intro c1), if_pos c2, if_neg (not_not_intro c2), if_pos c5, if_neg (not_not_intro c5), hc9c, hk9c]; done))
        have hP : va_P g.1 vwCl (wM g a (MdistS con mins m9)) H := by rw [e6]; exact hP
        have hD : va_D A (wM g a (MdistS con mins m9)) := by rw [e6]; exact hD
        exact k_iret hx hb hr hlocks rfl (by first | (simp only [MdistS, MdistR, bI, if_pos c1, if_neg (not_not_intro c1), if_pos c2, if_neg (not_not_intro c2), if_pos c5, if_neg (not_not_intro c5), hc9c, hk9c]; done) | (simp only [MdistS, MdistR, bI, if_pos c1, if_neg (not_not_intro c1), if_pos c2, if_neg (not_not_intro c2), if_pos c5, if_neg (not_not_intro c5), hc9c, hk9c]; with_reducible rfl) | with_reducible rfl | (simp [MdistS, MdistR, bI, if_pos c1, if_neg (not_not_intro c1), if_pos c2, if_neg (not_not_intro c2), if_pos c5, if_neg (not_not_intro c5), hc9c, hk9c]; done)) hP hD hS (Nat.le_of_ble_eq_true rfl) (Nat.le_of_ble_eq_true rfl) dX4_disturbedAfter_95
      ·
        refine lv_iload_n hx hb dX4_disturbedAfter_56 rfl (lv_at hl 1 rfl) ?_
        refine lv_aload_n hx hb dX4_disturbedAfter_57 rfl (lv_at hl 2 rfl) ?_
        refine lv_iload hx hb dX4_disturbedAfter_58 (lv_at hl 0 rfl) ?_
        refine lv_iload_n hx hb dX4_disturbedAfter_60 rfl (lv_at hl 3 rfl) ?_
        refine k_top hc9e ?_
        refine k_Vi (As := [.int (nI i), .int (nI c9)]) (r := (bI (Mgoes (MgoN (ms m9) k9) i c9))) hF (c_X4_goes l g a (sMs (sMas (sMth m9 (nI 0)) (ms m9)) (MgoN (ms m9) k9)) i c9 (by omega) (by omega)) (cwV 2 hts gX4_disturbedAfter_X4_goes rfl rfl rfl (by decide +kernel) ⟨Nat.le_of_ble_eq_true rfl, Nat.le_of_ble_eq_true rfl⟩) hE hP hD hS hA (k_pall _) ((k_pall _).symm) 0 rfl rfl rfl rfl hl.1 rfl (Nat.le_of_ble_eq_true rfl) dX4_disturbedAfter_61 ⟨Nat.le_of_ble_eq_true rfl, Nat.le_of_ble_eq_true rfl⟩ (fun H locs hP hD hS => ?_)
        have hP : va_P g.1 vwCl (wM g a (sMs (sMas (sMth m9 (nI 0)) (ms m9)) (MgoN (ms m9) k9))) _ := hP
        have hD : va_D A (wM g a (sMs (sMas (sMth m9 (nI 0)) (ms m9)) (MgoN (ms m9) k9))) := hD
        refine k_ifeqB (tgt := 81) hx hb dX4_disturbedAfter_64 (by decide) (fun c7 => ?_) (fun c7 => ?_)
        ·
          refine lv_iconst (v := (nI 0)) hx hb dX4_disturbedAfter_81 (by decide) ?_
          refine lv_iadd hx hb dX4_disturbedAfter_82 ?_
          refine lv_istore_n (lv' := [(3, .int ((Mdist (MgoN (ms m9) k9) c9 i) + (nI 0))), (4, .int (nI i)), (0, .ref (a 0)), (1, .int con), (2, .int mins)]) hx hb dX4_disturbedAfter_83 rfl hl (by decide) rfl (fun ls hl => ?_)
          refine lv_iinc (v := (nI (i + 1))) (lv' := [(4, .int (nI (i + 1))), (3, .int ((Mdist (MgoN (ms m9) k9) c9 i) + (nI 0))), (0, .ref (a 0)), (1, .int con), (2, .int mins)]) hx hb dX4_disturbedAfter_84 hl (k := 1) rfl (k_inc1 _) (by decide) rfl (fun ls hl => ?_)
          refine lv_goto (tgt := 49) hx hb dX4_disturbedAfter_87 (by decide) ?_
          have e8 : (Mdist (MgoN (ms m9) k9) c9 (i + 1)) = ((Mdist (MgoN (ms m9) k9) c9 i) + (nI 0)) := (by show Mdist (MgoN (ms m9) k9) c9 i + bI (Mgoes (MgoN (ms m9) k9) i c9 ∧ ¬ Mwants (MgoN (ms m9) k9) i c9) = _; rw [bI_f (fun h9 => c7 h9.1)])
          exact ih3 _ _ _ (by omega) ⟨hP, hD, hS, (by rw [e8]; exact lv_sub hl [0, 1, 2, 3, 4] rfl)⟩
        ·
          refine lv_aload_n hx hb dX4_disturbedAfter_67 rfl (lv_at hl 2 rfl) ?_
          refine lv_iload hx hb dX4_disturbedAfter_68 (lv_at hl 0 rfl) ?_
          refine lv_iload_n hx hb dX4_disturbedAfter_70 rfl (lv_at hl 3 rfl) ?_
          refine k_top hc9e ?_
          refine k_Vi (As := [.int (nI i), .int (nI c9)]) (r := (bI (Mwants (MgoN (ms m9) k9) i c9))) hF (c_X4_wants l g a (sMs (sMas (sMth m9 (nI 0)) (ms m9)) (MgoN (ms m9) k9)) i c9 (by omega) (by omega)) (cwV 2 hts gX4_disturbedAfter_X4_wants rfl rfl rfl (by decide +kernel) ⟨Nat.le_of_ble_eq_true rfl, Nat.le_of_ble_eq_true rfl⟩) hE hP hD hS hA (k_pall _) ((k_pall _).symm) 0 rfl rfl rfl rfl hl.1 rfl (Nat.le_of_ble_eq_true rfl) dX4_disturbedAfter_71 ⟨Nat.le_of_ble_eq_true rfl, Nat.le_of_ble_eq_true rfl⟩ (fun H locs hP hD hS => ?_)
          have hP : va_P g.1 vwCl (wM g a (sMs (sMas (sMth m9 (nI 0)) (ms m9)) (MgoN (ms m9) k9))) _ := hP
          have hD : va_D A (wM g a (sMs (sMas (sMth m9 (nI 0)) (ms m9)) (MgoN (ms m9) k9))) := hD
          refine k_ifneB (tgt := 81) hx hb dX4_disturbedAfter_74 (by decide) (fun c10 => ?_) (fun c10 => ?_)
          ·
            refine lv_iconst (v := (nI 0)) hx hb dX4_disturbedAfter_81 (by decide) ?_
            refine lv_iadd hx hb dX4_disturbedAfter_82 ?_
            refine lv_istore_n (lv' := [(3, .int ((Mdist (MgoN (ms m9) k9) c9 i) + (nI 0))), (4, .int (nI i)), (0, .ref (a 0)), (1, .int con), (2, .int mins)]) hx hb dX4_disturbedAfter_83 rfl hl (by decide) rfl (fun ls hl => ?_)
            refine lv_iinc (v := (nI (i + 1))) (lv' := [(4, .int (nI (i + 1))), (3, .int ((Mdist (MgoN (ms m9) k9) c9 i) + (nI 0))), (0, .ref (a 0)), (1, .int con), (2, .int mins)]) hx hb dX4_disturbedAfter_84 hl (k := 1) rfl (k_inc1 _) (by decide) rfl (fun ls hl => ?_)
            refine lv_goto (tgt := 49) hx hb dX4_disturbedAfter_87 (by decide) ?_
            have e11 : (Mdist (MgoN (ms m9) k9) c9 (i + 1)) = ((Mdist (MgoN (ms m9) k9) c9 i) + (nI 0)) := (by show Mdist (MgoN (ms m9) k9) c9 i + bI (Mgoes (MgoN (ms m9) k9) i c9 ∧ ¬ Mwants (MgoN (ms m9) k9) i c9) = _; rw [bI_f (fun h9 => h9.2 c10)])
            exact ih3 _ _ _ (by omega) ⟨hP, hD, hS, (by rw [e11]; exact lv_sub hl [0, 1, 2, 3, 4] rfl)⟩
          ·
            refine lv_iconst (v := (nI 1)) hx hb dX4_disturbedAfter_77 (by decide) ?_
            refine lv_goto (tgt := 82) hx hb dX4_disturbedAfter_78 (by decide) ?_
            refine lv_iadd hx hb dX4_disturbedAfter_82 ?_
            refine lv_istore_n (lv' := [(3, .int ((Mdist (MgoN (ms m9) k9) c9 i) + (nI 1))), (4, .int (nI i)), (0, .ref (a 0)), (1, .int con), (2, .int mins)]) hx hb dX4_disturbedAfter_83 rfl hl (by decide) rfl (fun ls hl => ?_)
            refine lv_iinc (v := (nI (i + 1))) (lv' := [(4, .int (nI (i + 1))), (3, .int ((Mdist (MgoN (ms m9) k9) c9 i) + (nI 1))), (0, .ref (a 0)), (1, .int con), (2, .int mins)]) hx hb dX4_disturbedAfter_84 hl (k := 1) rfl (k_inc1 _) (by decide) rfl (fun ls hl => ?_)
            refine lv_goto (tgt := 49) hx hb dX4_disturbedAfter_87 (by decide) ?_
            have e12 : (Mdist (MgoN (ms m9) k9) c9 (i + 1)) = ((Mdist (MgoN (ms m9) k9) c9 i) + (nI 1)) := (by show Mdist (MgoN (ms m9) k9) c9 i + bI (Mgoes (MgoN (ms m9) k9) i c9 ∧ ¬ Mwants (MgoN (ms m9) k9) i c9) = _; rw [bI_t ⟨c7, c10⟩])
            exact ih3 _ _ _ (by omega) ⟨hP, hD, hS, (by rw [e12]; exact lv_sub hl [0, 1, 2, 3, 4] rfl)⟩
    ·
      refine lv_aload_n hx hb dX4_disturbedAfter_28 rfl (lv_at hl 0 rfl) ?_
      refine lv_iconst (v := (nI 2)) hx hb dX4_disturbedAfter_29 (by decide) ?_
      refine k_Vi (As := [.int (nI 2)]) (r := (nI 0)) hF (c_X4_fails l g a (sMth m9 (nI 0)) (nI 2)) (cwV 1 hts gX4_disturbedAfter_X4_fails rfl rfl rfl (by decide +kernel) ⟨Nat.le_of_ble_eq_true rfl, Nat.le_of_ble_eq_true rfl⟩) hE hP hD hS hA (k_pall _) ((k_pall _).symm) 0 rfl rfl rfl rfl hl.1 rfl (Nat.le_of_ble_eq_true rfl) dX4_disturbedAfter_30 ⟨Nat.le_of_ble_eq_true rfl, Nat.le_of_ble_eq_true rfl⟩ (fun H locs hP hD hS => ?_)
      have hP : va_P g.1 vwCl (wM g a (sMth m9 (nI 2))) _ := hP
      have hD : va_D A (wM g a (sMth m9 (nI 2))) := hD
      have e13 : (MdistS con mins m9) = (sMth m9 (nI 2)) := (by first | (simp only [MdistS, MdistR, if_pos c1, if_neg (not_not_intro c1), if_neg c2, if_pos c2, hc9c]; done) | (simp only [MdistS, MdistR, if_pos c1, if_neg (not_not_intro c1), if_neg c2, if_pos c2, hc9c]; with_reducible rfl) | with_reducible rfl | (simp [MdistS, MdistR, if_pos c1, if_neg (not_not_intro c1), if_neg c2, if_pos c2, hc9c]; done))
      have hP : va_P g.1 vwCl (wM g a (MdistS con mins m9)) H := by rw [e13]; exact hP
      have hD : va_D A (wM g a (MdistS con mins m9)) := by rw [e13]; exact hD
      exact k_iret hx hb hr hlocks rfl (by first | (simp only [MdistS, MdistR, bI, if_pos c1, if_neg (not_not_intro c1), if_neg c2, if_pos c2, hc9c]; done) | (simp only [MdistS, MdistR, bI, if_pos c1, if_neg (not_not_intro c1), if_neg c2, if_pos c2, hc9c]; with_reducible rfl) | with_reducible rfl | (simp [MdistS, MdistR, bI, if_pos c1, if_neg (not_not_intro c1), if_neg c2, if_pos c2, hc9c]; done)) hP hD hS (Nat.le_of_ble_eq_true rfl) (Nat.le_of_ble_eq_true rfl) dX4_disturbedAfter_33
  ·
    refine lv_aload_n hx hb dX4_disturbedAfter_12 rfl (lv_at hl 0 rfl) ?_
    refine lv_iconst (v := (nI 1)) hx hb dX4_disturbedAfter_13 (by decide) ?_
    refine k_Vi (As := [.int (nI 1)]) (r := (nI 0)) hF (c_X4_fails l g a (sMth m9 (nI 0)) (nI 1)) (cwV 1 hts gX4_disturbedAfter_X4_fails rfl rfl rfl (by decide +kernel) ⟨Nat.le_of_ble_eq_true rfl, Nat.le_of_ble_eq_true rfl⟩) hE hP hD hS hA (k_pall _) ((k_pall _).symm) 0 rfl rfl rfl rfl hl.1 rfl (Nat.le_of_ble_eq_true rfl) dX4_disturbedAfter_14 ⟨Nat.le_of_ble_eq_true rfl, Nat.le_of_ble_eq_true rfl⟩ (fun H locs hP hD hS => ?_)
    have hP : va_P g.1 vwCl (wM g a (sMth m9 (nI 1))) _ := hP
    have hD : va_D A (wM g a (sMth m9 (nI 1))) := hD
    have e14 : (MdistS con mins m9) = (sMth m9 (nI 1)) := (by first | (simp only [MdistS, MdistR, if_neg c1, if_pos c1]; done) | (simp only [MdistS, MdistR, if_neg c1, if_pos c1]; with_reducible rfl) | with_reducible rfl | (simp [MdistS, MdistR, if_neg c1, if_pos c1]; done))
    have hP : va_P g.1 vwCl (wM g a (MdistS con mins m9)) H := by rw [e14]; exact hP
    have hD : va_D A (wM g a (MdistS con mins m9)) := by rw [e14]; exact hD
    exact k_iret hx hb hr hlocks rfl (by first | (simp only [MdistS, MdistR, bI, if_neg c1, if_pos c1]; done) | (simp only [MdistS, MdistR, bI, if_neg c1, if_pos c1]; with_reducible rfl) | with_reducible rfl | (simp [MdistS, MdistR, bI, if_neg c1, if_pos c1]; done)) hP hD hS (Nat.le_of_ble_eq_true rfl) (Nat.le_of_ble_eq_true rfl) dX4_disturbedAfter_17
