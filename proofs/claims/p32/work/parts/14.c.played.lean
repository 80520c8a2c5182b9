/-! the law's own methods -/
set_option maxHeartbeats 4000000 in
set_option maxRecDepth 100000 in
theorem c_L_isPlayed (l : Launch) (g : kG) (u : Nat) (ah at9 a0 : Nat → Nat) (ak : Nat → Nat → Nat) (h : HSt) (sg : Nat → Int32) (n od sz : Nat) (hs : Nat → HSt) (hod : od < 6) (sz5 : sz ≤ 5) (hbo : Hbo h) (hbs : ∀ j, Hbo (hs j)) (hI : Inv h) (c9 : Nat) (hc9 : c9 < 6) : KI l yL_isPlayed wsL_isPlayed ({ frames := 4, cells := 0, slots := 0, locals := 123 }) g [.ref u, .int (nI c9)] ((wU u (ah 0) (a0 0) (at9 0)) ++ ((wH g ah h) ++ ((wT g at9 (sg, (nI n))) ++ ((wK0 g a0 ak ((nI od), (nI sz))) ++ (wHs g ak hs 6))))) (nI 1) ((wU u (ah 0) (a0 0) (at9 0)) ++ ((wH g ah h) ++ ((wT g at9 (sg, (nI n))) ++ ((wK0 g a0 ak ((nI od), (nI sz))) ++ (wHs g ak (va_up hs ((od + sz) % 6) h) 6))))) 0 0 := by
  refine k_begin (cc := cL_isPlayed) (maxL := 10) (ret := (some .boolean)) (Qc := fun A => kQi g (nI 1) ((wU u (ah 0) (a0 0) (at9 0)) ++ ((wH g ah h) ++ ((wT g at9 (sg, (nI n))) ++ ((wK0 g a0 ak ((nI od), (nI sz))) ++ (wHs g ak (va_up hs ((od + sz) % 6) h) 6))))) A) (by decide) rfl (Nat.le_of_ble_eq_true rfl) ?_
  intro p e s m below meth c A ls hF hr hlocks hin hE hP hD hS hA hl
  obtain ⟨hx, hb, hml, hown, hts⟩ := id hF
  have hown : s.vm.findClass RL = some m.cls := hown
  have hl : lv_has ls 10 [(0, .ref u), (1, .int (nI c9))] := hl
  refine lv_aload_n hx hb dL_isPlayed_0 rfl (lv_at hl 0 rfl) ?_
  refine lv_iload_n hx hb dL_isPlayed_1 rfl (lv_at hl 1 rfl) ?_
  refine k_Vi (As := [.int (nI c9)]) (r := (Hget h c9 8)) hF (c_X3_rows l g u ah at9 a0 ak h sg n od sz hs c9 (by omega)) (cwV 1 hts gL_isPlayed_X3_rows rfl rfl rfl (by decide +kernel) ⟨Nat.le_of_ble_eq_true rfl, Nat.le_of_ble_eq_true rfl⟩) hE hP hD hS hA (k_pall _) ((k_pall _).symm) 0 rfl rfl rfl rfl hl.1 rfl (Nat.le_of_ble_eq_true rfl) dL_isPlayed_2 ⟨Nat.le_of_ble_eq_true rfl, Nat.le_of_ble_eq_true rfl⟩ (fun H locs hP hD hS => ?_)
  have hP : va_P g.1 vwCl ((wU u (ah 0) (a0 0) (at9 0)) ++ ((wH g ah h) ++ ((wT g at9 (sg, (nI n))) ++ ((wK0 g a0 ak ((nI od), (nI sz))) ++ (wHs g ak hs 6))))) _ := hP
  have hD : va_D A ((wU u (ah 0) (a0 0) (at9 0)) ++ ((wH g ah h) ++ ((wT g at9 (sg, (nI n))) ++ ((wK0 g a0 ak ((nI od), (nI sz))) ++ (wHs g ak hs 6))))) := hD
  refine lv_istore_n (lv' := [(2, .int (Hget h c9 8)), (0, .ref u), (1, .int (nI c9))]) hx hb dL_isPlayed_5 rfl hl (by decide) rfl (fun ls hl => ?_)
  refine lv_aload_n hx hb dL_isPlayed_6 rfl (lv_at hl 1 rfl) ?_
  refine lv_iload_n hx hb dL_isPlayed_7 rfl (lv_at hl 2 rfl) ?_
  refine k_Vi (As := [.int (nI c9)]) (r := (Hwant h c9 8)) hF (c_X3_wanted l g u ah at9 a0 ak h sg n od sz hs c9 (by omega)) (cwV 1 hts gL_isPlayed_X3_wanted rfl rfl rfl (by decide +kernel) ⟨Nat.le_of_ble_eq_true rfl, Nat.le_of_ble_eq_true rfl⟩) hE hP hD hS hA (k_pall _) ((k_pall _).symm) 0 rfl rfl rfl rfl hl.1 rfl (Nat.le_of_ble_eq_true rfl) dL_isPlayed_8 ⟨Nat.le_of_ble_eq_true rfl, Nat.le_of_ble_eq_true rfl⟩ (fun H locs hP hD hS => ?_)
  have hP : va_P g.1 vwCl ((wU u (ah 0) (a0 0) (at9 0)) ++ ((wH g ah h) ++ ((wT g at9 (sg, (nI n))) ++ ((wK0 g a0 ak ((nI od), (nI sz))) ++ (wHs g ak hs 6))))) _ := hP
  have hD : va_D A ((wU u (ah 0) (a0 0) (at9 0)) ++ ((wH g ah h) ++ ((wT g at9 (sg, (nI n))) ++ ((wK0 g a0 ak ((nI od), (nI sz))) ++ (wHs g ak hs 6))))) := hD
  refine lv_istore_n (lv' := [(3, .int (Hwant h c9 8)), (2, .int (Hget h c9 8)), (0, .ref u), (1, .int (nI c9))]) hx hb dL_isPlayed_11 rfl hl (by decide) rfl (fun ls hl => ?_)
  refine lv_aload_n hx hb dL_isPlayed_12 rfl (lv_at hl 2 rfl) ?_
  refine lv_iconst (v := (nI 0)) hx hb dL_isPlayed_13 (by decide) ?_
  refine k_Vi (As := [.int (nI 0)]) (r := ((hC h) 0)) hF (c_X3_count l g u ah at9 a0 ak h sg n od sz hs 0 (by decide)) (cwV 1 hts gL_isPlayed_X3_count rfl rfl rfl (by decide +kernel) ⟨Nat.le_of_ble_eq_true rfl, Nat.le_of_ble_eq_true rfl⟩) hE hP hD hS hA (k_pall _) ((k_pall _).symm) 0 rfl rfl rfl rfl hl.1 rfl (Nat.le_of_ble_eq_true rfl) dL_isPlayed_14 ⟨Nat.le_of_ble_eq_true rfl, Nat.le_of_ble_eq_true rfl⟩ (fun H locs hP hD hS => ?_)
  have hP : va_P g.1 vwCl ((wU u (ah 0) (a0 0) (at9 0)) ++ ((wH g ah h) ++ ((wT g at9 (sg, (nI n))) ++ ((wK0 g a0 ak ((nI od), (nI sz))) ++ (wHs g ak hs 6))))) _ := hP
  have hD : va_D A ((wU u (ah 0) (a0 0) (at9 0)) ++ ((wH g ah h) ++ ((wT g at9 (sg, (nI n))) ++ ((wK0 g a0 ak ((nI od), (nI sz))) ++ (wHs g ak hs 6))))) := hD
  refine lv_istore (lv' := [(4, .int ((hC h) 0)), (3, .int (Hwant h c9 8)), (2, .int (Hget h c9 8)), (0, .ref u), (1, .int (nI c9))]) hx hb dL_isPlayed_17 hl (by decide) rfl (fun ls hl => ?_)
  refine lv_aload_n hx hb dL_isPlayed_19 rfl (lv_at hl 3 rfl) ?_
  refine lv_iconst (v := (nI 1)) hx hb dL_isPlayed_20 (by decide) ?_
  refine k_Vi (As := [.int (nI 1)]) (r := ((hC h) 1)) hF (c_X3_count l g u ah at9 a0 ak h sg n od sz hs 1 (by decide)) (cwV 1 hts gL_isPlayed_X3_count rfl rfl rfl (by decide +kernel) ⟨Nat.le_of_ble_eq_true rfl, Nat.le_of_ble_eq_true rfl⟩) hE hP hD hS hA (k_pall _) ((k_pall _).symm) 0 rfl rfl rfl rfl hl.1 rfl (Nat.le_of_ble_eq_true rfl) dL_isPlayed_21 ⟨Nat.le_of_ble_eq_true rfl, Nat.le_of_ble_eq_true rfl⟩ (fun H locs hP hD hS => ?_)
  have hP : va_P g.1 vwCl ((wU u (ah 0) (a0 0) (at9 0)) ++ ((wH g ah h) ++ ((wT g at9 (sg, (nI n))) ++ ((wK0 g a0 ak ((nI od), (nI sz))) ++ (wHs g ak hs 6))))) _ := hP
  have hD : va_D A ((wU u (ah 0) (a0 0) (at9 0)) ++ ((wH g ah h) ++ ((wT g at9 (sg, (nI n))) ++ ((wK0 g a0 ak ((nI od), (nI sz))) ++ (wHs g ak hs 6))))) := hD
  refine lv_istore (lv' := [(5, .int ((hC h) 1)), (4, .int ((hC h) 0)), (3, .int (Hwant h c9 8)), (2, .int (Hget h c9 8)), (0, .ref u), (1, .int (nI c9))]) hx hb dL_isPlayed_24 hl (by decide) rfl (fun ls hl => ?_)
  refine lv_aload_n hx hb dL_isPlayed_26 rfl (lv_at hl 4 rfl) ?_
  refine lv_iconst (v := (nI 2)) hx hb dL_isPlayed_27 (by decide) ?_
  refine k_Vi (As := [.int (nI 2)]) (r := ((hC h) 2)) hF (c_X3_count l g u ah at9 a0 ak h sg n od sz hs 2 (by decide)) (cwV 1 hts gL_isPlayed_X3_count rfl rfl rfl (by decide +kernel) ⟨Nat.le_of_ble_eq_true rfl, Nat.le_of_ble_eq_true rfl⟩) hE hP hD hS hA (k_pall _) ((k_pall _).symm) 0 rfl rfl rfl rfl hl.1 rfl (Nat.le_of_ble_eq_true rfl) dL_isPlayed_28 ⟨Nat.le_of_ble_eq_true rfl, Nat.le_of_ble_eq_true rfl⟩ (fun H locs hP hD hS => ?_)
  have hP : va_P g.1 vwCl ((wU u (ah 0) (a0 0) (at9 0)) ++ ((wH g ah h) ++ ((wT g at9 (sg, (nI n))) ++ ((wK0 g a0 ak ((nI od), (nI sz))) ++ (wHs g ak hs 6))))) _ := hP
  have hD : va_D A ((wU u (ah 0) (a0 0) (at9 0)) ++ ((wH g ah h) ++ ((wT g at9 (sg, (nI n))) ++ ((wK0 g a0 ak ((nI od), (nI sz))) ++ (wHs g ak hs 6))))) := hD
  refine lv_istore (lv' := [(6, .int ((hC h) 2)), (5, .int ((hC h) 1)), (4, .int ((hC h) 0)), (3, .int (Hwant h c9 8)), (2, .int (Hget h c9 8)), (0, .ref u), (1, .int (nI c9))]) hx hb dL_isPlayed_31 hl (by decide) rfl (fun ls hl => ?_)
  refine lv_aload_n hx hb dL_isPlayed_33 rfl (lv_at hl 5 rfl) ?_
  refine k_Sl (As := [.ref u]) (r := (Told h)) hF (c_L_told l g u ah at9 a0 ak h sg n od sz hs) (va_cwS 1 hts gL_isPlayed_L_told rfl rfl rfl (by decide +kernel) ⟨Nat.le_of_ble_eq_true rfl, Nat.le_of_ble_eq_true rfl⟩) hE hP hD hS hA (k_pall _) ((k_pall _).symm) rfl hl.1 rfl (Nat.le_of_ble_eq_true rfl) dL_isPlayed_34 ⟨Nat.le_of_ble_eq_true rfl, Nat.le_of_ble_eq_true rfl⟩ (fun H locs hP hD hS => ?_)
  have hP : va_P g.1 vwCl ((wU u (ah 0) (a0 0) (at9 0)) ++ ((wH g ah h) ++ ((wT g at9 (sg, (nI n))) ++ ((wK0 g a0 ak ((nI od), (nI sz))) ++ (wHs g ak hs 6))))) _ := hP
  have hD : va_D A ((wU u (ah 0) (a0 0) (at9 0)) ++ ((wH g ah h) ++ ((wT g at9 (sg, (nI n))) ++ ((wK0 g a0 ak ((nI od), (nI sz))) ++ (wHs g ak hs 6))))) := hD
  refine lv_lstore (lv' := [(7, .long (Told h)), (6, .int ((hC h) 2)), (5, .int ((hC h) 1)), (4, .int ((hC h) 0)), (3, .int (Hwant h c9 8)), (2, .int (Hget h c9 8)), (0, .ref u), (1, .int (nI c9))]) hx hb dL_isPlayed_37 hl (by decide) rfl (fun ls hl => ?_)
  refine lv_aload_n hx hb dL_isPlayed_39 rfl (lv_at hl 6 rfl) ?_
  refine lv_iload_n hx hb dL_isPlayed_40 rfl (lv_at hl 7 rfl) ?_
  refine k_Vi (As := [.int (nI c9)]) (r := (bc (Hget h c9 8))) hF (c_X3_play l g u ah at9 a0 ak h sg n od sz hs (by omega) (by omega) hbo c9 (by omega)) (cwV 1 hts gL_isPlayed_X3_play rfl rfl rfl (by decide +kernel) ⟨Nat.le_of_ble_eq_true rfl, Nat.le_of_ble_eq_true rfl⟩) hE hP hD hS hA (k_pall _) ((k_pall _).symm) 0 rfl rfl rfl rfl hl.1 rfl (Nat.le_of_ble_eq_true rfl) dL_isPlayed_41 ⟨Nat.le_of_ble_eq_true rfl, Nat.le_of_ble_eq_true rfl⟩ (fun H locs hP hD hS => ?_)
  have hP : va_P g.1 vwCl ((wU u (ah 0) (a0 0) (at9 0)) ++ ((wH g ah (Hperf c9 h)) ++ ((wT g at9 (sg, (nI n))) ++ ((wK0 g a0 ak ((nI od), (nI (sz + 1)))) ++ (wHs g ak (va_up hs ((od + sz) % 6) h) 6))))) _ := hP
  have hD : va_D A ((wU u (ah 0) (a0 0) (at9 0)) ++ ((wH g ah (Hperf c9 h)) ++ ((wT g at9 (sg, (nI n))) ++ ((wK0 g a0 ak ((nI od), (nI (sz + 1)))) ++ (wHs g ak (va_up hs ((od + sz) % 6) h) 6))))) := hD
  obtain ⟨z1, ez1⟩ : ∃ x : HSt, (Hperf c9 h) = x := ⟨_, rfl⟩
  rw [ez1] at hP hD
  refine lv_iload_n hx hb dL_isPlayed_44 rfl (lv_at hl 5 rfl) ?_
  obtain ⟨k2, hk2, ek2⟩ := get_n hI c9
  refine k_top ek2 ?_
  refine k_Si (w0 := []) (w1 := []) (As := [.int (nI k2)]) (r := (bc (nI k2))) hF (c_L_bits l g k2 hk2) (va_cwS 1 hts gL_isPlayed_L_bits rfl rfl rfl (by decide +kernel) ⟨Nat.le_of_ble_eq_true rfl, Nat.le_of_ble_eq_true rfl⟩) hE hP hD hS hA (List.Perm.refl _) (List.Perm.refl _) rfl hl.1 rfl (Nat.le_of_ble_eq_true rfl) dL_isPlayed_45 ⟨Nat.le_of_ble_eq_true rfl, Nat.le_of_ble_eq_true rfl⟩ (fun H locs hP hD hS => ?_)
  have hP : va_P g.1 vwCl ((wU u (ah 0) (a0 0) (at9 0)) ++ ((wH g ah z1) ++ ((wT g at9 (sg, (nI n))) ++ ((wK0 g a0 ak ((nI od), (nI (sz + 1)))) ++ (wHs g ak (va_up hs ((od + sz) % 6) h) 6))))) _ := hP
  have hD : va_D A ((wU u (ah 0) (a0 0) (at9 0)) ++ ((wH g ah z1) ++ ((wT g at9 (sg, (nI n))) ++ ((wK0 g a0 ak ((nI od), (nI (sz + 1)))) ++ (wHs g ak (va_up hs ((od + sz) % 6) h) 6))))) := hD
  refine k_top (show bc (nI k2) = bc (Hget h c9 8) from by rw [ek2]) ?_
  refine lv_icmp_ne (tgt := 110) hx hb dL_isPlayed_48 (by decide) (fun c3 => ?_) (fun c3 => ?_)
  ·
    exact absurd rfl c3
  ·
    refine lv_aload_n hx hb dL_isPlayed_51 rfl (lv_at hl 6 rfl) ?_
    refine lv_iconst (v := (nI 0)) hx hb dL_isPlayed_52 (by decide) ?_
    refine k_Vi (As := [.int (nI 0)]) (r := ((hC z1) 0)) hF (c_X3_count l g u ah at9 a0 ak z1 sg n od (sz + 1) (va_up hs ((od + sz) % 6) h) 0 (by decide)) (cwV 1 hts gL_isPlayed_X3_count rfl rfl rfl (by decide +kernel) ⟨Nat.le_of_ble_eq_true rfl, Nat.le_of_ble_eq_true rfl⟩) hE hP hD hS hA (k_pall _) ((k_pall _).symm) 0 rfl rfl rfl rfl hl.1 rfl (Nat.le_of_ble_eq_true rfl) dL_isPlayed_53 ⟨Nat.le_of_ble_eq_true rfl, Nat.le_of_ble_eq_true rfl⟩ (fun H locs hP hD hS => ?_)
    have hP : va_P g.1 vwCl ((wU u (ah 0) (a0 0) (at9 0)) ++ ((wH g ah z1) ++ ((wT g at9 (sg, (nI n))) ++ ((wK0 g a0 ak ((nI od), (nI (sz + 1)))) ++ (wHs g ak (va_up hs ((od + sz) % 6) h) 6))))) _ := hP
    have hD : va_D A ((wU u (ah 0) (a0 0) (at9 0)) ++ ((wH g ah z1) ++ ((wT g at9 (sg, (nI n))) ++ ((wK0 g a0 ak ((nI od), (nI (sz + 1)))) ++ (wHs g ak (va_up hs ((od + sz) % 6) h) 6))))) := hD
    refine lv_iload hx hb dL_isPlayed_56 (lv_at hl 3 rfl) ?_
    refine lv_iload_n hx hb dL_isPlayed_58 rfl (lv_at hl 5 rfl) ?_
    refine lv_iload_n hx hb dL_isPlayed_59 rfl (lv_at hl 4 rfl) ?_
    refine lv_iand hx hb dL_isPlayed_60 ?_
    obtain ⟨k4, hk4, ek4⟩ := gw_n hI c9
    refine k_top ek4 ?_
    refine k_Si (w0 := []) (w1 := []) (As := [.int (nI k4)]) (r := (bc (nI k4))) hF (c_L_bits l g k4 hk4) (va_cwS 1 hts gL_isPlayed_L_bits rfl rfl rfl (by decide +kernel) ⟨Nat.le_of_ble_eq_true rfl, Nat.le_of_ble_eq_true rfl⟩) hE hP hD hS hA (List.Perm.refl _) (List.Perm.refl _) rfl hl.1 rfl (Nat.le_of_ble_eq_true rfl) dL_isPlayed_61 ⟨Nat.le_of_ble_eq_true rfl, Nat.le_of_ble_eq_true rfl⟩ (fun H locs hP hD hS => ?_)
    have hP : va_P g.1 vwCl ((wU u (ah 0) (a0 0) (at9 0)) ++ ((wH g ah z1) ++ ((wT g at9 (sg, (nI n))) ++ ((wK0 g a0 ak ((nI od), (nI (sz + 1)))) ++ (wHs g ak (va_up hs ((od + sz) % 6) h) 6))))) _ := hP
    have hD : va_D A ((wU u (ah 0) (a0 0) (at9 0)) ++ ((wH g ah z1) ++ ((wT g at9 (sg, (nI n))) ++ ((wK0 g a0 ak ((nI od), (nI (sz + 1)))) ++ (wHs g ak (va_up hs ((od + sz) % 6) h) 6))))) := hD
    refine k_top (show bc (nI k4) = bc ((Hget h c9 8) &&& (Hwant h c9 8)) from by rw [ek4]) ?_
    refine lv_iadd hx hb dL_isPlayed_64 ?_
    refine lv_icmp_ne (tgt := 110) hx hb dL_isPlayed_65 (by decide) (fun c5 => ?_) (fun c5 => ?_)
    ·
      exact absurd (by rw [← ez1]; exact (perf_C h c9).1) c5
    ·
      refine lv_aload_n hx hb dL_isPlayed_68 rfl (lv_at hl 6 rfl) ?_
      refine lv_iconst (v := (nI 1)) hx hb dL_isPlayed_69 (by decide) ?_
      refine k_Vi (As := [.int (nI 1)]) (r := ((hC z1) 1)) hF (c_X3_count l g u ah at9 a0 ak z1 sg n od (sz + 1) (va_up hs ((od + sz) % 6) h) 1 (by decide)) (cwV 1 hts gL_isPlayed_X3_count rfl rfl rfl (by decide +kernel) ⟨Nat.le_of_ble_eq_true rfl, Nat.le_of_ble_eq_true rfl⟩) hE hP hD hS hA (k_pall _) ((k_pall _).symm) 0 rfl rfl rfl rfl hl.1 rfl (Nat.le_of_ble_eq_true rfl) dL_isPlayed_70 ⟨Nat.le_of_ble_eq_true rfl, Nat.le_of_ble_eq_true rfl⟩ (fun H locs hP hD hS => ?_)
      have hP : va_P g.1 vwCl ((wU u (ah 0) (a0 0) (at9 0)) ++ ((wH g ah z1) ++ ((wT g at9 (sg, (nI n))) ++ ((wK0 g a0 ak ((nI od), (nI (sz + 1)))) ++ (wHs g ak (va_up hs ((od + sz) % 6) h) 6))))) _ := hP
      have hD : va_D A ((wU u (ah 0) (a0 0) (at9 0)) ++ ((wH g ah z1) ++ ((wT g at9 (sg, (nI n))) ++ ((wK0 g a0 ak ((nI od), (nI (sz + 1)))) ++ (wHs g ak (va_up hs ((od + sz) % 6) h) 6))))) := hD
      refine lv_iload hx hb dL_isPlayed_73 (lv_at hl 2 rfl) ?_
      refine lv_iload_n hx hb dL_isPlayed_75 rfl (lv_at hl 5 rfl) ?_
      refine lv_iload_n hx hb dL_isPlayed_76 rfl (lv_at hl 4 rfl) ?_
      refine lv_iconst (v := (-1)) hx hb dL_isPlayed_77 (by decide) ?_
      refine lv_ixor hx hb dL_isPlayed_78 ?_
      refine lv_iand hx hb dL_isPlayed_79 ?_
      obtain ⟨k6, hk6, ek6⟩ := gnw_n hI c9
      refine k_top ek6 ?_
      refine k_Si (w0 := []) (w1 := []) (As := [.int (nI k6)]) (r := (bc (nI k6))) hF (c_L_bits l g k6 hk6) (va_cwS 1 hts gL_isPlayed_L_bits rfl rfl rfl (by decide +kernel) ⟨Nat.le_of_ble_eq_true rfl, Nat.le_of_ble_eq_true rfl⟩) hE hP hD hS hA (List.Perm.refl _) (List.Perm.refl _) rfl hl.1 rfl (Nat.le_of_ble_eq_true rfl) dL_isPlayed_80 ⟨Nat.le_of_ble_eq_true rfl, Nat.le_of_ble_eq_true rfl⟩ (fun H locs hP hD hS => ?_)
      have hP : va_P g.1 vwCl ((wU u (ah 0) (a0 0) (at9 0)) ++ ((wH g ah z1) ++ ((wT g at9 (sg, (nI n))) ++ ((wK0 g a0 ak ((nI od), (nI (sz + 1)))) ++ (wHs g ak (va_up hs ((od + sz) % 6) h) 6))))) _ := hP
      have hD : va_D A ((wU u (ah 0) (a0 0) (at9 0)) ++ ((wH g ah z1) ++ ((wT g at9 (sg, (nI n))) ++ ((wK0 g a0 ak ((nI od), (nI (sz + 1)))) ++ (wHs g ak (va_up hs ((od + sz) % 6) h) 6))))) := hD
      refine k_top (show bc (nI k6) = bc ((Hget h c9 8) &&& ((Hwant h c9 8) ^^^ (-1))) from by rw [ek6]) ?_
      refine lv_iadd hx hb dL_isPlayed_83 ?_
      refine lv_icmp_ne (tgt := 110) hx hb dL_isPlayed_84 (by decide) (fun c7 => ?_) (fun c7 => ?_)
      ·
        exact absurd (by rw [← ez1]; exact (perf_C h c9).2.1) c7
      ·
        refine lv_aload_n hx hb dL_isPlayed_87 rfl (lv_at hl 6 rfl) ?_
        refine lv_iconst (v := (nI 2)) hx hb dL_isPlayed_88 (by decide) ?_
        refine k_Vi (As := [.int (nI 2)]) (r := ((hC z1) 2)) hF (c_X3_count l g u ah at9 a0 ak z1 sg n od (sz + 1) (va_up hs ((od + sz) % 6) h) 2 (by decide)) (cwV 1 hts gL_isPlayed_X3_count rfl rfl rfl (by decide +kernel) ⟨Nat.le_of_ble_eq_true rfl, Nat.le_of_ble_eq_true rfl⟩) hE hP hD hS hA (k_pall _) ((k_pall _).symm) 0 rfl rfl rfl rfl hl.1 rfl (Nat.le_of_ble_eq_true rfl) dL_isPlayed_89 ⟨Nat.le_of_ble_eq_true rfl, Nat.le_of_ble_eq_true rfl⟩ (fun H locs hP hD hS => ?_)
        have hP : va_P g.1 vwCl ((wU u (ah 0) (a0 0) (at9 0)) ++ ((wH g ah z1) ++ ((wT g at9 (sg, (nI n))) ++ ((wK0 g a0 ak ((nI od), (nI (sz + 1)))) ++ (wHs g ak (va_up hs ((od + sz) % 6) h) 6))))) _ := hP
        have hD : va_D A ((wU u (ah 0) (a0 0) (at9 0)) ++ ((wH g ah z1) ++ ((wT g at9 (sg, (nI n))) ++ ((wK0 g a0 ak ((nI od), (nI (sz + 1)))) ++ (wHs g ak (va_up hs ((od + sz) % 6) h) 6))))) := hD
        refine lv_iload hx hb dL_isPlayed_92 (lv_at hl 1 rfl) ?_
        refine lv_iload_n hx hb dL_isPlayed_94 rfl (lv_at hl 4 rfl) ?_
        refine lv_iload_n hx hb dL_isPlayed_95 rfl (lv_at hl 5 rfl) ?_
        refine lv_iconst (v := (-1)) hx hb dL_isPlayed_96 (by decide) ?_
        refine lv_ixor hx hb dL_isPlayed_97 ?_
        refine lv_iand hx hb dL_isPlayed_98 ?_
        obtain ⟨k8, hk8, ek8⟩ := wng_n hI c9
        refine k_top ek8 ?_
        refine k_Si (w0 := []) (w1 := []) (As := [.int (nI k8)]) (r := (bc (nI k8))) hF (c_L_bits l g k8 hk8) (va_cwS 1 hts gL_isPlayed_L_bits rfl rfl rfl (by decide +kernel) ⟨Nat.le_of_ble_eq_true rfl, Nat.le_of_ble_eq_true rfl⟩) hE hP hD hS hA (List.Perm.refl _) (List.Perm.refl _) rfl hl.1 rfl (Nat.le_of_ble_eq_true rfl) dL_isPlayed_99 ⟨Nat.le_of_ble_eq_true rfl, Nat.le_of_ble_eq_true rfl⟩ (fun H locs hP hD hS => ?_)
        have hP : va_P g.1 vwCl ((wU u (ah 0) (a0 0) (at9 0)) ++ ((wH g ah z1) ++ ((wT g at9 (sg, (nI n))) ++ ((wK0 g a0 ak ((nI od), (nI (sz + 1)))) ++ (wHs g ak (va_up hs ((od + sz) % 6) h) 6))))) _ := hP
        have hD : va_D A ((wU u (ah 0) (a0 0) (at9 0)) ++ ((wH g ah z1) ++ ((wT g at9 (sg, (nI n))) ++ ((wK0 g a0 ak ((nI od), (nI (sz + 1)))) ++ (wHs g ak (va_up hs ((od + sz) % 6) h) 6))))) := hD
        refine k_top (show bc (nI k8) = bc ((Hwant h c9 8) &&& ((Hget h c9 8) ^^^ (-1))) from by rw [ek8]) ?_
        refine lv_iadd hx hb dL_isPlayed_102 ?_
        refine lv_icmp_ne (tgt := 110) hx hb dL_isPlayed_103 (by decide) (fun c10 => ?_) (fun c10 => ?_)
        ·
          exact absurd (by rw [← ez1]; exact (perf_C h c9).2.2) c10
        ·
          refine lv_iconst (v := (nI 1)) hx hb dL_isPlayed_106 (by decide) ?_
          refine lv_goto (tgt := 111) hx hb dL_isPlayed_107 (by decide) ?_
          refine lv_istore (lv' := [(9, .int (nI 1)), (7, .long (Told h)), (6, .int ((hC h) 2)), (5, .int ((hC h) 1)), (4, .int ((hC h) 0)), (3, .int (Hwant h c9 8)), (2, .int (Hget h c9 8)), (0, .ref u), (1, .int (nI c9))]) hx hb dL_isPlayed_111 hl (by decide) rfl (fun ls hl => ?_)
          refine lv_aload_n hx hb dL_isPlayed_113 rfl (lv_at hl 7 rfl) ?_
          refine k_Vi (As := []) (r := (nI sz)) hF (c_X3_undo l g u ah at9 a0 ak z1 sg n od sz (va_up hs ((od + sz) % 6) h) (by omega) (by omega) (k_bs hbs hbo)) (cwV 0 hts gL_isPlayed_X3_undo rfl rfl rfl (by decide +kernel) ⟨Nat.le_of_ble_eq_true rfl, Nat.le_of_ble_eq_true rfl⟩) hE hP hD hS hA (k_pall _) ((k_pall _).symm) 0 rfl rfl rfl rfl hl.1 rfl (Nat.le_of_ble_eq_true rfl) dL_isPlayed_114 ⟨Nat.le_of_ble_eq_true rfl, Nat.le_of_ble_eq_true rfl⟩ (fun H locs hP hD hS => ?_)
          have hP : va_P g.1 vwCl ((wU u (ah 0) (a0 0) (at9 0)) ++ ((wH g ah ((va_up hs ((od + sz) % 6) h) ((od + sz) % 6))) ++ ((wT g at9 (sg, (nI n))) ++ ((wK0 g a0 ak ((nI od), (nI sz))) ++ (wHs g ak (va_up hs ((od + sz) % 6) h) 6))))) _ := hP
          have hD : va_D A ((wU u (ah 0) (a0 0) (at9 0)) ++ ((wH g ah ((va_up hs ((od + sz) % 6) h) ((od + sz) % 6))) ++ ((wT g at9 (sg, (nI n))) ++ ((wK0 g a0 ak ((nI od), (nI sz))) ++ (wHs g ak (va_up hs ((od + sz) % 6) h) 6))))) := hD
          obtain ⟨z11, ez11⟩ : ∃ x : HSt, ((va_up hs ((od + sz) % 6) h) ((od + sz) % 6)) = x := ⟨_, rfl⟩
          rw [ez11] at hP hD
          have ez119 : z11 = h := by rw [← ez11]; exact va_same
          rw [ez119] at hP hD
          refine lv_pop hx hb dL_isPlayed_117 rfl ?_
          refine lv_iload hx hb dL_isPlayed_118 (lv_at hl 0 rfl) ?_
          refine k_if0 (tgt := 137) hx hb (by decide) dL_isPlayed_120 (by decide) (fun c12 => ?_) (fun c12 => ?_)
          ·
            exact absurd c12 (by decide)
          ·
            refine lv_aload_n hx hb dL_isPlayed_123 rfl (lv_at hl 7 rfl) ?_
            refine k_Sl (As := [.ref u]) (r := (Told h)) hF (c_L_told l g u ah at9 a0 ak h sg n od sz (va_up hs ((od + sz) % 6) h)) (va_cwS 1 hts gL_isPlayed_L_told rfl rfl rfl (by decide +kernel) ⟨Nat.le_of_ble_eq_true rfl, Nat.le_of_ble_eq_true rfl⟩) hE hP hD hS hA (k_pall _) ((k_pall _).symm) rfl hl.1 rfl (Nat.le_of_ble_eq_true rfl) dL_isPlayed_124 ⟨Nat.le_of_ble_eq_true rfl, Nat.le_of_ble_eq_true rfl⟩ (fun H locs hP hD hS => ?_)
            have hP : va_P g.1 vwCl ((wU u (ah 0) (a0 0) (at9 0)) ++ ((wH g ah h) ++ ((wT g at9 (sg, (nI n))) ++ ((wK0 g a0 ak ((nI od), (nI sz))) ++ (wHs g ak (va_up hs ((od + sz) % 6) h) 6))))) _ := hP
            have hD : va_D A ((wU u (ah 0) (a0 0) (at9 0)) ++ ((wH g ah h) ++ ((wT g at9 (sg, (nI n))) ++ ((wK0 g a0 ak ((nI od), (nI sz))) ++ (wHs g ak (va_up hs ((od + sz) % 6) h) 6))))) := hD
            refine lv_lload hx hb dL_isPlayed_127 (lv_at hl 1 rfl) ?_
            refine W.lcmp hx hb dL_isPlayed_129 ?_
            refine k_top (show (lg_cmp (Told h) (Told h)) = nI 0 from cmp_self _) ?_
            refine k_ifn0 (tgt := 137) hx hb (by decide) dL_isPlayed_130 (by decide) (fun c13 => ?_) (fun c13 => ?_)
            ·
              exact absurd c13 (by decide)
            ·
              refine lv_iconst (v := (nI 1)) hx hb dL_isPlayed_133 (by decide) ?_
              refine lv_goto (tgt := 138) hx hb dL_isPlayed_134 (by decide) ?_
              have hP : va_P g.1 vwCl ((wU u (ah 0) (a0 0) (at9 0)) ++ ((wH g ah h) ++ ((wT g at9 (sg, (nI n))) ++ ((wK0 g a0 ak ((nI od), (nI sz))) ++ (wHs g ak (va_up hs ((od + sz) % 6) h) 6))))) _ := hP
              have hD : va_D A ((wU u (ah 0) (a0 0) (at9 0)) ++ ((wH g ah h) ++ ((wT g at9 (sg, (nI n))) ++ ((wK0 g a0 ak ((nI od), (nI sz))) ++ (wHs g ak (va_up hs ((od + sz) % 6) h) 6))))) := hD
              exact k_iret hx hb hr hlocks rfl (by subst ez1; first | (simp only [bI, if_pos c3, if_neg (not_not_intro c3), if_pos c5, if_neg (not_not_intro c5), if_pos c7, if_neg (not_not_intro c7), if_pos c10, if_neg (not_not_intro c10), if_neg c12, if_pos c12, if_pos c13, if_neg (not_not_intro c13)]; done) | (simp only [bI, if_pos c3, if_neg (not_not_intro c3), if_pos c5, if_neg (not_not_intro c5), if_pos c7, if_neg (not_not_intro c7), if_pos c10, if_neg (not_not_intro c10), if_neg c12, if_pos c12, if_pos c13, if_neg (not_not_intro c13)]; rfl) | rfl | (simp [bI, if_pos c3, if_neg (not_not_intro c3), if_pos c5, if_neg (not_not_intro c5), if_pos c7, if_neg (not_not_intro c7), if_pos c10, if_neg (not_not_intro c10), if_neg c12, if_pos c12, if_pos c13, if_neg (not_not_intro c13)]; done)) hP hD hS (Nat.le_of_ble_eq_true rfl) (Nat.le_of_ble_eq_true rfl) dL_isPlayed_138
