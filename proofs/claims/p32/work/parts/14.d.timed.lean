/-! the law's own methods -/
set_option maxHeartbeats 4000000 in
set_option maxRecDepth 100000 in
theorem c_L_isTimed (l : Launch) (g : kG) (u : Nat) (ah at9 a0 : Nat → Nat) (ak : Nat → Nat → Nat) (h : HSt) (sg : Nat → Int32) (n od sz : Nat) (hs : Nat → HSt) (hod : od < 6) (sz5 : sz ≤ 5) (hbo : Hbo h) (hbs : ∀ j, Hbo (hs j)) (hI : Inv h) (r9 c9 : Nat) (hr9 : r9 < 8) (hc9 : c9 < 6) : KI l yL_isTimed wsL_isTimed ({ frames := 4, cells := 0, slots := 0, locals := 123 }) g [.ref u, .int (nI r9), .int (nI c9)] ((wU u (ah 0) (a0 0) (at9 0)) ++ ((wH g ah h) ++ ((wT g at9 (sg, (nI n))) ++ ((wK0 g a0 ak ((nI od), (nI sz))) ++ (wHs g ak hs 6))))) (nI 1) ((wU u (ah 0) (a0 0) (at9 0)) ++ ((wH g ah h) ++ ((wT g at9 (sg, (nI n))) ++ ((wK0 g a0 ak ((nI od), (nI sz))) ++ (wHs g ak (va_up hs ((od + sz) % 6) h) 6))))) 0 0 := by
  refine k_begin (cc := cL_isTimed) (maxL := 7) (ret := (some .boolean)) (Qc := fun A => kQi g (nI 1) ((wU u (ah 0) (a0 0) (at9 0)) ++ ((wH g ah h) ++ ((wT g at9 (sg, (nI n))) ++ ((wK0 g a0 ak ((nI od), (nI sz))) ++ (wHs g ak (va_up hs ((od + sz) % 6) h) 6))))) A) (by decide) rfl (Nat.le_of_ble_eq_true rfl) ?_
  intro p e s m below meth c A ls hF hr hlocks hin hE hP hD hS hA hl
  obtain ⟨hx, hb, hml, hown, hts⟩ := id hF
  have hown : s.vm.findClass RL = some m.cls := hown
  have hl : lv_has ls 7 [(0, .ref u), (1, .int (nI r9)), (2, .int (nI c9))] := hl
  obtain ⟨qe, ⟨qa, qb⟩, q1, q0, qc, qs, qL, tk9⟩ := timed hI
  refine lv_aload_n hx hb dL_isTimed_0 rfl (lv_at hl 0 rfl) ?_
  refine k_Vi (As := []) (r := (HasksIn h)) hF (c_X3_minutesToQuestion l g u ah at9 a0 ak h sg n od sz hs) (cwV 0 hts gL_isTimed_X3_minutesToQuestion rfl rfl rfl (by decide +kernel) ⟨Nat.le_of_ble_eq_true rfl, Nat.le_of_ble_eq_true rfl⟩) hE hP hD hS hA (k_pall _) ((k_pall _).symm) 0 rfl rfl rfl rfl hl.1 rfl (Nat.le_of_ble_eq_true rfl) dL_isTimed_1 ⟨Nat.le_of_ble_eq_true rfl, Nat.le_of_ble_eq_true rfl⟩ (fun H locs hP hD hS => ?_)
  have hP : va_P g.1 vwCl ((wU u (ah 0) (a0 0) (at9 0)) ++ ((wH g ah h) ++ ((wT g at9 (sg, (nI n))) ++ ((wK0 g a0 ak ((nI od), (nI sz))) ++ (wHs g ak hs 6))))) _ := hP
  have hD : va_D A ((wU u (ah 0) (a0 0) (at9 0)) ++ ((wH g ah h) ++ ((wT g at9 (sg, (nI n))) ++ ((wK0 g a0 ak ((nI od), (nI sz))) ++ (wHs g ak hs 6))))) := hD
  refine k_top (show (HasksIn h) = (nI (qH h)) from qe) ?_
  refine lv_istore_n (lv' := [(3, .int (nI (qH h))), (0, .ref u), (1, .int (nI r9)), (2, .int (nI c9))]) hx hb dL_isTimed_4 rfl hl (by decide) rfl (fun ls hl => ?_)
  refine lv_aload_n hx hb dL_isTimed_5 rfl (lv_at hl 1 rfl) ?_
  refine lv_iconst (v := (nI 3)) hx hb dL_isTimed_6 (by decide) ?_
  refine k_Vi (As := [.int (nI 3)]) (r := ((hC h) 3)) hF (c_X3_count l g u ah at9 a0 ak h sg n od sz hs 3 (by decide)) (cwV 1 hts gL_isTimed_X3_count rfl rfl rfl (by decide +kernel) ⟨Nat.le_of_ble_eq_true rfl, Nat.le_of_ble_eq_true rfl⟩) hE hP hD hS hA (k_pall _) ((k_pall _).symm) 0 rfl rfl rfl rfl hl.1 rfl (Nat.le_of_ble_eq_true rfl) dL_isTimed_7 ⟨Nat.le_of_ble_eq_true rfl, Nat.le_of_ble_eq_true rfl⟩ (fun H locs hP hD hS => ?_)
  have hP : va_P g.1 vwCl ((wU u (ah 0) (a0 0) (at9 0)) ++ ((wH g ah h) ++ ((wT g at9 (sg, (nI n))) ++ ((wK0 g a0 ak ((nI od), (nI sz))) ++ (wHs g ak hs 6))))) _ := hP
  have hD : va_D A ((wU u (ah 0) (a0 0) (at9 0)) ++ ((wH g ah h) ++ ((wT g at9 (sg, (nI n))) ++ ((wK0 g a0 ak ((nI od), (nI sz))) ++ (wHs g ak hs 6))))) := hD
  refine lv_istore (lv' := [(4, .int ((hC h) 3)), (3, .int (nI (qH h))), (0, .ref u), (1, .int (nI r9)), (2, .int (nI c9))]) hx hb dL_isTimed_10 hl (by decide) rfl (fun ls hl => ?_)
  refine lv_aload_n hx hb dL_isTimed_12 rfl (lv_at hl 2 rfl) ?_
  refine lv_iload_n hx hb dL_isTimed_13 rfl (lv_at hl 3 rfl) ?_
  refine lv_iload_n hx hb dL_isTimed_14 rfl (lv_at hl 4 rfl) ?_
  refine k_Vi (As := [.int (nI r9), .int (nI c9)]) (r := ((hR h) (r9 * 6 + c9))) hF (c_X3_rest l g u ah at9 a0 ak h sg n od sz hs r9 c9 (by omega) (by omega)) (cwV 2 hts gL_isTimed_X3_rest rfl rfl rfl (by decide +kernel) ⟨Nat.le_of_ble_eq_true rfl, Nat.le_of_ble_eq_true rfl⟩) hE hP hD hS hA (k_pall _) ((k_pall _).symm) 0 rfl rfl rfl rfl hl.1 rfl (Nat.le_of_ble_eq_true rfl) dL_isTimed_15 ⟨Nat.le_of_ble_eq_true rfl, Nat.le_of_ble_eq_true rfl⟩ (fun H locs hP hD hS => ?_)
  have hP : va_P g.1 vwCl ((wU u (ah 0) (a0 0) (at9 0)) ++ ((wH g ah h) ++ ((wT g at9 (sg, (nI n))) ++ ((wK0 g a0 ak ((nI od), (nI sz))) ++ (wHs g ak hs 6))))) _ := hP
  have hD : va_D A ((wU u (ah 0) (a0 0) (at9 0)) ++ ((wH g ah h) ++ ((wT g at9 (sg, (nI n))) ++ ((wK0 g a0 ak ((nI od), (nI sz))) ++ (wHs g ak hs 6))))) := hD
  obtain ⟨R9, hR9, eR9, tW, tN⟩ := tk9 (r9 * 6 + c9) (by omega)
  refine k_top eR9 ?_
  refine lv_istore (lv' := [(5, .int (nI R9)), (4, .int ((hC h) 3)), (3, .int (nI (qH h))), (0, .ref u), (1, .int (nI r9)), (2, .int (nI c9))]) hx hb dL_isTimed_18 hl (by decide) rfl (fun ls hl => ?_)
  refine lv_aload_n hx hb dL_isTimed_20 rfl (lv_at hl 3 rfl) ?_
  refine lv_iload_n hx hb dL_isTimed_21 rfl (lv_at hl 2 rfl) ?_
  refine k_Vi (As := [.int (nI (qH h))]) (r := (nI (HpassQ h (qH h)))) hF (c_X3_pass l g u ah at9 a0 ak h sg n od sz hs (by omega) (by omega) hbo (qH h) (by omega) (by omega)) (cwV 1 hts gL_isTimed_X3_pass rfl rfl rfl (by decide +kernel) ⟨Nat.le_of_ble_eq_true rfl, Nat.le_of_ble_eq_true rfl⟩) hE hP hD hS hA (k_pall _) ((k_pall _).symm) 0 rfl rfl rfl rfl hl.1 rfl (Nat.le_of_ble_eq_true rfl) dL_isTimed_22 ⟨Nat.le_of_ble_eq_true rfl, Nat.le_of_ble_eq_true rfl⟩ (fun H locs hP hD hS => ?_)
  have hP : va_P g.1 vwCl ((wU u (ah 0) (a0 0) (at9 0)) ++ ((wH g ah (HpassN h (qH h))) ++ ((wT g at9 (sg, (nI n))) ++ ((wK0 g a0 ak ((nI od), (nI (sz + 1)))) ++ (wHs g ak (va_up hs ((od + sz) % 6) h) 6))))) _ := hP
  have hD : va_D A ((wU u (ah 0) (a0 0) (at9 0)) ++ ((wH g ah (HpassN h (qH h))) ++ ((wT g at9 (sg, (nI n))) ++ ((wK0 g a0 ak ((nI od), (nI (sz + 1)))) ++ (wHs g ak (va_up hs ((od + sz) % 6) h) 6))))) := hD
  obtain ⟨z1, ez1⟩ : ∃ x : HSt, (HpassN h (qH h)) = x := ⟨_, rfl⟩
  rw [ez1] at hP hD
  refine k_top (show (nI (HpassQ h (qH h))) = (nI 1) from congrArg nI q1) ?_
  refine lv_iconst (v := (nI 1)) hx hb dL_isTimed_25 (by decide) ?_
  refine k_neN (tgt := 52) hx hb (by decide) (by decide) dL_isTimed_26 (by decide) (fun c2 => ?_) (fun c2 => ?_)
  ·
    exact absurd c2 (by decide)
  ·
    refine lv_aload_n hx hb dL_isTimed_29 rfl (lv_at hl 3 rfl) ?_
    refine lv_iconst (v := (nI 3)) hx hb dL_isTimed_30 (by decide) ?_
    refine k_Vi (As := [.int (nI 3)]) (r := ((hC z1) 3)) hF (c_X3_count l g u ah at9 a0 ak z1 sg n od (sz + 1) (va_up hs ((od + sz) % 6) h) 3 (by decide)) (cwV 1 hts gL_isTimed_X3_count rfl rfl rfl (by decide +kernel) ⟨Nat.le_of_ble_eq_true rfl, Nat.le_of_ble_eq_true rfl⟩) hE hP hD hS hA (k_pall _) ((k_pall _).symm) 0 rfl rfl rfl rfl hl.1 rfl (Nat.le_of_ble_eq_true rfl) dL_isTimed_31 ⟨Nat.le_of_ble_eq_true rfl, Nat.le_of_ble_eq_true rfl⟩ (fun H locs hP hD hS => ?_)
    have hP : va_P g.1 vwCl ((wU u (ah 0) (a0 0) (at9 0)) ++ ((wH g ah z1) ++ ((wT g at9 (sg, (nI n))) ++ ((wK0 g a0 ak ((nI od), (nI (sz + 1)))) ++ (wHs g ak (va_up hs ((od + sz) % 6) h) 6))))) _ := hP
    have hD : va_D A ((wU u (ah 0) (a0 0) (at9 0)) ++ ((wH g ah z1) ++ ((wT g at9 (sg, (nI n))) ++ ((wK0 g a0 ak ((nI od), (nI (sz + 1)))) ++ (wHs g ak (va_up hs ((od + sz) % 6) h) 6))))) := hD
    refine lv_iload hx hb dL_isTimed_34 (lv_at hl 1 rfl) ?_
    refine lv_iconst (v := (nI 1)) hx hb dL_isTimed_36 (by decide) ?_
    refine lv_iadd hx hb dL_isTimed_37 ?_
    refine lv_icmp_ne (tgt := 52) hx hb dL_isTimed_38 (by decide) (fun c3 => ?_) (fun c3 => ?_)
    ·
      exact absurd (by rw [← ez1]; exact qc) c3
    ·
      refine lv_aload_n hx hb dL_isTimed_41 rfl (lv_at hl 3 rfl) ?_
      refine k_Vi (As := []) (r := (hsn z1)) hF (c_X3_sinceQuestion l g u ah at9 a0 ak z1 sg n od (sz + 1) (va_up hs ((od + sz) % 6) h)) (cwV 0 hts gL_isTimed_X3_sinceQuestion rfl rfl rfl (by decide +kernel) ⟨Nat.le_of_ble_eq_true rfl, Nat.le_of_ble_eq_true rfl⟩) hE hP hD hS hA (k_pall _) ((k_pall _).symm) 0 rfl rfl rfl rfl hl.1 rfl (Nat.le_of_ble_eq_true rfl) dL_isTimed_42 ⟨Nat.le_of_ble_eq_true rfl, Nat.le_of_ble_eq_true rfl⟩ (fun H locs hP hD hS => ?_)
      have hP : va_P g.1 vwCl ((wU u (ah 0) (a0 0) (at9 0)) ++ ((wH g ah z1) ++ ((wT g at9 (sg, (nI n))) ++ ((wK0 g a0 ak ((nI od), (nI (sz + 1)))) ++ (wHs g ak (va_up hs ((od + sz) % 6) h) 6))))) _ := hP
      have hD : va_D A ((wU u (ah 0) (a0 0) (at9 0)) ++ ((wH g ah z1) ++ ((wT g at9 (sg, (nI n))) ++ ((wK0 g a0 ak ((nI od), (nI (sz + 1)))) ++ (wHs g ak (va_up hs ((od + sz) % 6) h) 6))))) := hD
      refine lv_if_ne (tgt := 52) hx hb dL_isTimed_45 (by decide) (fun c4 => ?_) (fun c4 => ?_)
      ·
        exact absurd (by rw [← ez1]; exact qs) c4
      ·
        refine lv_iconst (v := (nI 1)) hx hb dL_isTimed_48 (by decide) ?_
        refine lv_goto (tgt := 53) hx hb dL_isTimed_49 (by decide) ?_
        refine lv_istore (lv' := [(6, .int (nI 1)), (5, .int (nI R9)), (4, .int ((hC h) 3)), (3, .int (nI (qH h))), (0, .ref u), (1, .int (nI r9)), (2, .int (nI c9))]) hx hb dL_isTimed_53 hl (by decide) rfl (fun ls hl => ?_)
        refine lv_iload hx hb dL_isTimed_55 (lv_at hl 0 rfl) ?_
        refine k_if0 (tgt := 109) hx hb (by decide) dL_isTimed_57 (by decide) (fun c5 => ?_) (fun c5 => ?_)
        ·
          exact absurd c5 (by decide)
        ·
          refine lv_aload_n hx hb dL_isTimed_60 rfl (lv_at hl 4 rfl) ?_
          refine lv_iload_n hx hb dL_isTimed_61 rfl (lv_at hl 5 rfl) ?_
          refine lv_iload_n hx hb dL_isTimed_62 rfl (lv_at hl 6 rfl) ?_
          refine k_Vi (As := [.int (nI r9), .int (nI c9)]) (r := ((hL z1) (r9 * 6 + c9))) hF (c_X3_listeners l g u ah at9 a0 ak z1 sg n od (sz + 1) (va_up hs ((od + sz) % 6) h) r9 c9 (by omega) (by omega)) (cwV 2 hts gL_isTimed_X3_listeners rfl rfl rfl (by decide +kernel) ⟨Nat.le_of_ble_eq_true rfl, Nat.le_of_ble_eq_true rfl⟩) hE hP hD hS hA (k_pall _) ((k_pall _).symm) 0 rfl rfl rfl rfl hl.1 rfl (Nat.le_of_ble_eq_true rfl) dL_isTimed_63 ⟨Nat.le_of_ble_eq_true rfl, Nat.le_of_ble_eq_true rfl⟩ (fun H locs hP hD hS => ?_)
          have hP : va_P g.1 vwCl ((wU u (ah 0) (a0 0) (at9 0)) ++ ((wH g ah z1) ++ ((wT g at9 (sg, (nI n))) ++ ((wK0 g a0 ak ((nI od), (nI (sz + 1)))) ++ (wHs g ak (va_up hs ((od + sz) % 6) h) 6))))) _ := hP
          have hD : va_D A ((wU u (ah 0) (a0 0) (at9 0)) ++ ((wH g ah z1) ++ ((wT g at9 (sg, (nI n))) ++ ((wK0 g a0 ak ((nI od), (nI (sz + 1)))) ++ (wHs g ak (va_up hs ((od + sz) % 6) h) 6))))) := hD
          refine lv_if_le (tgt := 82) hx hb dL_isTimed_66 (by decide) (fun c6 => ?_) (fun c6 => ?_)
          ·
            refine lv_aload_n hx hb dL_isTimed_82 rfl (lv_at hl 4 rfl) ?_
            refine lv_iload_n hx hb dL_isTimed_83 rfl (lv_at hl 5 rfl) ?_
            refine lv_iload_n hx hb dL_isTimed_84 rfl (lv_at hl 6 rfl) ?_
            refine k_Vi (As := [.int (nI r9), .int (nI c9)]) (r := ((hR z1) (r9 * 6 + c9))) hF (c_X3_rest l g u ah at9 a0 ak z1 sg n od (sz + 1) (va_up hs ((od + sz) % 6) h) r9 c9 (by omega) (by omega)) (cwV 2 hts gL_isTimed_X3_rest rfl rfl rfl (by decide +kernel) ⟨Nat.le_of_ble_eq_true rfl, Nat.le_of_ble_eq_true rfl⟩) hE hP hD hS hA (k_pall _) ((k_pall _).symm) 0 rfl rfl rfl rfl hl.1 rfl (Nat.le_of_ble_eq_true rfl) dL_isTimed_85 ⟨Nat.le_of_ble_eq_true rfl, Nat.le_of_ble_eq_true rfl⟩ (fun H locs hP hD hS => ?_)
            have hP : va_P g.1 vwCl ((wU u (ah 0) (a0 0) (at9 0)) ++ ((wH g ah z1) ++ ((wT g at9 (sg, (nI n))) ++ ((wK0 g a0 ak ((nI od), (nI (sz + 1)))) ++ (wHs g ak (va_up hs ((od + sz) % 6) h) 6))))) _ := hP
            have hD : va_D A ((wU u (ah 0) (a0 0) (at9 0)) ++ ((wH g ah z1) ++ ((wT g at9 (sg, (nI n))) ++ ((wK0 g a0 ak ((nI od), (nI (sz + 1)))) ++ (wHs g ak (va_up hs ((od + sz) % 6) h) 6))))) := hD
            refine lv_iload hx hb dL_isTimed_88 (lv_at hl 1 rfl) ?_
            refine lv_iload_n hx hb dL_isTimed_90 rfl (lv_at hl 3 rfl) ?_
            refine k_leN (tgt := 101) hx hb (by omega) (by omega) dL_isTimed_91 (by decide) (fun c7 => ?_) (fun c7 => ?_)
            ·
              refine lv_iconst (v := (nI 0)) hx hb dL_isTimed_101 (by decide) ?_
              refine lv_icmp_ne (tgt := 109) hx hb dL_isTimed_102 (by decide) (fun c8 => ?_) (fun c8 => ?_)
              ·
                exact absurd (by have z9 := c6; rw [← ez1, qL] at z9; rw [← ez1]; exact (tN z9).trans (congrArg nI (by omega))) c8
              ·
                refine lv_iconst (v := (nI 1)) hx hb dL_isTimed_105 (by decide) ?_
                refine lv_goto (tgt := 110) hx hb dL_isTimed_106 (by decide) ?_
                refine lv_istore (lv' := [(6, .int (nI 1)), (5, .int (nI R9)), (4, .int ((hC h) 3)), (3, .int (nI (qH h))), (0, .ref u), (1, .int (nI r9)), (2, .int (nI c9))]) hx hb dL_isTimed_110 hl (by decide) rfl (fun ls hl => ?_)
                refine lv_aload_n hx hb dL_isTimed_112 rfl (lv_at hl 4 rfl) ?_
                refine k_Vi (As := []) (r := (nI sz)) hF (c_X3_undo l g u ah at9 a0 ak z1 sg n od sz (va_up hs ((od + sz) % 6) h) (by omega) (by omega) (k_bs hbs hbo)) (cwV 0 hts gL_isTimed_X3_undo rfl rfl rfl (by decide +kernel) ⟨Nat.le_of_ble_eq_true rfl, Nat.le_of_ble_eq_true rfl⟩) hE hP hD hS hA (k_pall _) ((k_pall _).symm) 0 rfl rfl rfl rfl hl.1 rfl (Nat.le_of_ble_eq_true rfl) dL_isTimed_113 ⟨Nat.le_of_ble_eq_true rfl, Nat.le_of_ble_eq_true rfl⟩ (fun H locs hP hD hS => ?_)
                have hP : va_P g.1 vwCl ((wU u (ah 0) (a0 0) (at9 0)) ++ ((wH g ah ((va_up hs ((od + sz) % 6) h) ((od + sz) % 6))) ++ ((wT g at9 (sg, (nI n))) ++ ((wK0 g a0 ak ((nI od), (nI sz))) ++ (wHs g ak (va_up hs ((od + sz) % 6) h) 6))))) _ := hP
                have hD : va_D A ((wU u (ah 0) (a0 0) (at9 0)) ++ ((wH g ah ((va_up hs ((od + sz) % 6) h) ((od + sz) % 6))) ++ ((wT g at9 (sg, (nI n))) ++ ((wK0 g a0 ak ((nI od), (nI sz))) ++ (wHs g ak (va_up hs ((od + sz) % 6) h) 6))))) := hD
                obtain ⟨z10, ez10⟩ : ∃ x : HSt, ((va_up hs ((od + sz) % 6) h) ((od + sz) % 6)) = x := ⟨_, rfl⟩
                rw [ez10] at hP hD
                have ez109 : z10 = h := by rw [← ez10]; exact va_same
                rw [ez109] at hP hD
                refine lv_pop hx hb dL_isTimed_116 rfl ?_
                refine lv_iload_n hx hb dL_isTimed_117 rfl (lv_at hl 3 rfl) ?_
                refine lv_iconst (v := (nI 1)) hx hb dL_isTimed_118 (by decide) ?_
                refine k_leN (tgt := 149) hx hb (by omega) (by decide) dL_isTimed_119 (by decide) (fun c11 => ?_) (fun c11 => ?_)
                ·
                  refine lv_iload hx hb dL_isTimed_149 (lv_at hl 0 rfl) ?_
                  have hP : va_P g.1 vwCl ((wU u (ah 0) (a0 0) (at9 0)) ++ ((wH g ah h) ++ ((wT g at9 (sg, (nI n))) ++ ((wK0 g a0 ak ((nI od), (nI sz))) ++ (wHs g ak (va_up hs ((od + sz) % 6) h) 6))))) _ := hP
                  have hD : va_D A ((wU u (ah 0) (a0 0) (at9 0)) ++ ((wH g ah h) ++ ((wT g at9 (sg, (nI n))) ++ ((wK0 g a0 ak ((nI od), (nI sz))) ++ (wHs g ak (va_up hs ((od + sz) % 6) h) 6))))) := hD
                  exact k_iret hx hb hr hlocks rfl (by subst ez1; first | (simp only [bI, if_pos c2, if_neg (not_not_intro c2), if_pos c3, if_neg (not_not_intro c3), if_pos c4, if_neg (not_not_intro c4), if_neg c5, if_pos c5, if_pos c6, if_neg (not_not_intro c6), if_pos c7, if_neg (not_not_intro c7), if_pos c8, if_neg (not_not_intro c8), if_pos c11, if_neg (not_not_intro c11)]; done) | (simp only [bI, if_pos c2, if_neg (not_not_intro c2), if_pos c3, if_neg (not_not_intro c3), if_pos c4, if_neg (not_not_intro c4), if_neg c5, if_pos c5, if_pos c6, if_neg (not_not_intro c6), if_pos c7, if_neg (not_not_intro c7), if_pos c8, if_neg (not_not_intro c8), if_pos c11, if_neg (not_not_intro c11)]; rfl) | rfl | (simp [bI, if_pos c2, if_neg (not_not_intro c2), if_pos c3, if_neg (not_not_intro c3), if_pos c4, if_neg (not_not_intro c4), if_neg c5, if_pos c5, if_pos c6, if_neg (not_not_intro c6), if_pos c7, if_neg (not_not_intro c7), if_pos c8, if_neg (not_not_intro c8), if_pos c11, if_neg (not_not_intro c11)]; done)) hP hD hS (Nat.le_of_ble_eq_true rfl) (Nat.le_of_ble_eq_true rfl) dL_isTimed_151
                ·
                  refine lv_iload hx hb dL_isTimed_122 (lv_at hl 0 rfl) ?_
                  refine k_if0 (tgt := 141) hx hb (by decide) dL_isTimed_124 (by decide) (fun c12 => ?_) (fun c12 => ?_)
                  ·
                    exact absurd c12 (by decide)
                  ·
                    refine lv_aload_n hx hb dL_isTimed_127 rfl (lv_at hl 4 rfl) ?_
                    refine lv_iload_n hx hb dL_isTimed_128 rfl (lv_at hl 3 rfl) ?_
                    refine lv_iconst (v := (nI 1)) hx hb dL_isTimed_129 (by decide) ?_
                    refine lv_isub hx hb dL_isTimed_130 ?_
                    refine k_top (show ((nI (qH h)) - (nI 1)) = (nI (qH h - 1)) from pk_sub (by omega)) ?_
                    refine k_Vi (As := [.int (nI (qH h - 1))]) (r := (nI (HpassQ h (qH h - 1)))) hF (c_X3_pass l g u ah at9 a0 ak h sg n od sz (va_up hs ((od + sz) % 6) h) (by omega) (by omega) hbo (qH h - 1) (by omega) (by omega)) (cwV 1 hts gL_isTimed_X3_pass rfl rfl rfl (by decide +kernel) ⟨Nat.le_of_ble_eq_true rfl, Nat.le_of_ble_eq_true rfl⟩) hE hP hD hS hA (k_pall _) ((k_pall _).symm) 0 rfl rfl rfl rfl hl.1 rfl (Nat.le_of_ble_eq_true rfl) dL_isTimed_131 ⟨Nat.le_of_ble_eq_true rfl, Nat.le_of_ble_eq_true rfl⟩ (fun H locs hP hD hS => ?_)
                    have hP : va_P g.1 vwCl ((wU u (ah 0) (a0 0) (at9 0)) ++ ((wH g ah (HpassN h (qH h - 1))) ++ ((wT g at9 (sg, (nI n))) ++ ((wK0 g a0 ak ((nI od), (nI (sz + 1)))) ++ (wHs g ak (va_up (va_up hs ((od + sz) % 6) h) ((od + sz) % 6) h) 6))))) _ := hP
                    have hD : va_D A ((wU u (ah 0) (a0 0) (at9 0)) ++ ((wH g ah (HpassN h (qH h - 1))) ++ ((wT g at9 (sg, (nI n))) ++ ((wK0 g a0 ak ((nI od), (nI (sz + 1)))) ++ (wHs g ak (va_up (va_up hs ((od + sz) % 6) h) ((od + sz) % 6) h) 6))))) := hD
                    obtain ⟨z13, ez13⟩ : ∃ x : HSt, (HpassN h (qH h - 1)) = x := ⟨_, rfl⟩
                    rw [ez13] at hP hD
                    refine k_top (show (nI (HpassQ h (qH h - 1))) = (nI 0) from congrArg nI q0) ?_
                    refine k_ifn0 (tgt := 141) hx hb (by decide) dL_isTimed_134 (by decide) (fun c14 => ?_) (fun c14 => ?_)
                    ·
                      exact absurd c14 (by decide)
                    ·
                      refine lv_iconst (v := (nI 1)) hx hb dL_isTimed_137 (by decide) ?_
                      refine lv_goto (tgt := 142) hx hb dL_isTimed_138 (by decide) ?_
                      refine lv_istore (lv' := [(6, .int (nI 1)), (5, .int (nI R9)), (4, .int ((hC h) 3)), (3, .int (nI (qH h))), (0, .ref u), (1, .int (nI r9)), (2, .int (nI c9))]) hx hb dL_isTimed_142 hl (by decide) rfl (fun ls hl => ?_)
                      refine lv_aload_n hx hb dL_isTimed_144 rfl (lv_at hl 4 rfl) ?_
                      refine k_Vi (As := []) (r := (nI sz)) hF (c_X3_undo l g u ah at9 a0 ak z13 sg n od sz (va_up (va_up hs ((od + sz) % 6) h) ((od + sz) % 6) h) (by omega) (by omega) (k_bs (k_bs hbs hbo) hbo)) (cwV 0 hts gL_isTimed_X3_undo rfl rfl rfl (by decide +kernel) ⟨Nat.le_of_ble_eq_true rfl, Nat.le_of_ble_eq_true rfl⟩) hE hP hD hS hA (k_pall _) ((k_pall _).symm) 0 rfl rfl rfl rfl hl.1 rfl (Nat.le_of_ble_eq_true rfl) dL_isTimed_145 ⟨Nat.le_of_ble_eq_true rfl, Nat.le_of_ble_eq_true rfl⟩ (fun H locs hP hD hS => ?_)
                      have hP : va_P g.1 vwCl ((wU u (ah 0) (a0 0) (at9 0)) ++ ((wH g ah ((va_up (va_up hs ((od + sz) % 6) h) ((od + sz) % 6) h) ((od + sz) % 6))) ++ ((wT g at9 (sg, (nI n))) ++ ((wK0 g a0 ak ((nI od), (nI sz))) ++ (wHs g ak (va_up (va_up hs ((od + sz) % 6) h) ((od + sz) % 6) h) 6))))) _ := hP
                      have hD : va_D A ((wU u (ah 0) (a0 0) (at9 0)) ++ ((wH g ah ((va_up (va_up hs ((od + sz) % 6) h) ((od + sz) % 6) h) ((od + sz) % 6))) ++ ((wT g at9 (sg, (nI n))) ++ ((wK0 g a0 ak ((nI od), (nI sz))) ++ (wHs g ak (va_up (va_up hs ((od + sz) % 6) h) ((od + sz) % 6) h) 6))))) := hD
                      obtain ⟨z15, ez15⟩ : ∃ x : HSt, ((va_up (va_up hs ((od + sz) % 6) h) ((od + sz) % 6) h) ((od + sz) % 6)) = x := ⟨_, rfl⟩
                      rw [ez15] at hP hD
                      have ez159 : z15 = h := by rw [← ez15]; exact va_same
                      rw [ez159] at hP hD
                      rw [va_twice] at hP hD
                      refine lv_pop hx hb dL_isTimed_148 rfl ?_
                      refine lv_iload hx hb dL_isTimed_149 (lv_at hl 0 rfl) ?_
                      have hP : va_P g.1 vwCl ((wU u (ah 0) (a0 0) (at9 0)) ++ ((wH g ah h) ++ ((wT g at9 (sg, (nI n))) ++ ((wK0 g a0 ak ((nI od), (nI sz))) ++ (wHs g ak (va_up hs ((od + sz) % 6) h) 6))))) _ := hP
                      have hD : va_D A ((wU u (ah 0) (a0 0) (at9 0)) ++ ((wH g ah h) ++ ((wT g at9 (sg, (nI n))) ++ ((wK0 g a0 ak ((nI od), (nI sz))) ++ (wHs g ak (va_up hs ((od + sz) % 6) h) 6))))) := hD
                      exact k_iret hx hb hr hlocks rfl (by subst ez13; subst ez1; first | (simp only [bI, if_pos c2, if_neg (not_not_intro c2), if_pos c3, if_neg (not_not_intro c3), if_pos c4, if_neg (not_not_intro c4), if_neg c5, if_pos c5, if_pos c6, if_neg (not_not_intro c6), if_pos c7, if_neg (not_not_intro c7), if_pos c8, if_neg (not_not_intro c8), if_neg (Nat.not_le.mpr c11), if_pos (Nat.not_le.mpr c11), if_neg c12, if_pos c12, if_pos c14, if_neg (not_not_intro c14)]; done) | (simp only [bI, if_pos c2, if_neg (not_not_intro c2), if_pos c3, if_neg (not_not_intro c3), if_pos c4, if_neg (not_not_intro c4), if_neg c5, if_pos c5, if_pos c6, if_neg (not_not_intro c6), if_pos c7, if_neg (not_not_intro c7), if_pos c8, if_neg (not_not_intro c8), if_neg (Nat.not_le.mpr c11), if_pos (Nat.not_le.mpr c11), if_neg c12, if_pos c12, if_pos c14, if_neg (not_not_intro c14)]; rfl) | rfl | (simp [bI, if_pos c2, if_neg (not_not_intro c2), if_pos c3, if_neg (not_not_intro c3), if_pos c4, if_neg (not_not_intro c4), if_neg c5, if_pos c5, if_pos c6, if_neg (not_not_intro c6), if_pos c7, if_neg (not_not_intro c7), if_pos c8, if_neg (not_not_intro c8), if_neg (Nat.not_le.mpr c11), if_pos (Nat.not_le.mpr c11), if_neg c12, if_pos c12, if_pos c14, if_neg (not_not_intro c14)]; done)) hP hD hS (Nat.le_of_ble_eq_true rfl) (Nat.le_of_ble_eq_true rfl) dL_isTimed_151
            ·
              refine lv_iload hx hb dL_isTimed_94 (lv_at hl 1 rfl) ?_
              refine lv_iload_n hx hb dL_isTimed_96 rfl (lv_at hl 3 rfl) ?_
              refine lv_isub hx hb dL_isTimed_97 ?_
              refine k_top (show ((nI R9) - (nI (qH h))) = (nI (R9 - qH h)) from pk_sub (by omega)) ?_
              refine lv_goto (tgt := 102) hx hb dL_isTimed_98 (by decide) ?_
              refine lv_icmp_ne (tgt := 109) hx hb dL_isTimed_102 (by decide) (fun c16 => ?_) (fun c16 => ?_)
              ·
                exact absurd (by have z9 := c6; rw [← ez1, qL] at z9; rw [← ez1]; exact (tN z9).trans (congrArg nI (by omega))) c16
              ·
                refine lv_iconst (v := (nI 1)) hx hb dL_isTimed_105 (by decide) ?_
                refine lv_goto (tgt := 110) hx hb dL_isTimed_106 (by decide) ?_
                refine lv_istore (lv' := [(6, .int (nI 1)), (5, .int (nI R9)), (4, .int ((hC h) 3)), (3, .int (nI (qH h))), (0, .ref u), (1, .int (nI r9)), (2, .int (nI c9))]) hx hb dL_isTimed_110 hl (by decide) rfl (fun ls hl => ?_)
                refine lv_aload_n hx hb dL_isTimed_112 rfl (lv_at hl 4 rfl) ?_
                refine k_Vi (As := []) (r := (nI sz)) hF (c_X3_undo l g u ah at9 a0 ak z1 sg n od sz (va_up hs ((od + sz) % 6) h) (by omega) (by omega) (k_bs hbs hbo)) (cwV 0 hts gL_isTimed_X3_undo rfl rfl rfl (by decide +kernel) ⟨Nat.le_of_ble_eq_true rfl, Nat.le_of_ble_eq_true rfl⟩) hE hP hD hS hA (k_pall _) ((k_pall _).symm) 0 rfl rfl rfl rfl hl.1 rfl (Nat.le_of_ble_eq_true rfl) dL_isTimed_113 ⟨Nat.le_of_ble_eq_true rfl, Nat.le_of_ble_eq_true rfl⟩ (fun H locs hP hD hS => ?_)
                have hP : va_P g.1 vwCl ((wU u (ah 0) (a0 0) (at9 0)) ++ ((wH g ah ((va_up hs ((od + sz) % 6) h) ((od + sz) % 6))) ++ ((wT g at9 (sg, (nI n))) ++ ((wK0 g a0 ak ((nI od), (nI sz))) ++ (wHs g ak (va_up hs ((od + sz) % 6) h) 6))))) _ := hP
                have hD : va_D A ((wU u (ah 0) (a0 0) (at9 0)) ++ ((wH g ah ((va_up hs ((od + sz) % 6) h) ((od + sz) % 6))) ++ ((wT g at9 (sg, (nI n))) ++ ((wK0 g a0 ak ((nI od), (nI sz))) ++ (wHs g ak (va_up hs ((od + sz) % 6) h) 6))))) := hD
                obtain ⟨z17, ez17⟩ : ∃ x : HSt, ((va_up hs ((od + sz) % 6) h) ((od + sz) % 6)) = x := ⟨_, rfl⟩
                rw [ez17] at hP hD
                have ez179 : z17 = h := by rw [← ez17]; exact va_same
                rw [ez179] at hP hD
                refine lv_pop hx hb dL_isTimed_116 rfl ?_
                refine lv_iload_n hx hb dL_isTimed_117 rfl (lv_at hl 3 rfl) ?_
                refine lv_iconst (v := (nI 1)) hx hb dL_isTimed_118 (by decide) ?_
                refine k_leN (tgt := 149) hx hb (by omega) (by decide) dL_isTimed_119 (by decide) (fun c18 => ?_) (fun c18 => ?_)
                ·
                  refine lv_iload hx hb dL_isTimed_149 (lv_at hl 0 rfl) ?_
                  have hP : va_P g.1 vwCl ((wU u (ah 0) (a0 0) (at9 0)) ++ ((wH g ah h) ++ ((wT g at9 (sg, (nI n))) ++ ((wK0 g a0 ak ((nI od), (nI sz))) ++ (wHs g ak (va_up hs ((od + sz) % 6) h) 6))))) _ := hP
                  have hD : va_D A ((wU u (ah 0) (a0 0) (at9 0)) ++ ((wH g ah h) ++ ((wT g at9 (sg, (nI n))) ++ ((wK0 g a0 ak ((nI od), (nI sz))) ++ (wHs g ak (va_up hs ((od + sz) % 6) h) 6))))) := hD
                  exact k_iret hx hb hr hlocks rfl (by subst ez1; first | (simp only [bI, if_pos c2, if_neg (not_not_intro c2), if_pos c3, if_neg (not_not_intro c3), if_pos c4, if_neg (not_not_intro c4), if_neg c5, if_pos c5, if_pos c6, if_neg (not_not_intro c6), if_neg (Nat.not_le.mpr c7), if_pos (Nat.not_le.mpr c7), if_pos c16, if_neg (not_not_intro c16), if_pos c18, if_neg (not_not_intro c18)]; done) | (simp only [bI, if_pos c2, if_neg (not_not_intro c2), if_pos c3, if_neg (not_not_intro c3), if_pos c4, if_neg (not_not_intro c4), if_neg c5, if_pos c5, if_pos c6, if_neg (not_not_intro c6), if_neg (Nat.not_le.mpr c7), if_pos (Nat.not_le.mpr c7), if_pos c16, if_neg (not_not_intro c16), if_pos c18, if_neg (not_not_intro c18)]; rfl) | rfl | (simp [bI, if_pos c2, if_neg (not_not_intro c2), if_pos c3, if_neg (not_not_intro c3), if_pos c4, if_neg (not_not_intro c4), if_neg c5, if_pos c5, if_pos c6, if_neg (not_not_intro c6), if_neg (Nat.not_le.mpr c7), if_pos (Nat.not_le.mpr c7), if_pos c16, if_neg (not_not_intro c16), if_pos c18, if_neg (not_not_intro c18)]; done)) hP hD hS (Nat.le_of_ble_eq_true rfl) (Nat.le_of_ble_eq_true rfl) dL_isTimed_151
                ·
                  refine lv_iload hx hb dL_isTimed_122 (lv_at hl 0 rfl) ?_
                  refine k_if0 (tgt := 141) hx hb (by decide) dL_isTimed_124 (by decide) (fun c19 => ?_) (fun c19 => ?_)
                  ·
                    exact absurd c19 (by decide)
                  ·
                    refine lv_aload_n hx hb dL_isTimed_127 rfl (lv_at hl 4 rfl) ?_
                    refine lv_iload_n hx hb dL_isTimed_128 rfl (lv_at hl 3 rfl) ?_
                    refine lv_iconst (v := (nI 1)) hx hb dL_isTimed_129 (by decide) ?_
                    refine lv_isub hx hb dL_isTimed_130 ?_
                    refine k_top (show ((nI (qH h)) - (nI 1)) = (nI (qH h - 1)) from pk_sub (by omega)) ?_
                    refine k_Vi (As := [.int (nI (qH h - 1))]) (r := (nI (HpassQ h (qH h - 1)))) hF (c_X3_pass l g u ah at9 a0 ak h sg n od sz (va_up hs ((od + sz) % 6) h) (by omega) (by omega) hbo (qH h - 1) (by omega) (by omega)) (cwV 1 hts gL_isTimed_X3_pass rfl rfl rfl (by decide +kernel) ⟨Nat.le_of_ble_eq_true rfl, Nat.le_of_ble_eq_true rfl⟩) hE hP hD hS hA (k_pall _) ((k_pall _).symm) 0 rfl rfl rfl rfl hl.1 rfl (Nat.le_of_ble_eq_true rfl) dL_isTimed_131 ⟨Nat.le_of_ble_eq_true rfl, Nat.le_of_ble_eq_true rfl⟩ (fun H locs hP hD hS => ?_)
                    have hP : va_P g.1 vwCl ((wU u (ah 0) (a0 0) (at9 0)) ++ ((wH g ah (HpassN h (qH h - 1))) ++ ((wT g at9 (sg, (nI n))) ++ ((wK0 g a0 ak ((nI od), (nI (sz + 1)))) ++ (wHs g ak (va_up (va_up hs ((od + sz) % 6) h) ((od + sz) % 6) h) 6))))) _ := hP
                    have hD : va_D A ((wU u (ah 0) (a0 0) (at9 0)) ++ ((wH g ah (HpassN h (qH h - 1))) ++ ((wT g at9 (sg, (nI n))) ++ ((wK0 g a0 ak ((nI od), (nI (sz + 1)))) ++ (wHs g ak (va_up (va_up hs ((od + sz) % 6) h) ((od + sz) % 6) h) 6))))) := hD
                    obtain ⟨z20, ez20⟩ : ∃ x : HSt, (HpassN h (qH h - 1)) = x := ⟨_, rfl⟩
                    rw [ez20] at hP hD
                    refine k_top (show (nI (HpassQ h (qH h - 1))) = (nI 0) from congrArg nI q0) ?_
                    refine k_ifn0 (tgt := 141) hx hb (by decide) dL_isTimed_134 (by decide) (fun c21 => ?_) (fun c21 => ?_)
                    ·
                      exact absurd c21 (by decide)
                    ·
                      refine lv_iconst (v := (nI 1)) hx hb dL_isTimed_137 (by decide) ?_
                      refine lv_goto (tgt := 142) hx hb dL_isTimed_138 (by decide) ?_
                      refine lv_istore (lv' := [(6, .int (nI 1)), (5, .int (nI R9)), (4, .int ((hC h) 3)), (3, .int (nI (qH h))), (0, .ref u), (1, .int (nI r9)), (2, .int (nI c9))]) hx hb dL_isTimed_142 hl (by decide) rfl (fun ls hl => ?_)
                      refine lv_aload_n hx hb dL_isTimed_144 rfl (lv_at hl 4 rfl) ?_
                      refine k_Vi (As := []) (r := (nI sz)) hF (c_X3_undo l g u ah at9 a0 ak z20 sg n od sz (va_up (va_up hs ((od + sz) % 6) h) ((od + sz) % 6) h) (by omega) (by omega) (k_bs (k_bs hbs hbo) hbo)) (cwV 0 hts gL_isTimed_X3_undo rfl rfl rfl (by decide +kernel) ⟨Nat.le_of_ble_eq_true rfl, Nat.le_of_ble_eq_true rfl⟩) hE hP hD hS hA (k_pall _) ((k_pall _).symm) 0 rfl rfl rfl rfl hl.1 rfl (Nat.le_of_ble_eq_true rfl) dL_isTimed_145 ⟨Nat.le_of_ble_eq_true rfl, Nat.le_of_ble_eq_true rfl⟩ (fun H locs hP hD hS => ?_)
                      have hP : va_P g.1 vwCl ((wU u (ah 0) (a0 0) (at9 0)) ++ ((wH g ah ((va_up (va_up hs ((od + sz) % 6) h) ((od + sz) % 6) h) ((od + sz) % 6))) ++ ((wT g at9 (sg, (nI n))) ++ ((wK0 g a0 ak ((nI od), (nI sz))) ++ (wHs g ak (va_up (va_up hs ((od + sz) % 6) h) ((od + sz) % 6) h) 6))))) _ := hP
                      have hD : va_D A ((wU u (ah 0) (a0 0) (at9 0)) ++ ((wH g ah ((va_up (va_up hs ((od + sz) % 6) h) ((od + sz) % 6) h) ((od + sz) % 6))) ++ ((wT g at9 (sg, (nI n))) ++ ((wK0 g a0 ak ((nI od), (nI sz))) ++ (wHs g ak (va_up (va_up hs ((od + sz) % 6) h) ((od + sz) % 6) h) 6))))) := hD
                      obtain ⟨z22, ez22⟩ : ∃ x : HSt, ((va_up (va_up hs ((od + sz) % 6) h) ((od + sz) % 6) h) ((od + sz) % 6)) = x := ⟨_, rfl⟩
                      rw [ez22] at hP hD
                      have ez229 : z22 = h := by rw [← ez22]; exact va_same
                      rw [ez229] at hP hD
                      rw [va_twice] at hP hD
                      refine lv_pop hx hb dL_isTimed_148 rfl ?_
                      refine lv_iload hx hb dL_isTimed_149 (lv_at hl 0 rfl) ?_
                      have hP : va_P g.1 vwCl ((wU u (ah 0) (a0 0) (at9 0)) ++ ((wH g ah h) ++ ((wT g at9 (sg, (nI n))) ++ ((wK0 g a0 ak ((nI od), (nI sz))) ++ (wHs g ak (va_up hs ((od + sz) % 6) h) 6))))) _ := hP
                      have hD : va_D A ((wU u (ah 0) (a0 0) (at9 0)) ++ ((wH g ah h) ++ ((wT g at9 (sg, (nI n))) ++ ((wK0 g a0 ak ((nI od), (nI sz))) ++ (wHs g ak (va_up hs ((od + sz) % 6) h) 6))))) := hD
                      exact k_iret hx hb hr hlocks rfl (by subst ez20; subst ez1; first | (simp only [bI, if_pos c2, if_neg (not_not_intro c2), if_pos c3, if_neg (not_not_intro c3), if_pos c4, if_neg (not_not_intro c4), if_neg c5, if_pos c5, if_pos c6, if_neg (not_not_intro c6), if_neg (Nat.not_le.mpr c7), if_pos (Nat.not_le.mpr c7), if_pos c16, if_neg (not_not_intro c16), if_neg (Nat.not_le.mpr c18), if_pos (Nat.not_le.mpr c18), if_neg c19, if_pos c19, if_pos c21, if_neg (not_not_intro c21)]; done) | (simp only [bI, if_pos c2, if_neg (not_not_intro c2), if_pos c3, if_neg (not_not_intro c3), if_pos c4, if_neg (not_not_intro c4), if_neg c5, if_pos c5, if_pos c6, if_neg (not_not_intro c6), if_neg (Nat.not_le.mpr c7), if_pos (Nat.not_le.mpr c7), if_pos c16, if_neg (not_not_intro c16), if_neg (Nat.not_le.mpr c18), if_pos (Nat.not_le.mpr c18), if_neg c19, if_pos c19, if_pos c21, if_neg (not_not_intro c21)]; rfl) | rfl | (simp [bI, if_pos c2, if_neg (not_not_intro c2), if_pos c3, if_neg (not_not_intro c3), if_pos c4, if_neg (not_not_intro c4), if_neg c5, if_pos c5, if_pos c6, if_neg (not_not_intro c6), if_neg (Nat.not_le.mpr c7), if_pos (Nat.not_le.mpr c7), if_pos c16, if_neg (not_not_intro c16), if_neg (Nat.not_le.mpr c18), if_pos (Nat.not_le.mpr c18), if_neg c19, if_pos c19, if_pos c21, if_neg (not_not_intro c21)]; done)) hP hD hS (Nat.le_of_ble_eq_true rfl) (Nat.le_of_ble_eq_true rfl) dL_isTimed_151
          ·
            refine lv_aload_n hx hb dL_isTimed_69 rfl (lv_at hl 4 rfl) ?_
            refine lv_iload_n hx hb dL_isTimed_70 rfl (lv_at hl 5 rfl) ?_
            refine lv_iload_n hx hb dL_isTimed_71 rfl (lv_at hl 6 rfl) ?_
            refine k_Vi (As := [.int (nI r9), .int (nI c9)]) (r := ((hR z1) (r9 * 6 + c9))) hF (c_X3_rest l g u ah at9 a0 ak z1 sg n od (sz + 1) (va_up hs ((od + sz) % 6) h) r9 c9 (by omega) (by omega)) (cwV 2 hts gL_isTimed_X3_rest rfl rfl rfl (by decide +kernel) ⟨Nat.le_of_ble_eq_true rfl, Nat.le_of_ble_eq_true rfl⟩) hE hP hD hS hA (k_pall _) ((k_pall _).symm) 0 rfl rfl rfl rfl hl.1 rfl (Nat.le_of_ble_eq_true rfl) dL_isTimed_72 ⟨Nat.le_of_ble_eq_true rfl, Nat.le_of_ble_eq_true rfl⟩ (fun H locs hP hD hS => ?_)
            have hP : va_P g.1 vwCl ((wU u (ah 0) (a0 0) (at9 0)) ++ ((wH g ah z1) ++ ((wT g at9 (sg, (nI n))) ++ ((wK0 g a0 ak ((nI od), (nI (sz + 1)))) ++ (wHs g ak (va_up hs ((od + sz) % 6) h) 6))))) _ := hP
            have hD : va_D A ((wU u (ah 0) (a0 0) (at9 0)) ++ ((wH g ah z1) ++ ((wT g at9 (sg, (nI n))) ++ ((wK0 g a0 ak ((nI od), (nI (sz + 1)))) ++ (wHs g ak (va_up hs ((od + sz) % 6) h) 6))))) := hD
            refine lv_iconst (v := (nI 1)) hx hb dL_isTimed_75 (by decide) ?_
            refine lv_icmp_le (tgt := 109) hx hb dL_isTimed_76 (by decide) (fun c23 => ?_) (fun c23 => ?_)
            ·
              exact absurd c23 (by have z9 := c6; rw [← ez1, qL] at z9; rw [← ez1]; exact tW z9)
            ·
              refine lv_goto (tgt := 105) hx hb dL_isTimed_79 (by decide) ?_
              refine lv_iconst (v := (nI 1)) hx hb dL_isTimed_105 (by decide) ?_
              refine lv_goto (tgt := 110) hx hb dL_isTimed_106 (by decide) ?_
              refine lv_istore (lv' := [(6, .int (nI 1)), (5, .int (nI R9)), (4, .int ((hC h) 3)), (3, .int (nI (qH h))), (0, .ref u), (1, .int (nI r9)), (2, .int (nI c9))]) hx hb dL_isTimed_110 hl (by decide) rfl (fun ls hl => ?_)
              refine lv_aload_n hx hb dL_isTimed_112 rfl (lv_at hl 4 rfl) ?_
              refine k_Vi (As := []) (r := (nI sz)) hF (c_X3_undo l g u ah at9 a0 ak z1 sg n od sz (va_up hs ((od + sz) % 6) h) (by omega) (by omega) (k_bs hbs hbo)) (cwV 0 hts gL_isTimed_X3_undo rfl rfl rfl (by decide +kernel) ⟨Nat.le_of_ble_eq_true rfl, Nat.le_of_ble_eq_true rfl⟩) hE hP hD hS hA (k_pall _) ((k_pall _).symm) 0 rfl rfl rfl rfl hl.1 rfl (Nat.le_of_ble_eq_true rfl) dL_isTimed_113 ⟨Nat.le_of_ble_eq_true rfl, Nat.le_of_ble_eq_true rfl⟩ (fun H locs hP hD hS => ?_)
              have hP : va_P g.1 vwCl ((wU u (ah 0) (a0 0) (at9 0)) ++ ((wH g ah ((va_up hs ((od + sz) % 6) h) ((od + sz) % 6))) ++ ((wT g at9 (sg, (nI n))) ++ ((wK0 g a0 ak ((nI od), (nI sz))) ++ (wHs g ak (va_up hs ((od + sz) % 6) h) 6))))) _ := hP
              have hD : va_D A ((wU u (ah 0) (a0 0) (at9 0)) ++ ((wH g ah ((va_up hs ((od + sz) % 6) h) ((od + sz) % 6))) ++ ((wT g at9 (sg, (nI n))) ++ ((wK0 g a0 ak ((nI od), (nI sz))) ++ (wHs g ak (va_up hs ((od + sz) % 6) h) 6))))) := hD
              obtain ⟨z24, ez24⟩ : ∃ x : HSt, ((va_up hs ((od + sz) % 6) h) ((od + sz) % 6)) = x := ⟨_, rfl⟩
              rw [ez24] at hP hD
              have ez249 : z24 = h := by rw [← ez24]; exact va_same
              rw [ez249] at hP hD
              refine lv_pop hx hb dL_isTimed_116 rfl ?_
              refine lv_iload_n hx hb dL_isTimed_117 rfl (lv_at hl 3 rfl) ?_
              refine lv_iconst (v := (nI 1)) hx hb dL_isTimed_118 (by decide) ?_
              refine k_leN (tgt := 149) hx hb (by omega) (by decide) dL_isTimed_119 (by decide) (fun c25 => ?_) (fun c25 => ?_)
              ·
                refine lv_iload hx hb dL_isTimed_149 (lv_at hl 0 rfl) ?_
                have hP : va_P g.1 vwCl ((wU u (ah 0) (a0 0) (at9 0)) ++ ((wH g ah h) ++ ((wT g at9 (sg, (nI n))) ++ ((wK0 g a0 ak ((nI od), (nI sz))) ++ (wHs g ak (va_up hs ((od + sz) % 6) h) 6))))) _ := hP
                have hD : va_D A ((wU u (ah 0) (a0 0) (at9 0)) ++ ((wH g ah h) ++ ((wT g at9 (sg, (nI n))) ++ ((wK0 g a0 ak ((nI od), (nI sz))) ++ (wHs g ak (va_up hs ((od + sz) % 6) h) 6))))) := hD
                exact k_iret hx hb hr hlocks rfl (by subst ez1; first | (simp only [bI, if_pos c2, if_neg (not_not_intro c2), if_pos c3, if_neg (not_not_intro c3), if_pos c4, if_neg (not_not_intro c4), if_neg c5, if_pos c5, if_neg c6, if_pos c6, if_neg c23, if_pos c23, if_pos c25, if_neg (not_not_intro c25)]; done) | (simp only [bI, if_pos c2, if_neg (not_not_intro c2), if_pos c3, if_neg (not_not_intro c3), if_pos c4, if_neg (not_not_intro c4), if_neg c5, if_pos c5, if_neg c6, if_pos c6, if_neg c23, if_pos c23, if_pos c25, if_neg (not_not_intro c25)]; rfl) | rfl | (simp [bI, if_pos c2, if_neg (not_not_intro c2), if_pos c3, if_neg (not_not_intro c3), if_pos c4, if_neg (not_not_intro c4), if_neg c5, if_pos c5, if_neg c6, if_pos c6, if_neg c23, if_pos c23, if_pos c25, if_neg (not_not_intro c25)]; done)) hP hD hS (Nat.le_of_ble_eq_true rfl) (Nat.le_of_ble_eq_true rfl) dL_isTimed_151
              ·
                refine lv_iload hx hb dL_isTimed_122 (lv_at hl 0 rfl) ?_
                refine k_if0 (tgt := 141) hx hb (by decide) dL_isTimed_124 (by decide) (fun c26 => ?_) (fun c26 => ?_)
                ·
                  exact absurd c26 (by decide)
                ·
                  refine lv_aload_n hx hb dL_isTimed_127 rfl (lv_at hl 4 rfl) ?_
                  refine lv_iload_n hx hb dL_isTimed_128 rfl (lv_at hl 3 rfl) ?_
                  refine lv_iconst (v := (nI 1)) hx hb dL_isTimed_129 (by decide) ?_
                  refine lv_isub hx hb dL_isTimed_130 ?_
                  refine k_top (show ((nI (qH h)) - (nI 1)) = (nI (qH h - 1)) from pk_sub (by omega)) ?_
                  refine k_Vi (As := [.int (nI (qH h - 1))]) (r := (nI (HpassQ h (qH h - 1)))) hF (c_X3_pass l g u ah at9 a0 ak h sg n od sz (va_up hs ((od + sz) % 6) h) (by omega) (by omega) hbo (qH h - 1) (by omega) (by omega)) (cwV 1 hts gL_isTimed_X3_pass rfl rfl rfl (by decide +kernel) ⟨Nat.le_of_ble_eq_true rfl, Nat.le_of_ble_eq_true rfl⟩) hE hP hD hS hA (k_pall _) ((k_pall _).symm) 0 rfl rfl rfl rfl hl.1 rfl (Nat.le_of_ble_eq_true rfl) dL_isTimed_131 ⟨Nat.le_of_ble_eq_true rfl, Nat.le_of_ble_eq_true rfl⟩ (fun H locs hP hD hS => ?_)
                  have hP : va_P g.1 vwCl ((wU u (ah 0) (a0 0) (at9 0)) ++ ((wH g ah (HpassN h (qH h - 1))) ++ ((wT g at9 (sg, (nI n))) ++ ((wK0 g a0 ak ((nI od), (nI (sz + 1)))) ++ (wHs g ak (va_up (va_up hs ((od + sz) % 6) h) ((od + sz) % 6) h) 6))))) _ := hP
                  have hD : va_D A ((wU u (ah 0) (a0 0) (at9 0)) ++ ((wH g ah (HpassN h (qH h - 1))) ++ ((wT g at9 (sg, (nI n))) ++ ((wK0 g a0 ak ((nI od), (nI (sz + 1)))) ++ (wHs g ak (va_up (va_up hs ((od + sz) % 6) h) ((od + sz) % 6) h) 6))))) := hD
                  obtain ⟨z27, ez27⟩ : ∃ x : HSt, (HpassN h (qH h - 1)) = x := ⟨_, rfl⟩
                  rw [ez27] at hP hD
                  refine k_top (show (nI (HpassQ h (qH h - 1))) = (nI 0) from congrArg nI q0) ?_
                  refine k_ifn0 (tgt := 141) hx hb (by decide) dL_isTimed_134 (by decide) (fun c28 => ?_) (fun c28 => ?_)
                  ·
                    exact absurd c28 (by decide)
                  ·
                    refine lv_iconst (v := (nI 1)) hx hb dL_isTimed_137 (by decide) ?_
                    refine lv_goto (tgt := 142) hx hb dL_isTimed_138 (by decide) ?_
                    refine lv_istore (lv' := [(6, .int (nI 1)), (5, .int (nI R9)), (4, .int ((hC h) 3)), (3, .int (nI (qH h))), (0, .ref u), (1, .int (nI r9)), (2, .int (nI c9))]) hx hb dL_isTimed_142 hl (by decide) rfl (fun ls hl => ?_)
                    refine lv_aload_n hx hb dL_isTimed_144 rfl (lv_at hl 4 rfl) ?_
                    refine k_Vi (As := []) (r := (nI sz)) hF (c_X3_undo l g u ah at9 a0 ak z27 sg n od sz (va_up (va_up hs ((od + sz) % 6) h) ((od + sz) % 6) h) (by omega) (by omega) (k_bs (k_bs hbs hbo) hbo)) (cwV 0 hts gL_isTimed_X3_undo rfl rfl rfl (by decide +kernel) ⟨Nat.le_of_ble_eq_true rfl, Nat.le_of_ble_eq_true rfl⟩) hE hP hD hS hA (k_pall _) ((k_pall _).symm) 0 rfl rfl rfl rfl hl.1 rfl (Nat.le_of_ble_eq_true rfl) dL_isTimed_145 ⟨Nat.le_of_ble_eq_true rfl, Nat.le_of_ble_eq_true rfl⟩ (fun H locs hP hD hS => ?_)
                    have hP : va_P g.1 vwCl ((wU u (ah 0) (a0 0) (at9 0)) ++ ((wH g ah ((va_up (va_up hs ((od + sz) % 6) h) ((od + sz) % 6) h) ((od + sz) % 6))) ++ ((wT g at9 (sg, (nI n))) ++ ((wK0 g a0 ak ((nI od), (nI sz))) ++ (wHs g ak (va_up (va_up hs ((od + sz) % 6) h) ((od + sz) % 6) h) 6))))) _ := hP
                    have hD : va_D A ((wU u (ah 0) (a0 0) (at9 0)) ++ ((wH g ah ((va_up (va_up hs ((od + sz) % 6) h) ((od + sz) % 6) h) ((od + sz) % 6))) ++ ((wT g at9 (sg, (nI n))) ++ ((wK0 g a0 ak ((nI od), (nI sz))) ++ (wHs g ak (va_up (va_up hs ((od + sz) % 6) h) ((od + sz) % 6) h) 6))))) := hD
                    obtain ⟨z29, ez29⟩ : ∃ x : HSt, ((va_up (va_up hs ((od + sz) % 6) h) ((od + sz) % 6) h) ((od + sz) % 6)) = x := ⟨_, rfl⟩
                    rw [ez29] at hP hD
                    have ez299 : z29 = h := by rw [← ez29]; exact va_same
                    rw [ez299] at hP hD
                    rw [va_twice] at hP hD
                    refine lv_pop hx hb dL_isTimed_148 rfl ?_
                    refine lv_iload hx hb dL_isTimed_149 (lv_at hl 0 rfl) ?_
                    have hP : va_P g.1 vwCl ((wU u (ah 0) (a0 0) (at9 0)) ++ ((wH g ah h) ++ ((wT g at9 (sg, (nI n))) ++ ((wK0 g a0 ak ((nI od), (nI sz))) ++ (wHs g ak (va_up hs ((od + sz) % 6) h) 6))))) _ := hP
                    have hD : va_D A ((wU u (ah 0) (a0 0) (at9 0)) ++ ((wH g ah h) ++ ((wT g at9 (sg, (nI n))) ++ ((wK0 g a0 ak ((nI od), (nI sz))) ++ (wHs g ak (va_up hs ((od + sz) % 6) h) 6))))) := hD
                    exact k_iret hx hb hr hlocks rfl (by subst ez27; subst ez1; first | (simp only [bI, if_pos c2, if_neg (not_not_intro c2), if_pos c3, if_neg (not_not_intro c3), if_pos c4, if_neg (not_not_intro c4), if_neg c5, if_pos c5, if_neg c6, if_pos c6, if_neg c23, if_pos c23, if_neg (Nat.not_le.mpr c25), if_pos (Nat.not_le.mpr c25), if_neg c26, if_pos c26, if_pos c28, if_neg (not_not_intro c28)]; done) | (simp only [bI, if_pos c2, if_neg (not_not_intro c2), if_pos c3, if_neg (not_not_intro c3), if_pos c4, if_neg (not_not_intro c4), if_neg c5, if_pos c5, if_neg c6, if_pos c6, if_neg c23, if_pos c23, if_neg (Nat.not_le.mpr c25), if_pos (Nat.not_le.mpr c25), if_neg c26, if_pos c26, if_pos c28, if_neg (not_not_intro c28)]; rfl) | rfl | (simp [bI, if_pos c2, if_neg (not_not_intro c2), if_pos c3, if_neg (not_not_intro c3), if_pos c4, if_neg (not_not_intro c4), if_neg c5, if_pos c5, if_neg c6, if_pos c6, if_neg c23, if_pos c23, if_neg (Nat.not_le.mpr c25), if_pos (Nat.not_le.mpr c25), if_neg c26, if_pos c26, if_pos c28, if_neg (not_not_intro c28)]; done)) hP hD hS (Nat.le_of_ble_eq_true rfl) (Nat.le_of_ble_eq_true rfl) dL_isTimed_151
