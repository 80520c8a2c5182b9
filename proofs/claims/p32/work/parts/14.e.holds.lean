/-! the law's own methods -/
set_option maxHeartbeats 4000000 in
set_option maxRecDepth 100000 in
theorem c_L_holds (l : Launch) (g : kG) (u : Nat) (ah at9 a0 : Nat → Nat) (ak : Nat → Nat → Nat) (h : HSt) (sg : Nat → Int32) (n od sz : Nat) (hs : Nat → HSt) (T : Nat) (hG : GH T h) (hT : T ≤ 36) : KI l yL_holds wsL_holds ({ frames := 5, cells := 0, slots := 0, locals := 104 }) g [.ref u] ((wU u (ah 0) (a0 0) (at9 0)) ++ ((wH g ah h) ++ ((wT g at9 (sg, (nI n))) ++ ((wK0 g a0 ak ((nI od), (nI sz))) ++ (wHs g ak hs 6))))) (nI 1) ((wU u (ah 0) (a0 0) (at9 0)) ++ ((wH g ah h) ++ ((wT g at9 (sg, (nI n))) ++ ((wK0 g a0 ak ((nI od), (nI sz))) ++ (wHs g ak hs 6))))) 0 0 := by
  refine k_begin (cc := cL_holds) (maxL := 8) (ret := (some .boolean)) (Qc := fun A => kQi g (nI 1) ((wU u (ah 0) (a0 0) (at9 0)) ++ ((wH g ah h) ++ ((wT g at9 (sg, (nI n))) ++ ((wK0 g a0 ak ((nI od), (nI sz))) ++ (wHs g ak hs 6))))) A) (by decide) rfl (Nat.le_of_ble_eq_true rfl) ?_
  intro p e s m below meth c A ls hF hr hlocks hin hE hP hD hS hA hl
  obtain ⟨hx, hb, hml, hown, hts⟩ := id hF
  have hown : s.vm.findClass RL = some m.cls := hown
  have hl : lv_has ls 8 [(0, .ref u)] := hl
  have hI := hG.1
  refine lv_iconst (v := (nI 0)) hx hb dL_holds_0 (by decide) ?_
  refine lv_istore_n (lv' := [(1, .int (nI 0)), (0, .ref u)]) hx hb dL_holds_1 rfl hl (by decide) rfl (fun ls hl => ?_)
  refine lv_iconst (v := (nI 0)) hx hb dL_holds_2 (by decide) ?_
  refine lv_istore_n (lv' := [(2, .int (nI 0)), (1, .int (nI 0)), (0, .ref u)]) hx hb dL_holds_3 rfl hl (by decide) rfl (fun ls hl => ?_)
  refine k_loop (N := 8) (Inv := fun (i : Nat) (H : Heap) (locs : List Loc) (ls : Array Slot) => va_P g.1 vwCl ((wU u (ah 0) (a0 0) (at9 0)) ++ ((wH g ah h) ++ ((wT g at9 (sg, (nI n))) ++ ((wK0 g a0 ak ((nI od), (nI sz))) ++ (wHs g ak hs 6))))) H ∧ va_D A ((wU u (ah 0) (a0 0) (at9 0)) ++ ((wH g ah h) ++ ((wT g at9 (sg, (nI n))) ++ ((wK0 g a0 ak ((nI od), (nI sz))) ++ (wHs g ak hs 6))))) ∧ va_S A s.heap H locs ∧ lv_has ls 8 [(2, .int (nI i)), (1, .int (nI (Hent (hR h) (i * 6)))), (0, .ref u)]) 0 (Nat.zero_le _) ⟨hP, hD, hS, lv_sub hl [0, 1, 2] rfl⟩ (fun i hle2 ih1 H locs ls hinv => ?_)
  obtain ⟨hP, hD, hS, hl⟩ := hinv
  refine lv_iload_n hx hb dL_holds_4 rfl (lv_at hl 0 rfl) ?_
  refine lv_bipush (v := (nI 8)) hx hb dL_holds_5 (by decide) ?_
  refine k_geN (tgt := 190) hx hb (by omega) (by decide) dL_holds_7 (by decide) (fun c3 => ?_) (fun c3 => ?_)
  ·
    obtain rfl : 8 = i := by omega
    refine lv_aload_n hx hb dL_holds_190 rfl (lv_at hl 2 rfl) ?_
    refine k_Vi (As := []) (r := (nI (Hent (hR h) 48))) hF (c_X3_entries l g u ah at9 a0 ak h sg n od sz hs) (cwV 0 hts gL_holds_X3_entries rfl rfl rfl (by decide +kernel) ⟨Nat.le_of_ble_eq_true rfl, Nat.le_of_ble_eq_true rfl⟩) hE hP hD hS hA (k_pall _) ((k_pall _).symm) 0 rfl rfl rfl rfl hl.1 rfl (Nat.le_of_ble_eq_true rfl) dL_holds_191 ⟨Nat.le_of_ble_eq_true rfl, Nat.le_of_ble_eq_true rfl⟩ (fun H locs hP hD hS => ?_)
    have hP : va_P g.1 vwCl ((wU u (ah 0) (a0 0) (at9 0)) ++ ((wH g ah h) ++ ((wT g at9 (sg, (nI n))) ++ ((wK0 g a0 ak ((nI od), (nI sz))) ++ (wHs g ak hs 6))))) _ := hP
    have hD : va_D A ((wU u (ah 0) (a0 0) (at9 0)) ++ ((wH g ah h) ++ ((wT g at9 (sg, (nI n))) ++ ((wK0 g a0 ak ((nI od), (nI sz))) ++ (wHs g ak hs 6))))) := hD
    refine lv_iload_n hx hb dL_holds_194 rfl (lv_at hl 1 rfl) ?_
    refine k_neN (tgt := 243) hx hb (Nat.lt_of_le_of_lt (ent_le _ _) (by decide)) (Nat.lt_of_le_of_lt (ent_le _ _) (by decide)) dL_holds_195 (by decide) (fun c4 => ?_) (fun c4 => ?_)
    ·
      exact absurd rfl c4
    ·
      refine lv_aload_n hx hb dL_holds_198 rfl (lv_at hl 2 rfl) ?_
      refine k_Vi (As := []) (r := (Hchief h)) hF (c_X3_chief l g u ah at9 a0 ak h sg n od sz hs) (cwV 0 hts gL_holds_X3_chief rfl rfl rfl (by decide +kernel) ⟨Nat.le_of_ble_eq_true rfl, Nat.le_of_ble_eq_true rfl⟩) hE hP hD hS hA (k_pall _) ((k_pall _).symm) 0 rfl rfl rfl rfl hl.1 rfl (Nat.le_of_ble_eq_true rfl) dL_holds_199 ⟨Nat.le_of_ble_eq_true rfl, Nat.le_of_ble_eq_true rfl⟩ (fun H locs hP hD hS => ?_)
      have hP : va_P g.1 vwCl ((wU u (ah 0) (a0 0) (at9 0)) ++ ((wH g ah h) ++ ((wT g at9 (sg, (nI n))) ++ ((wK0 g a0 ak ((nI od), (nI sz))) ++ (wHs g ak hs 6))))) _ := hP
      have hD : va_D A ((wU u (ah 0) (a0 0) (at9 0)) ++ ((wH g ah h) ++ ((wT g at9 (sg, (nI n))) ++ ((wK0 g a0 ak ((nI od), (nI sz))) ++ (wHs g ak hs 6))))) := hD
      refine lv_if_lt (tgt := 243) hx hb dL_holds_202 (by decide) (fun c5 => ?_) (fun c5 => ?_)
      ·
        exact absurd c5 (chief_p h).1
      ·
        refine lv_aload_n hx hb dL_holds_205 rfl (lv_at hl 2 rfl) ?_
        refine k_Vi (As := []) (r := (Hchief h)) hF (c_X3_chief l g u ah at9 a0 ak h sg n od sz hs) (cwV 0 hts gL_holds_X3_chief rfl rfl rfl (by decide +kernel) ⟨Nat.le_of_ble_eq_true rfl, Nat.le_of_ble_eq_true rfl⟩) hE hP hD hS hA (k_pall _) ((k_pall _).symm) 0 rfl rfl rfl rfl hl.1 rfl (Nat.le_of_ble_eq_true rfl) dL_holds_206 ⟨Nat.le_of_ble_eq_true rfl, Nat.le_of_ble_eq_true rfl⟩ (fun H locs hP hD hS => ?_)
        have hP : va_P g.1 vwCl ((wU u (ah 0) (a0 0) (at9 0)) ++ ((wH g ah h) ++ ((wT g at9 (sg, (nI n))) ++ ((wK0 g a0 ak ((nI od), (nI sz))) ++ (wHs g ak hs 6))))) _ := hP
        have hD : va_D A ((wU u (ah 0) (a0 0) (at9 0)) ++ ((wH g ah h) ++ ((wT g at9 (sg, (nI n))) ++ ((wK0 g a0 ak ((nI od), (nI sz))) ++ (wHs g ak hs 6))))) := hD
        refine lv_iconst (v := (nI 3)) hx hb dL_holds_209 (by decide) ?_
        refine lv_icmp_ge (tgt := 243) hx hb dL_holds_210 (by decide) (fun c6 => ?_) (fun c6 => ?_)
        ·
          exact absurd c6 (chief_p h).2
        ·
          refine lv_aload_n hx hb dL_holds_213 rfl (lv_at hl 2 rfl) ?_
          refine k_Vi (As := []) (r := (HasksIn h)) hF (c_X3_minutesToQuestion l g u ah at9 a0 ak h sg n od sz hs) (cwV 0 hts gL_holds_X3_minutesToQuestion rfl rfl rfl (by decide +kernel) ⟨Nat.le_of_ble_eq_true rfl, Nat.le_of_ble_eq_true rfl⟩) hE hP hD hS hA (k_pall _) ((k_pall _).symm) 0 rfl rfl rfl rfl hl.1 rfl (Nat.le_of_ble_eq_true rfl) dL_holds_214 ⟨Nat.le_of_ble_eq_true rfl, Nat.le_of_ble_eq_true rfl⟩ (fun H locs hP hD hS => ?_)
          have hP : va_P g.1 vwCl ((wU u (ah 0) (a0 0) (at9 0)) ++ ((wH g ah h) ++ ((wT g at9 (sg, (nI n))) ++ ((wK0 g a0 ak ((nI od), (nI sz))) ++ (wHs g ak hs 6))))) _ := hP
          have hD : va_D A ((wU u (ah 0) (a0 0) (at9 0)) ++ ((wH g ah h) ++ ((wT g at9 (sg, (nI n))) ++ ((wK0 g a0 ak ((nI od), (nI sz))) ++ (wHs g ak hs 6))))) := hD
          refine lv_iconst (v := (nI 1)) hx hb dL_holds_217 (by decide) ?_
          refine lv_icmp_lt (tgt := 243) hx hb dL_holds_218 (by decide) (fun c7 => ?_) (fun c7 => ?_)
          ·
            exact absurd c7 (asks_1 hI)
          ·
            refine lv_aload_n hx hb dL_holds_221 rfl (lv_at hl 2 rfl) ?_
            refine k_Vd (As := []) (r := (dSh ((hC h) 0) ((hC h) 1))) hF (c_X3_usefulShare l g u ah at9 a0 ak h sg n od sz hs) (cwV 0 hts gL_holds_X3_usefulShare rfl rfl rfl (by decide +kernel) ⟨Nat.le_of_ble_eq_true rfl, Nat.le_of_ble_eq_true rfl⟩) hE hP hD hS hA (k_pall _) ((k_pall _).symm) 0 rfl rfl rfl rfl hl.1 rfl (Nat.le_of_ble_eq_true rfl) dL_holds_222 ⟨Nat.le_of_ble_eq_true rfl, Nat.le_of_ble_eq_true rfl⟩ (fun H locs hP hD hS => ?_)
            have hP : va_P g.1 vwCl ((wU u (ah 0) (a0 0) (at9 0)) ++ ((wH g ah h) ++ ((wT g at9 (sg, (nI n))) ++ ((wK0 g a0 ak ((nI od), (nI sz))) ++ (wHs g ak hs 6))))) _ := hP
            have hD : va_D A ((wU u (ah 0) (a0 0) (at9 0)) ++ ((wH g ah h) ++ ((wT g at9 (sg, (nI n))) ++ ((wK0 g a0 ak ((nI od), (nI sz))) ++ (wHs g ak hs 6))))) := hD
            refine lv_dconst0 hx hb dL_holds_225 ?_
            refine lv_dcmp hx hb dL_holds_226 ?_
            refine lv_if_lt (tgt := 243) hx hb dL_holds_227 (by decide) (fun c8 => ?_) (fun c8 => ?_)
            ·
              exact absurd c8 (share_in hG hT).1
            ·
              refine lv_aload_n hx hb dL_holds_230 rfl (lv_at hl 2 rfl) ?_
              refine k_Vd (As := []) (r := (dSh ((hC h) 0) ((hC h) 1))) hF (c_X3_usefulShare l g u ah at9 a0 ak h sg n od sz hs) (cwV 0 hts gL_holds_X3_usefulShare rfl rfl rfl (by decide +kernel) ⟨Nat.le_of_ble_eq_true rfl, Nat.le_of_ble_eq_true rfl⟩) hE hP hD hS hA (k_pall _) ((k_pall _).symm) 0 rfl rfl rfl rfl hl.1 rfl (Nat.le_of_ble_eq_true rfl) dL_holds_231 ⟨Nat.le_of_ble_eq_true rfl, Nat.le_of_ble_eq_true rfl⟩ (fun H locs hP hD hS => ?_)
              have hP : va_P g.1 vwCl ((wU u (ah 0) (a0 0) (at9 0)) ++ ((wH g ah h) ++ ((wT g at9 (sg, (nI n))) ++ ((wK0 g a0 ak ((nI od), (nI sz))) ++ (wHs g ak hs 6))))) _ := hP
              have hD : va_D A ((wU u (ah 0) (a0 0) (at9 0)) ++ ((wH g ah h) ++ ((wT g at9 (sg, (nI n))) ++ ((wK0 g a0 ak ((nI od), (nI sz))) ++ (wHs g ak hs 6))))) := hD
              refine lv_dconst1 hx hb dL_holds_234 ?_
              refine lv_dcmp hx hb dL_holds_235 ?_
              refine lv_if_gt (tgt := 243) hx hb dL_holds_236 (by decide) (fun c10 => ?_) (fun c10 => ?_)
              ·
                exact absurd c10 (share_in hG hT).2
              ·
                refine lv_iconst (v := (nI 1)) hx hb dL_holds_239 (by decide) ?_
                refine lv_goto (tgt := 244) hx hb dL_holds_240 (by decide) ?_
                have hP : va_P g.1 vwCl ((wU u (ah 0) (a0 0) (at9 0)) ++ ((wH g ah h) ++ ((wT g at9 (sg, (nI n))) ++ ((wK0 g a0 ak ((nI od), (nI sz))) ++ (wHs g ak hs 6))))) _ := hP
                have hD : va_D A ((wU u (ah 0) (a0 0) (at9 0)) ++ ((wH g ah h) ++ ((wT g at9 (sg, (nI n))) ++ ((wK0 g a0 ak ((nI od), (nI sz))) ++ (wHs g ak hs 6))))) := hD
                exact k_iret hx hb hr hlocks rfl rfl hP hD hS (Nat.le_of_ble_eq_true rfl) (Nat.le_of_ble_eq_true rfl) dL_holds_244
  ·
    refine lv_iconst (v := (nI 0)) hx hb dL_holds_10 (by decide) ?_
    refine lv_istore_n (lv' := [(3, .int (nI 0)), (2, .int (nI i)), (1, .int (nI (Hent (hR h) (i * 6)))), (0, .ref u)]) hx hb dL_holds_11 rfl hl (by decide) rfl (fun ls hl => ?_)
    refine k_loop (N := 6) (Inv := fun (j : Nat) (H : Heap) (locs : List Loc) (ls : Array Slot) => va_P g.1 vwCl ((wU u (ah 0) (a0 0) (at9 0)) ++ ((wH g ah h) ++ ((wT g at9 (sg, (nI n))) ++ ((wK0 g a0 ak ((nI od), (nI sz))) ++ (wHs g ak hs 6))))) H ∧ va_D A ((wU u (ah 0) (a0 0) (at9 0)) ++ ((wH g ah h) ++ ((wT g at9 (sg, (nI n))) ++ ((wK0 g a0 ak ((nI od), (nI sz))) ++ (wHs g ak hs 6))))) ∧ va_S A s.heap H locs ∧ lv_has ls 8 [(3, .int (nI j)), (2, .int (nI i)), (1, .int (nI (Hent (hR h) (i * 6 + j)))), (0, .ref u)]) 0 (Nat.zero_le _) ⟨hP, hD, hS, lv_sub hl [0, 1, 2, 3] rfl⟩ (fun j hle12 ih11 H locs ls hinv => ?_)
    obtain ⟨hP, hD, hS, hl⟩ := hinv
    refine lv_iload_n hx hb dL_holds_12 rfl (lv_at hl 0 rfl) ?_
    refine lv_bipush (v := (nI 6)) hx hb dL_holds_13 (by decide) ?_
    refine k_geN (tgt := 184) hx hb (by omega) (by decide) dL_holds_15 (by decide) (fun c13 => ?_) (fun c13 => ?_)
    ·
      obtain rfl : 6 = j := by omega
      refine lv_iinc (v := (nI (i + 1))) (lv' := [(2, .int (nI (i + 1))), (3, .int (nI 6)), (1, .int (nI (Hent (hR h) (i * 6 + 6)))), (0, .ref u)]) hx hb dL_holds_184 hl (k := 1) rfl (k_inc1 _) (by decide) rfl (fun ls hl => ?_)
      refine lv_goto (tgt := 4) hx hb dL_holds_187 (by decide) ?_
      have e14 : (nI (Hent (hR h) ((i + 1) * 6))) = (nI (Hent (hR h) (i * 6 + 6))) := (show nI (Hent (hR h) ((i + 1) * 6)) = nI (Hent (hR h) (i * 6 + 6)) from by rw [show (i + 1) * 6 = i * 6 + 6 by omega])
      exact ih1 _ _ _ (by omega) ⟨hP, hD, hS, (by rw [e14]; exact lv_sub hl [0, 2, 3] rfl)⟩
    ·
      refine lv_aload_n hx hb dL_holds_18 rfl (lv_at hl 3 rfl) ?_
      refine lv_iload_n hx hb dL_holds_19 rfl (lv_at hl 1 rfl) ?_
      refine lv_iload_n hx hb dL_holds_20 rfl (lv_at hl 0 rfl) ?_
      refine k_Vi (As := [.int (nI i), .int (nI j)]) (r := ((hR h) (i * 6 + j))) hF (c_X3_rest l g u ah at9 a0 ak h sg n od sz hs i j (by omega) (by omega)) (cwV 2 hts gL_holds_X3_rest rfl rfl rfl (by decide +kernel) ⟨Nat.le_of_ble_eq_true rfl, Nat.le_of_ble_eq_true rfl⟩) hE hP hD hS hA (k_pall _) ((k_pall _).symm) 0 rfl rfl rfl rfl hl.1 rfl (Nat.le_of_ble_eq_true rfl) dL_holds_21 ⟨Nat.le_of_ble_eq_true rfl, Nat.le_of_ble_eq_true rfl⟩ (fun H locs hP hD hS => ?_)
      have hP : va_P g.1 vwCl ((wU u (ah 0) (a0 0) (at9 0)) ++ ((wH g ah h) ++ ((wT g at9 (sg, (nI n))) ++ ((wK0 g a0 ak ((nI od), (nI sz))) ++ (wHs g ak hs 6))))) _ := hP
      have hD : va_D A ((wU u (ah 0) (a0 0) (at9 0)) ++ ((wH g ah h) ++ ((wT g at9 (sg, (nI n))) ++ ((wK0 g a0 ak ((nI od), (nI sz))) ++ (wHs g ak hs 6))))) := hD
      refine lv_istore (lv' := [(4, .int ((hR h) (i * 6 + j))), (3, .int (nI j)), (2, .int (nI i)), (1, .int (nI (Hent (hR h) (i * 6 + j)))), (0, .ref u)]) hx hb dL_holds_24 hl (by decide) rfl (fun ls hl => ?_)
      refine lv_aload_n hx hb dL_holds_26 rfl (lv_at hl 4 rfl) ?_
      refine lv_iload_n hx hb dL_holds_27 rfl (lv_at hl 2 rfl) ?_
      refine lv_iload_n hx hb dL_holds_28 rfl (lv_at hl 1 rfl) ?_
      refine k_Vi (As := [.int (nI i), .int (nI j)]) (r := ((hL h) (i * 6 + j))) hF (c_X3_listeners l g u ah at9 a0 ak h sg n od sz hs i j (by omega) (by omega)) (cwV 2 hts gL_holds_X3_listeners rfl rfl rfl (by decide +kernel) ⟨Nat.le_of_ble_eq_true rfl, Nat.le_of_ble_eq_true rfl⟩) hE hP hD hS hA (k_pall _) ((k_pall _).symm) 0 rfl rfl rfl rfl hl.1 rfl (Nat.le_of_ble_eq_true rfl) dL_holds_29 ⟨Nat.le_of_ble_eq_true rfl, Nat.le_of_ble_eq_true rfl⟩ (fun H locs hP hD hS => ?_)
      have hP : va_P g.1 vwCl ((wU u (ah 0) (a0 0) (at9 0)) ++ ((wH g ah h) ++ ((wT g at9 (sg, (nI n))) ++ ((wK0 g a0 ak ((nI od), (nI sz))) ++ (wHs g ak hs 6))))) _ := hP
      have hD : va_D A ((wU u (ah 0) (a0 0) (at9 0)) ++ ((wH g ah h) ++ ((wT g at9 (sg, (nI n))) ++ ((wK0 g a0 ak ((nI od), (nI sz))) ++ (wHs g ak hs 6))))) := hD
      refine lv_istore (lv' := [(5, .int ((hL h) (i * 6 + j))), (4, .int ((hR h) (i * 6 + j))), (3, .int (nI j)), (2, .int (nI i)), (1, .int (nI (Hent (hR h) (i * 6 + j)))), (0, .ref u)]) hx hb dL_holds_32 hl (by decide) rfl (fun ls hl => ?_)
      refine lv_aload_n hx hb dL_holds_34 rfl (lv_at hl 5 rfl) ?_
      refine lv_iload_n hx hb dL_holds_35 rfl (lv_at hl 2 rfl) ?_
      refine k_Vi (As := [.int (nI j)]) (r := (Hget h j 8)) hF (c_X3_rows l g u ah at9 a0 ak h sg n od sz hs j (by omega)) (cwV 1 hts gL_holds_X3_rows rfl rfl rfl (by decide +kernel) ⟨Nat.le_of_ble_eq_true rfl, Nat.le_of_ble_eq_true rfl⟩) hE hP hD hS hA (k_pall _) ((k_pall _).symm) 0 rfl rfl rfl rfl hl.1 rfl (Nat.le_of_ble_eq_true rfl) dL_holds_36 ⟨Nat.le_of_ble_eq_true rfl, Nat.le_of_ble_eq_true rfl⟩ (fun H locs hP hD hS => ?_)
      have hP : va_P g.1 vwCl ((wU u (ah 0) (a0 0) (at9 0)) ++ ((wH g ah h) ++ ((wT g at9 (sg, (nI n))) ++ ((wK0 g a0 ak ((nI od), (nI sz))) ++ (wHs g ak hs 6))))) _ := hP
      have hD : va_D A ((wU u (ah 0) (a0 0) (at9 0)) ++ ((wH g ah h) ++ ((wT g at9 (sg, (nI n))) ++ ((wK0 g a0 ak ((nI od), (nI sz))) ++ (wHs g ak hs 6))))) := hD
      refine lv_iload_n hx hb dL_holds_39 rfl (lv_at hl 3 rfl) ?_
      refine lv_ishr hx hb dL_holds_40 ?_
      refine lv_iconst (v := (nI 1)) hx hb dL_holds_41 (by decide) ?_
      refine lv_iand hx hb dL_holds_42 ?_
      refine lv_iconst (v := (nI 1)) hx hb dL_holds_43 (by decide) ?_
      refine k_meet (x := .int (bI ((((Hget h j 8) >>> ((nI i) &&& 31)) &&& (nI 1)) = nI 1))) (pj := 52) (rest := []) (fun J15 => ?_) ?_
      ·
        refine lv_icmp_ne (tgt := 51) hx hb dL_holds_44 (by decide) (fun c16 => ?_) (fun c16 => ?_)
        ·
          refine lv_iconst (v := (nI 0)) hx hb dL_holds_51 (by decide) ?_
          exact k_top (show (nI 0) = (bI ((((Hget h j 8) >>> ((nI i) &&& 31)) &&& (nI 1)) = nI 1)) from (bI_f c16).symm) J15
        ·
          refine lv_iconst (v := (nI 1)) hx hb dL_holds_47 (by decide) ?_
          refine lv_goto (tgt := 52) hx hb dL_holds_48 (by decide) ?_
          exact k_top (show (nI 1) = (bI ((((Hget h j 8) >>> ((nI i) &&& 31)) &&& (nI 1)) = nI 1)) from (bI_t c16).symm) J15
      ·
        refine lv_istore (lv' := [(6, .int (bI ((((Hget h j 8) >>> ((nI i) &&& 31)) &&& (nI 1)) = nI 1))), (5, .int ((hL h) (i * 6 + j))), (4, .int ((hR h) (i * 6 + j))), (3, .int (nI j)), (2, .int (nI i)), (1, .int (nI (Hent (hR h) (i * 6 + j)))), (0, .ref u)]) hx hb dL_holds_52 hl (by decide) rfl (fun ls hl => ?_)
        refine lv_aload_n hx hb dL_holds_54 rfl (lv_at hl 6 rfl) ?_
        refine lv_iload_n hx hb dL_holds_55 rfl (lv_at hl 3 rfl) ?_
        refine k_Vi (As := [.int (nI j)]) (r := (Hwant h j 8)) hF (c_X3_wanted l g u ah at9 a0 ak h sg n od sz hs j (by omega)) (cwV 1 hts gL_holds_X3_wanted rfl rfl rfl (by decide +kernel) ⟨Nat.le_of_ble_eq_true rfl, Nat.le_of_ble_eq_true rfl⟩) hE hP hD hS hA (k_pall _) ((k_pall _).symm) 0 rfl rfl rfl rfl hl.1 rfl (Nat.le_of_ble_eq_true rfl) dL_holds_56 ⟨Nat.le_of_ble_eq_true rfl, Nat.le_of_ble_eq_true rfl⟩ (fun H locs hP hD hS => ?_)
        have hP : va_P g.1 vwCl ((wU u (ah 0) (a0 0) (at9 0)) ++ ((wH g ah h) ++ ((wT g at9 (sg, (nI n))) ++ ((wK0 g a0 ak ((nI od), (nI sz))) ++ (wHs g ak hs 6))))) _ := hP
        have hD : va_D A ((wU u (ah 0) (a0 0) (at9 0)) ++ ((wH g ah h) ++ ((wT g at9 (sg, (nI n))) ++ ((wK0 g a0 ak ((nI od), (nI sz))) ++ (wHs g ak hs 6))))) := hD
        refine lv_iload_n hx hb dL_holds_59 rfl (lv_at hl 4 rfl) ?_
        refine lv_ishr hx hb dL_holds_60 ?_
        refine lv_iconst (v := (nI 1)) hx hb dL_holds_61 (by decide) ?_
        refine lv_iand hx hb dL_holds_62 ?_
        refine lv_iconst (v := (nI 1)) hx hb dL_holds_63 (by decide) ?_
        refine k_meet (x := .int (bI ((((Hwant h j 8) >>> ((nI i) &&& 31)) &&& (nI 1)) = nI 1))) (pj := 72) (rest := []) (fun J17 => ?_) ?_
        ·
          refine lv_icmp_ne (tgt := 71) hx hb dL_holds_64 (by decide) (fun c18 => ?_) (fun c18 => ?_)
          ·
            refine lv_iconst (v := (nI 0)) hx hb dL_holds_71 (by decide) ?_
            exact k_top (show (nI 0) = (bI ((((Hwant h j 8) >>> ((nI i) &&& 31)) &&& (nI 1)) = nI 1)) from (bI_f c18).symm) J17
          ·
            refine lv_iconst (v := (nI 1)) hx hb dL_holds_67 (by decide) ?_
            refine lv_goto (tgt := 72) hx hb dL_holds_68 (by decide) ?_
            exact k_top (show (nI 1) = (bI ((((Hwant h j 8) >>> ((nI i) &&& 31)) &&& (nI 1)) = nI 1)) from (bI_t c18).symm) J17
        ·
          refine lv_istore (lv' := [(7, .int (bI ((((Hwant h j 8) >>> ((nI i) &&& 31)) &&& (nI 1)) = nI 1))), (6, .int (bI ((((Hget h j 8) >>> ((nI i) &&& 31)) &&& (nI 1)) = nI 1))), (5, .int ((hL h) (i * 6 + j))), (4, .int ((hR h) (i * 6 + j))), (3, .int (nI j)), (2, .int (nI i)), (1, .int (nI (Hent (hR h) (i * 6 + j)))), (0, .ref u)]) hx hb dL_holds_72 hl (by decide) rfl (fun ls hl => ?_)
          refine lv_iload_n hx hb dL_holds_74 rfl (lv_at hl 6 rfl) ?_
          refine lv_iload hx hb dL_holds_75 (lv_at hl 3 rfl) ?_
          refine k_meet (x := .int (nI (if ((hR h) (i * 6 + j)) ≤ 0 then 0 else 1))) (pj := 85) (rest := [.int (nI (Hent (hR h) (i * 6 + j)))]) (fun J19 => ?_) ?_
          ·
            refine lv_if_le (tgt := 84) hx hb dL_holds_77 (by decide) (fun c20 => ?_) (fun c20 => ?_)
            ·
              refine lv_iconst (v := (nI 0)) hx hb dL_holds_84 (by decide) ?_
              exact k_top (congrArg nI (show 0 = (if ((hR h) (i * 6 + j)) ≤ 0 then 0 else 1) from (if_pos c20).symm)) J19
            ·
              refine lv_iconst (v := (nI 1)) hx hb dL_holds_80 (by decide) ?_
              refine lv_goto (tgt := 85) hx hb dL_holds_81 (by decide) ?_
              exact k_top (congrArg nI (show 1 = (if ((hR h) (i * 6 + j)) ≤ 0 then 0 else 1) from (if_neg c20).symm)) J19
          ·
            refine lv_iadd hx hb dL_holds_85 ?_
            refine k_top (nI_add _ _) ?_
            refine lv_istore_n (lv' := [(1, .int (nI ((Hent (hR h) (i * 6 + j)) + (if ((hR h) (i * 6 + j)) ≤ 0 then 0 else 1)))), (7, .int (bI ((((Hwant h j 8) >>> ((nI i) &&& 31)) &&& (nI 1)) = nI 1))), (6, .int (bI ((((Hget h j 8) >>> ((nI i) &&& 31)) &&& (nI 1)) = nI 1))), (5, .int ((hL h) (i * 6 + j))), (4, .int ((hR h) (i * 6 + j))), (3, .int (nI j)), (2, .int (nI i)), (0, .ref u)]) hx hb dL_holds_86 rfl hl (by decide) rfl (fun ls hl => ?_)
            refine lv_iload hx hb dL_holds_87 (lv_at hl 4 rfl) ?_
            refine lv_if_lt (tgt := 176) hx hb dL_holds_89 (by decide) (fun c21 => ?_) (fun c21 => ?_)
            ·
              exact absurd c21 (R_in hI (by omega)).1
            ·
              refine lv_iload hx hb dL_holds_92 (lv_at hl 4 rfl) ?_
              refine lv_bipush (v := (nI 60)) hx hb dL_holds_94 (by decide) ?_
              refine lv_icmp_gt (tgt := 176) hx hb dL_holds_96 (by decide) (fun c22 => ?_) (fun c22 => ?_)
              ·
                exact absurd c22 (R_in hI (by omega)).2
              ·
                refine lv_iload hx hb dL_holds_99 (lv_at hl 3 rfl) ?_
                refine lv_if_lt (tgt := 176) hx hb dL_holds_101 (by decide) (fun c23 => ?_) (fun c23 => ?_)
                ·
                  exact absurd c23 (L_in hI (by omega)).1
                ·
                  refine lv_iload hx hb dL_holds_104 (lv_at hl 3 rfl) ?_
                  refine lv_bipush (v := (nI 9)) hx hb dL_holds_106 (by decide) ?_
                  refine lv_icmp_gt (tgt := 176) hx hb dL_holds_108 (by decide) (fun c24 => ?_) (fun c24 => ?_)
                  ·
                    exact absurd c24 (L_in hI (by omega)).2
                  ·
                    refine lv_iload hx hb dL_holds_111 (lv_at hl 1 rfl) ?_
                    refine lv_iload hx hb dL_holds_113 (lv_at hl 3 rfl) ?_
                    refine k_meet (x := .int (bI (¬ ((hL h) (i * 6 + j)) ≤ 0))) (pj := 123) (rest := [.int (bI ((((Hwant h j 8) >>> ((nI i) &&& 31)) &&& (nI 1)) = nI 1))]) (fun J25 => ?_) ?_
                    ·
                      refine lv_if_le (tgt := 122) hx hb dL_holds_115 (by decide) (fun c26 => ?_) (fun c26 => ?_)
                      ·
                        refine lv_iconst (v := (nI 0)) hx hb dL_holds_122 (by decide) ?_
                        exact k_top (show (nI 0) = (bI (¬ ((hL h) (i * 6 + j)) ≤ 0)) from (bI_f (not_not_intro c26)).symm) J25
                      ·
                        refine lv_iconst (v := (nI 1)) hx hb dL_holds_118 (by decide) ?_
                        refine lv_goto (tgt := 123) hx hb dL_holds_119 (by decide) ?_
                        exact k_top (show (nI 1) = (bI (¬ ((hL h) (i * 6 + j)) ≤ 0)) from (bI_t c26).symm) J25
                    ·
                      refine lv_icmp_ne (tgt := 176) hx hb dL_holds_123 (by decide) (fun c27 => ?_) (fun c27 => ?_)
                      ·
                        exact absurd (bI_iff (want_bit h j (by omega))) c27
                      ·
                        refine lv_iload hx hb dL_holds_126 (lv_at hl 2 rfl) ?_
                        refine lv_iload hx hb dL_holds_128 (lv_at hl 4 rfl) ?_
                        refine lv_if_gt (tgt := 141) hx hb dL_holds_130 (by decide) (fun c28 => ?_) (fun c28 => ?_)
                        ·
                          refine lv_iconst (v := (nI 1)) hx hb dL_holds_141 (by decide) ?_
                          refine lv_goto (tgt := 146) hx hb dL_holds_142 (by decide) ?_
                          refine lv_icmp_ne (tgt := 176) hx hb dL_holds_146 (by decide) (fun c29 => ?_) (fun c29 => ?_)
                          ·
                            exact absurd (bI_t ((get_bit hI j (by omega)).mpr (Or.inl (pos_le c28)))) c29
                          ·
                            refine lv_aload_n hx hb dL_holds_149 rfl (lv_at hl 7 rfl) ?_
                            refine lv_iload_n hx hb dL_holds_150 rfl (lv_at hl 6 rfl) ?_
                            refine lv_iload_n hx hb dL_holds_151 rfl (lv_at hl 5 rfl) ?_
                            refine k_Vi (As := [.int (nI i), .int (nI j)]) (r := (HfadesIn (i * 6 + j) h)) hF (c_X3_minutesToFade l g u ah at9 a0 ak h sg n od sz hs i j (by omega) (by omega)) (cwV 2 hts gL_holds_X3_minutesToFade rfl rfl rfl (by decide +kernel) ⟨Nat.le_of_ble_eq_true rfl, Nat.le_of_ble_eq_true rfl⟩) hE hP hD hS hA (k_pall _) ((k_pall _).symm) 0 rfl rfl rfl rfl hl.1 rfl (Nat.le_of_ble_eq_true rfl) dL_holds_152 ⟨Nat.le_of_ble_eq_true rfl, Nat.le_of_ble_eq_true rfl⟩ (fun H locs hP hD hS => ?_)
                            have hP : va_P g.1 vwCl ((wU u (ah 0) (a0 0) (at9 0)) ++ ((wH g ah h) ++ ((wT g at9 (sg, (nI n))) ++ ((wK0 g a0 ak ((nI od), (nI sz))) ++ (wHs g ak hs 6))))) _ := hP
                            have hD : va_D A ((wU u (ah 0) (a0 0) (at9 0)) ++ ((wH g ah h) ++ ((wT g at9 (sg, (nI n))) ++ ((wK0 g a0 ak ((nI od), (nI sz))) ++ (wHs g ak hs 6))))) := hD
                            refine k_meet (x := .int (bI ((HfadesIn (i * 6 + j) h) = 0))) (pj := 163) (rest := []) (fun J30 => ?_) ?_
                            ·
                              refine lv_if_ne (tgt := 162) hx hb dL_holds_155 (by decide) (fun c31 => ?_) (fun c31 => ?_)
                              ·
                                refine lv_iconst (v := (nI 0)) hx hb dL_holds_162 (by decide) ?_
                                exact k_top (show (nI 0) = (bI ((HfadesIn (i * 6 + j) h) = 0)) from (bI_f c31).symm) J30
                              ·
                                refine lv_iconst (v := (nI 1)) hx hb dL_holds_158 (by decide) ?_
                                refine lv_goto (tgt := 163) hx hb dL_holds_159 (by decide) ?_
                                exact k_top (show (nI 1) = (bI ((HfadesIn (i * 6 + j) h) = 0)) from (bI_t c31).symm) J30
                            ·
                              refine lv_iload hx hb dL_holds_163 (lv_at hl 4 rfl) ?_
                              refine k_meet (x := .int (bI (((hR h) (i * 6 + j)) = 0))) (pj := 173) (rest := [.int (bI ((HfadesIn (i * 6 + j) h) = 0))]) (fun J32 => ?_) ?_
                              ·
                                refine lv_if_ne (tgt := 172) hx hb dL_holds_165 (by decide) (fun c33 => ?_) (fun c33 => ?_)
                                ·
                                  refine lv_iconst (v := (nI 0)) hx hb dL_holds_172 (by decide) ?_
                                  exact k_top (show (nI 0) = (bI (((hR h) (i * 6 + j)) = 0)) from (bI_f c33).symm) J32
                                ·
                                  refine lv_iconst (v := (nI 1)) hx hb dL_holds_168 (by decide) ?_
                                  refine lv_goto (tgt := 173) hx hb dL_holds_169 (by decide) ?_
                                  exact k_top (show (nI 1) = (bI (((hR h) (i * 6 + j)) = 0)) from (bI_t c33).symm) J32
                              ·
                                refine lv_icmp_eq (tgt := 178) hx hb dL_holds_173 (by decide) (fun c34 => ?_) (fun c34 => ?_)
                                ·
                                  refine lv_iinc (v := (nI (j + 1))) (lv' := [(3, .int (nI (j + 1))), (1, .int (nI ((Hent (hR h) (i * 6 + j)) + (if ((hR h) (i * 6 + j)) ≤ 0 then 0 else 1)))), (7, .int (bI ((((Hwant h j 8) >>> ((nI i) &&& 31)) &&& (nI 1)) = nI 1))), (6, .int (bI ((((Hget h j 8) >>> ((nI i) &&& 31)) &&& (nI 1)) = nI 1))), (5, .int ((hL h) (i * 6 + j))), (4, .int ((hR h) (i * 6 + j))), (2, .int (nI i)), (0, .ref u)]) hx hb dL_holds_178 hl (k := 5) rfl (k_inc1 _) (by decide) rfl (fun ls hl => ?_)
                                  refine lv_goto (tgt := 12) hx hb dL_holds_181 (by decide) ?_
                                  have e35 : (nI (Hent (hR h) (i * 6 + (j + 1)))) = (nI ((Hent (hR h) (i * 6 + j)) + (if ((hR h) (i * 6 + j)) ≤ 0 then 0 else 1))) := (congrArg nI (ent_s (hR h) (i * 6 + j)))
                                  exact ih11 _ _ _ (by omega) ⟨hP, hD, hS, (by rw [e35]; exact lv_sub hl [0, 6, 1, 7] rfl)⟩
                                ·
                                  exact absurd (bI_iff (fade_0 hI (by omega))) c34
                        ·
                          refine lv_aload_n hx hb dL_holds_133 rfl (lv_at hl 7 rfl) ?_
                          refine lv_iload_n hx hb dL_holds_134 rfl (lv_at hl 6 rfl) ?_
                          refine k_Vi (As := [.int (nI i)]) (r := (bI (Hopen h i))) hF (c_X3_isOpen l g u ah at9 a0 ak h sg n od sz hs i (by omega)) (cwV 1 hts gL_holds_X3_isOpen rfl rfl rfl (by decide +kernel) ⟨Nat.le_of_ble_eq_true rfl, Nat.le_of_ble_eq_true rfl⟩) hE hP hD hS hA (k_pall _) ((k_pall _).symm) 0 rfl rfl rfl rfl hl.1 rfl (Nat.le_of_ble_eq_true rfl) dL_holds_135 ⟨Nat.le_of_ble_eq_true rfl, Nat.le_of_ble_eq_true rfl⟩ (fun H locs hP hD hS => ?_)
                          have hP : va_P g.1 vwCl ((wU u (ah 0) (a0 0) (at9 0)) ++ ((wH g ah h) ++ ((wT g at9 (sg, (nI n))) ++ ((wK0 g a0 ak ((nI od), (nI sz))) ++ (wHs g ak hs 6))))) _ := hP
                          have hD : va_D A ((wU u (ah 0) (a0 0) (at9 0)) ++ ((wH g ah h) ++ ((wT g at9 (sg, (nI n))) ++ ((wK0 g a0 ak ((nI od), (nI sz))) ++ (wHs g ak hs 6))))) := hD
                          refine k_ifeqB (tgt := 145) hx hb dL_holds_138 (by decide) (fun c36 => ?_) (fun c36 => ?_)
                          ·
                            refine lv_iconst (v := (nI 0)) hx hb dL_holds_145 (by decide) ?_
                            refine lv_icmp_ne (tgt := 176) hx hb dL_holds_146 (by decide) (fun c37 => ?_) (fun c37 => ?_)
                            ·
                              exact absurd (bI_f (fun z => ((get_bit hI j (by omega)).mp z).elim (fun y => absurd (Int32.not_le.mp y) c28) c36)) c37
                            ·
                              refine lv_aload_n hx hb dL_holds_149 rfl (lv_at hl 7 rfl) ?_
                              refine lv_iload_n hx hb dL_holds_150 rfl (lv_at hl 6 rfl) ?_
                              refine lv_iload_n hx hb dL_holds_151 rfl (lv_at hl 5 rfl) ?_
                              refine k_Vi (As := [.int (nI i), .int (nI j)]) (r := (HfadesIn (i * 6 + j) h)) hF (c_X3_minutesToFade l g u ah at9 a0 ak h sg n od sz hs i j (by omega) (by omega)) (cwV 2 hts gL_holds_X3_minutesToFade rfl rfl rfl (by decide +kernel) ⟨Nat.le_of_ble_eq_true rfl, Nat.le_of_ble_eq_true rfl⟩) hE hP hD hS hA (k_pall _) ((k_pall _).symm) 0 rfl rfl rfl rfl hl.1 rfl (Nat.le_of_ble_eq_true rfl) dL_holds_152 ⟨Nat.le_of_ble_eq_true rfl, Nat.le_of_ble_eq_true rfl⟩ (fun H locs hP hD hS => ?_)
                              have hP : va_P g.1 vwCl ((wU u (ah 0) (a0 0) (at9 0)) ++ ((wH g ah h) ++ ((wT g at9 (sg, (nI n))) ++ ((wK0 g a0 ak ((nI od), (nI sz))) ++ (wHs g ak hs 6))))) _ := hP
                              have hD : va_D A ((wU u (ah 0) (a0 0) (at9 0)) ++ ((wH g ah h) ++ ((wT g at9 (sg, (nI n))) ++ ((wK0 g a0 ak ((nI od), (nI sz))) ++ (wHs g ak hs 6))))) := hD
                              refine k_meet (x := .int (bI ((HfadesIn (i * 6 + j) h) = 0))) (pj := 163) (rest := []) (fun J38 => ?_) ?_
                              ·
                                refine lv_if_ne (tgt := 162) hx hb dL_holds_155 (by decide) (fun c39 => ?_) (fun c39 => ?_)
                                ·
                                  refine lv_iconst (v := (nI 0)) hx hb dL_holds_162 (by decide) ?_
                                  exact k_top (show (nI 0) = (bI ((HfadesIn (i * 6 + j) h) = 0)) from (bI_f c39).symm) J38
                                ·
                                  refine lv_iconst (v := (nI 1)) hx hb dL_holds_158 (by decide) ?_
                                  refine lv_goto (tgt := 163) hx hb dL_holds_159 (by decide) ?_
                                  exact k_top (show (nI 1) = (bI ((HfadesIn (i * 6 + j) h) = 0)) from (bI_t c39).symm) J38
                              ·
                                refine lv_iload hx hb dL_holds_163 (lv_at hl 4 rfl) ?_
                                refine k_meet (x := .int (bI (((hR h) (i * 6 + j)) = 0))) (pj := 173) (rest := [.int (bI ((HfadesIn (i * 6 + j) h) = 0))]) (fun J40 => ?_) ?_
                                ·
                                  refine lv_if_ne (tgt := 172) hx hb dL_holds_165 (by decide) (fun c41 => ?_) (fun c41 => ?_)
                                  ·
                                    refine lv_iconst (v := (nI 0)) hx hb dL_holds_172 (by decide) ?_
                                    exact k_top (show (nI 0) = (bI (((hR h) (i * 6 + j)) = 0)) from (bI_f c41).symm) J40
                                  ·
                                    refine lv_iconst (v := (nI 1)) hx hb dL_holds_168 (by decide) ?_
                                    refine lv_goto (tgt := 173) hx hb dL_holds_169 (by decide) ?_
                                    exact k_top (show (nI 1) = (bI (((hR h) (i * 6 + j)) = 0)) from (bI_t c41).symm) J40
                                ·
                                  refine lv_icmp_eq (tgt := 178) hx hb dL_holds_173 (by decide) (fun c42 => ?_) (fun c42 => ?_)
                                  ·
                                    refine lv_iinc (v := (nI (j + 1))) (lv' := [(3, .int (nI (j + 1))), (1, .int (nI ((Hent (hR h) (i * 6 + j)) + (if ((hR h) (i * 6 + j)) ≤ 0 then 0 else 1)))), (7, .int (bI ((((Hwant h j 8) >>> ((nI i) &&& 31)) &&& (nI 1)) = nI 1))), (6, .int (bI ((((Hget h j 8) >>> ((nI i) &&& 31)) &&& (nI 1)) = nI 1))), (5, .int ((hL h) (i * 6 + j))), (4, .int ((hR h) (i * 6 + j))), (2, .int (nI i)), (0, .ref u)]) hx hb dL_holds_178 hl (k := 5) rfl (k_inc1 _) (by decide) rfl (fun ls hl => ?_)
                                    refine lv_goto (tgt := 12) hx hb dL_holds_181 (by decide) ?_
                                    have e43 : (nI (Hent (hR h) (i * 6 + (j + 1)))) = (nI ((Hent (hR h) (i * 6 + j)) + (if ((hR h) (i * 6 + j)) ≤ 0 then 0 else 1))) := (congrArg nI (ent_s (hR h) (i * 6 + j)))
                                    exact ih11 _ _ _ (by omega) ⟨hP, hD, hS, (by rw [e43]; exact lv_sub hl [0, 6, 1, 7] rfl)⟩
                                  ·
                                    exact absurd (bI_iff (fade_0 hI (by omega))) c42
                          ·
                            refine lv_iconst (v := (nI 1)) hx hb dL_holds_141 (by decide) ?_
                            refine lv_goto (tgt := 146) hx hb dL_holds_142 (by decide) ?_
                            refine lv_icmp_ne (tgt := 176) hx hb dL_holds_146 (by decide) (fun c44 => ?_) (fun c44 => ?_)
                            ·
                              exact absurd (bI_t ((get_bit hI j (by omega)).mpr (Or.inr c36))) c44
                            ·
                              refine lv_aload_n hx hb dL_holds_149 rfl (lv_at hl 7 rfl) ?_
                              refine lv_iload_n hx hb dL_holds_150 rfl (lv_at hl 6 rfl) ?_
                              refine lv_iload_n hx hb dL_holds_151 rfl (lv_at hl 5 rfl) ?_
                              refine k_Vi (As := [.int (nI i), .int (nI j)]) (r := (HfadesIn (i * 6 + j) h)) hF (c_X3_minutesToFade l g u ah at9 a0 ak h sg n od sz hs i j (by omega) (by omega)) (cwV 2 hts gL_holds_X3_minutesToFade rfl rfl rfl (by decide +kernel) ⟨Nat.le_of_ble_eq_true rfl, Nat.le_of_ble_eq_true rfl⟩) hE hP hD hS hA (k_pall _) ((k_pall _).symm) 0 rfl rfl rfl rfl hl.1 rfl (Nat.le_of_ble_eq_true rfl) dL_holds_152 ⟨Nat.le_of_ble_eq_true rfl, Nat.le_of_ble_eq_true rfl⟩ (fun H locs hP hD hS => ?_)
                              have hP : va_P g.1 vwCl ((wU u (ah 0) (a0 0) (at9 0)) ++ ((wH g ah h) ++ ((wT g at9 (sg, (nI n))) ++ ((wK0 g a0 ak ((nI od), (nI sz))) ++ (wHs g ak hs 6))))) _ := hP
                              have hD : va_D A ((wU u (ah 0) (a0 0) (at9 0)) ++ ((wH g ah h) ++ ((wT g at9 (sg, (nI n))) ++ ((wK0 g a0 ak ((nI od), (nI sz))) ++ (wHs g ak hs 6))))) := hD
                              refine k_meet (x := .int (bI ((HfadesIn (i * 6 + j) h) = 0))) (pj := 163) (rest := []) (fun J45 => ?_) ?_
                              ·
                                refine lv_if_ne (tgt := 162) hx hb dL_holds_155 (by decide) (fun c46 => ?_) (fun c46 => ?_)
                                ·
                                  refine lv_iconst (v := (nI 0)) hx hb dL_holds_162 (by decide) ?_
                                  exact k_top (show (nI 0) = (bI ((HfadesIn (i * 6 + j) h) = 0)) from (bI_f c46).symm) J45
                                ·
                                  refine lv_iconst (v := (nI 1)) hx hb dL_holds_158 (by decide) ?_
                                  refine lv_goto (tgt := 163) hx hb dL_holds_159 (by decide) ?_
                                  exact k_top (show (nI 1) = (bI ((HfadesIn (i * 6 + j) h) = 0)) from (bI_t c46).symm) J45
                              ·
                                refine lv_iload hx hb dL_holds_163 (lv_at hl 4 rfl) ?_
                                refine k_meet (x := .int (bI (((hR h) (i * 6 + j)) = 0))) (pj := 173) (rest := [.int (bI ((HfadesIn (i * 6 + j) h) = 0))]) (fun J47 => ?_) ?_
                                ·
                                  refine lv_if_ne (tgt := 172) hx hb dL_holds_165 (by decide) (fun c48 => ?_) (fun c48 => ?_)
                                  ·
                                    refine lv_iconst (v := (nI 0)) hx hb dL_holds_172 (by decide) ?_
                                    exact k_top (show (nI 0) = (bI (((hR h) (i * 6 + j)) = 0)) from (bI_f c48).symm) J47
                                  ·
                                    refine lv_iconst (v := (nI 1)) hx hb dL_holds_168 (by decide) ?_
                                    refine lv_goto (tgt := 173) hx hb dL_holds_169 (by decide) ?_
                                    exact k_top (show (nI 1) = (bI (((hR h) (i * 6 + j)) = 0)) from (bI_t c48).symm) J47
                                ·
                                  refine lv_icmp_eq (tgt := 178) hx hb dL_holds_173 (by decide) (fun c49 => ?_) (fun c49 => ?_)
                                  ·
                                    refine lv_iinc (v := (nI (j + 1))) (lv' := [(3, .int (nI (j + 1))), (1, .int (nI ((Hent (hR h) (i * 6 + j)) + (if ((hR h) (i * 6 + j)) ≤ 0 then 0 else 1)))), (7, .int (bI ((((Hwant h j 8) >>> ((nI i) &&& 31)) &&& (nI 1)) = nI 1))), (6, .int (bI ((((Hget h j 8) >>> ((nI i) &&& 31)) &&& (nI 1)) = nI 1))), (5, .int ((hL h) (i * 6 + j))), (4, .int ((hR h) (i * 6 + j))), (2, .int (nI i)), (0, .ref u)]) hx hb dL_holds_178 hl (k := 5) rfl (k_inc1 _) (by decide) rfl (fun ls hl => ?_)
                                    refine lv_goto (tgt := 12) hx hb dL_holds_181 (by decide) ?_
                                    have e50 : (nI (Hent (hR h) (i * 6 + (j + 1)))) = (nI ((Hent (hR h) (i * 6 + j)) + (if ((hR h) (i * 6 + j)) ≤ 0 then 0 else 1))) := (congrArg nI (ent_s (hR h) (i * 6 + j)))
                                    exact ih11 _ _ _ (by omega) ⟨hP, hD, hS, (by rw [e50]; exact lv_sub hl [0, 6, 1, 7] rfl)⟩
                                  ·
                                    exact absurd (bI_iff (fade_0 hI (by omega))) c49
