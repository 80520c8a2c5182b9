/-! the law's own methods -/
set_option maxHeartbeats 4000000 in
set_option maxRecDepth 100000 in
theorem c_L_act (l : Launch) (g : kG) (u : Nat) (ah at9 a0 : Nat → Nat) (ak : Nat → Nat → Nat) (h : HSt) (sg : Nat → Int32) (n od sz : Nat) (hs : Nat → HSt) (hod : od < 6) (sz5 : sz ≤ 5) (hbo : Hbo h) (hI : Inv h) (v w : Int32) : KI l yL_act wsL_act ({ frames := 4, cells := 0, slots := 0, locals := 126 }) g [.ref u, .int v, .int w] ((wU u (ah 0) (a0 0) (at9 0)) ++ ((wH g ah h) ++ ((wT g at9 (sg, (nI n))) ++ ((wK0 g a0 ak ((nI od), (nI sz))) ++ (wHs g ak hs 6))))) (actA h v w) (wC g u ah at9 a0 ak (actC (h, od, sz, hs, sg, n) v w)) 0 0 := by
  refine k_begin (cc := cL_act) (maxL := 6) (ret := (some .int)) (Qc := fun A => kQi g (actA h v w) (wC g u ah at9 a0 ak (actC (h, od, sz, hs, sg, n) v w)) A) (by decide) rfl (Nat.le_of_ble_eq_true rfl) ?_
  intro p e s m below meth c A ls hF hr hlocks hin hE hP hD hS hA hl
  obtain ⟨hx, hb, hml, hown, hts⟩ := id hF
  have hown : s.vm.findClass RL = some m.cls := hown
  have hl : lv_has ls 6 [(0, .ref u), (1, .int v), (2, .int w)] := hl
  have hr9 := aRow_lt v
  have hc9 := aCol_lt v w
  have hlo := bLoud_lt w
  have hbO := bOpen_lt w
  have hqu := bQuick_lt w
  have hpr := bPres_lt w
  have hub := (aB_and w).2
  have ht1 := lowN_lt w (n := 59) (by decide)
  have ht2 := lowN_lt (w >>> (nI 3 &&& 31)) (n := 10) (by decide)
  have ht3 := lowN_lt (w >>> (nI 6 &&& 31)) (n := 30) (by decide)
  have hpm : 1 ≤ 1 + lowN w (aPn w) ∧ 1 + lowN w (aPn w) ≤ 60 := aPm_b w
  refine lv_iload_n hx hb dL_act_0 rfl (lv_at hl 1 rfl) ?_
  refine lv_iconst (v := (nI 4)) hx hb dL_act_1 (by decide) ?_
  refine lv_ishr hx hb dL_act_2 ?_
  refine lv_iload_n hx hb dL_act_3 rfl (lv_at hl 1 rfl) ?_
  refine lv_bipush (v := (nI 19)) hx hb dL_act_4 (by decide) ?_
  refine lv_ishr hx hb dL_act_6 ?_
  refine lv_iconst (v := (nI 1)) hx hb dL_act_7 (by decide) ?_
  refine lv_iand hx hb dL_act_8 ?_
  refine k_meet (x := .int (nI (aRn v))) (pj := 18) (rest := [.int (v >>> ((nI 4) &&& 31))]) (fun J1 => ?_) ?_
  ·
    refine lv_if_ne (tgt := 16) hx hb dL_act_9 (by decide) (fun c2 => ?_) (fun c2 => ?_)
    ·
      refine lv_bipush (v := (nI 8)) hx hb dL_act_16 (by decide) ?_
      exact k_top (congrArg nI (show 8 = aRn v from (if_neg c2).symm)) J1
    ·
      refine lv_iconst (v := (nI 3)) hx hb dL_act_12 (by decide) ?_
      refine lv_goto (tgt := 18) hx hb dL_act_13 (by decide) ?_
      exact k_top (congrArg nI (show 3 = aRn v from (if_pos c2).symm)) J1
  ·
    refine k_Si (w0 := []) (w1 := []) (As := [.int (v >>> ((nI 4) &&& 31)), .int (nI (aRn v))]) (r := (nI (lowN (v >>> ((nI 4) &&& 31)) (aRn v)))) hF (c_L_low l g (v >>> ((nI 4) &&& 31)) (aRn v) (aRn_b v).1 (Nat.le_trans (aRn_b v).2 (by decide))) (va_cwS 2 hts gL_act_L_low rfl rfl rfl (by decide +kernel) ⟨Nat.le_of_ble_eq_true rfl, Nat.le_of_ble_eq_true rfl⟩) hE hP hD hS hA (List.Perm.refl _) (List.Perm.refl _) rfl hl.1 rfl (Nat.le_of_ble_eq_true rfl) dL_act_18 ⟨Nat.le_of_ble_eq_true rfl, Nat.le_of_ble_eq_true rfl⟩ (fun H locs hP hD hS => ?_)
    have hP : va_P g.1 vwCl ((wU u (ah 0) (a0 0) (at9 0)) ++ ((wH g ah h) ++ ((wT g at9 (sg, (nI n))) ++ ((wK0 g a0 ak ((nI od), (nI sz))) ++ (wHs g ak hs 6))))) _ := hP
    have hD : va_D A ((wU u (ah 0) (a0 0) (at9 0)) ++ ((wH g ah h) ++ ((wT g at9 (sg, (nI n))) ++ ((wK0 g a0 ak ((nI od), (nI sz))) ++ (wHs g ak hs 6))))) := hD
    refine k_top (show (nI (lowN (v >>> ((nI 4) &&& 31)) (aRn v))) = (nI (aRow v)) from rfl) ?_
    refine lv_istore_n (lv' := [(3, .int (nI (aRow v))), (0, .ref u), (1, .int v), (2, .int w)]) hx hb dL_act_21 rfl hl (by decide) rfl (fun ls hl => ?_)
    refine lv_iload_n hx hb dL_act_22 rfl (lv_at hl 3 rfl) ?_
    refine lv_iload_n hx hb dL_act_23 rfl (lv_at hl 2 rfl) ?_
    refine lv_bipush (v := (nI 20)) hx hb dL_act_24 (by decide) ?_
    refine lv_ishr hx hb dL_act_26 ?_
    refine lv_iconst (v := (nI 1)) hx hb dL_act_27 (by decide) ?_
    refine lv_iand hx hb dL_act_28 ?_
    refine k_meet (x := .int (nI (aCn v))) (pj := 38) (rest := [.int w]) (fun J3 => ?_) ?_
    ·
      refine lv_if_ne (tgt := 36) hx hb dL_act_29 (by decide) (fun c4 => ?_) (fun c4 => ?_)
      ·
        refine lv_bipush (v := (nI 6)) hx hb dL_act_36 (by decide) ?_
        exact k_top (congrArg nI (show 6 = aCn v from (if_neg c4).symm)) J3
      ·
        refine lv_iconst (v := (nI 2)) hx hb dL_act_32 (by decide) ?_
        refine lv_goto (tgt := 38) hx hb dL_act_33 (by decide) ?_
        exact k_top (congrArg nI (show 2 = aCn v from (if_pos c4).symm)) J3
    ·
      refine k_Si (w0 := []) (w1 := []) (As := [.int w, .int (nI (aCn v))]) (r := (nI (lowN w (aCn v)))) hF (c_L_low l g w (aCn v) (aCn_b v).1 (Nat.le_trans (aCn_b v).2 (by decide))) (va_cwS 2 hts gL_act_L_low rfl rfl rfl (by decide +kernel) ⟨Nat.le_of_ble_eq_true rfl, Nat.le_of_ble_eq_true rfl⟩) hE hP hD hS hA (List.Perm.refl _) (List.Perm.refl _) rfl hl.1 rfl (Nat.le_of_ble_eq_true rfl) dL_act_38 ⟨Nat.le_of_ble_eq_true rfl, Nat.le_of_ble_eq_true rfl⟩ (fun H locs hP hD hS => ?_)
      have hP : va_P g.1 vwCl ((wU u (ah 0) (a0 0) (at9 0)) ++ ((wH g ah h) ++ ((wT g at9 (sg, (nI n))) ++ ((wK0 g a0 ak ((nI od), (nI sz))) ++ (wHs g ak hs 6))))) _ := hP
      have hD : va_D A ((wU u (ah 0) (a0 0) (at9 0)) ++ ((wH g ah h) ++ ((wT g at9 (sg, (nI n))) ++ ((wK0 g a0 ak ((nI od), (nI sz))) ++ (wHs g ak hs 6))))) := hD
      refine k_top (show (nI (lowN w (aCn v))) = (nI (aCol v w)) from rfl) ?_
      refine lv_istore (lv' := [(4, .int (nI (aCol v w))), (3, .int (nI (aRow v))), (0, .ref u), (1, .int v), (2, .int w)]) hx hb dL_act_41 hl (by decide) rfl (fun ls hl => ?_)
      refine lv_aload_n hx hb dL_act_43 rfl (lv_at hl 2 rfl) ?_
      refine lv_iload_n hx hb dL_act_44 rfl (lv_at hl 1 rfl) ?_
      refine lv_iload hx hb dL_act_45 (lv_at hl 0 rfl) ?_
      refine k_Vi (As := [.int (nI (aRow v)), .int (nI (aCol v w))]) (r := ((hL h) ((aRow v) * 6 + (aCol v w)))) hF (c_X3_listeners l g u ah at9 a0 ak h sg n od sz hs (aRow v) (aCol v w) (by omega) (by omega)) (cwV 2 hts gL_act_X3_listeners rfl rfl rfl (by decide +kernel) ⟨Nat.le_of_ble_eq_true rfl, Nat.le_of_ble_eq_true rfl⟩) hE hP hD hS hA (k_pall _) ((k_pall _).symm) 0 rfl rfl rfl rfl hl.1 rfl (Nat.le_of_ble_eq_true rfl) dL_act_47 ⟨Nat.le_of_ble_eq_true rfl, Nat.le_of_ble_eq_true rfl⟩ (fun H locs hP hD hS => ?_)
      have hP : va_P g.1 vwCl ((wU u (ah 0) (a0 0) (at9 0)) ++ ((wH g ah h) ++ ((wT g at9 (sg, (nI n))) ++ ((wK0 g a0 ak ((nI od), (nI sz))) ++ (wHs g ak hs 6))))) _ := hP
      have hD : va_D A ((wU u (ah 0) (a0 0) (at9 0)) ++ ((wH g ah h) ++ ((wT g at9 (sg, (nI n))) ++ ((wK0 g a0 ak ((nI od), (nI sz))) ++ (wHs g ak hs 6))))) := hD
      obtain ⟨L9, hL9, eL9⟩ := hI.1 (aRow v * 6 + aCol v w) (by omega)
      refine k_top eL9 ?_
      refine lv_istore (lv' := [(5, .int (nI L9)), (4, .int (nI (aCol v w))), (3, .int (nI (aRow v))), (0, .ref u), (1, .int v), (2, .int w)]) hx hb dL_act_50 hl (by decide) rfl (fun ls hl => ?_)
      refine lv_iload_n hx hb dL_act_52 rfl (lv_at hl 4 rfl) ?_
      refine lv_bipush (v := (nI 15)) hx hb dL_act_53 (by decide) ?_
      refine lv_iand hx hb dL_act_55 ?_
      obtain ⟨ea, la⟩ := aT_and v
      refine k_top ea ?_
      rcases (by omega : aT v = 0 ∨ aT v = 1 ∨ aT v = 2 ∨ aT v = 3 ∨ aT v = 4 ∨ aT v = 5 ∨ aT v = 6 ∨ aT v = 7 ∨ aT v = 8 ∨ aT v = 9 ∨ aT v = 10 ∨ aT v = 11 ∨ aT v = 12 ∨ aT v = 13 ∨ aT v = 14 ∨ aT v = 15) with q9 | q9 | q9 | q9 | q9 | q9 | q9 | q9 | q9 | q9 | q9 | q9 | q9 | q9 | q9 | q9
      ·
        refine k_top (show nI (aT v) = nI 0 by rw [q9]) ?_
        refine lv_tableIn (off := 72) (tgt := 128) hx hb dL_act_56 (by decide) (by decide) (by decide) (by decide) ?_
        refine lv_iload hx hb dL_act_128 (lv_at hl 0 rfl) ?_
        refine lv_bipush (v := (nI 9)) hx hb dL_act_130 (by decide) ?_
        refine k_neN (tgt := 140) hx hb (by omega) (by decide) dL_act_132 (by decide) (fun c5 => ?_) (fun c5 => ?_)
        ·
          have h8 : ¬ hL h (aPl v w) = nI 9 := fun z => c5 ((nI_eq (by omega) (by decide)).mp (eL9.symm.trans z))
          have h9 : ¬ nI 9 ≤ (hL h) (aRow v * 6 + aCol v w) := no_9 hI (by omega) h8
          have hN : ¬ aNo h v w := fun z => z.elim (fun y => h8 y.2) (fun y => absurd y.1.1 (by omega))
          refine lv_aload_n hx hb dL_act_140 rfl (lv_at hl 3 rfl) ?_
          refine lv_iload_n hx hb dL_act_141 rfl (lv_at hl 2 rfl) ?_
          refine lv_iload hx hb dL_act_142 (lv_at hl 1 rfl) ?_
          refine k_Vi (As := [.int (nI (aRow v)), .int (nI (aCol v w))]) (r := (hL (Hseat ((aRow v) * 6 + (aCol v w)) h) ((aRow v) * 6 + (aCol v w)))) hF (c_X3_come l g u ah at9 a0 ak h sg n od sz hs (by omega) (by omega) hbo (aRow v) (aCol v w) (by omega) (by omega) h9) (cwV 2 hts gL_act_X3_come rfl rfl rfl (by decide +kernel) ⟨Nat.le_of_ble_eq_true rfl, Nat.le_of_ble_eq_true rfl⟩) hE hP hD hS hA (k_pall _) ((k_pall _).symm) 0 rfl rfl rfl rfl hl.1 rfl (Nat.le_of_ble_eq_true rfl) dL_act_144 ⟨Nat.le_of_ble_eq_true rfl, Nat.le_of_ble_eq_true rfl⟩ (fun H locs hP hD hS => ?_)
          have hP : va_P g.1 vwCl ((wU u (ah 0) (a0 0) (at9 0)) ++ ((wH g ah (Hseat ((aRow v) * 6 + (aCol v w)) h)) ++ ((wT g at9 (sg, (nI n))) ++ ((wK0 g a0 ak ((nI od), (nI (sz + 1)))) ++ (wHs g ak (va_up hs ((od + sz) % 6) h) 6))))) _ := hP
          have hD : va_D A ((wU u (ah 0) (a0 0) (at9 0)) ++ ((wH g ah (Hseat ((aRow v) * 6 + (aCol v w)) h)) ++ ((wT g at9 (sg, (nI n))) ++ ((wK0 g a0 ak ((nI od), (nI (sz + 1)))) ++ (wHs g ak (va_up hs ((od + sz) % 6) h) 6))))) := hD
          obtain ⟨z6, ez6⟩ : ∃ x : HSt, (Hseat ((aRow v) * 6 + (aCol v w)) h) = x := ⟨_, rfl⟩
          rw [ez6] at hP hD
          have e9 : actH h v w = z6 := by rw [← ez6]; unfold actH; rw [q9]; all_goals rfl
          have e8 : actC (h, od, sz, hs, sg, n) v w = k5 (h, od, sz, hs, sg, n) z6 := (if_neg hN).trans (congrArg (k5 (h, od, sz, hs, sg, n)) e9)
          have hP : va_P g.1 vwCl (wC g u ah at9 a0 ak (actC (h, od, sz, hs, sg, n) v w)) H := by rw [e8]; exact hP
          have hD : va_D A (wC g u ah at9 a0 ak (actC (h, od, sz, hs, sg, n) v w)) := by rw [e8]; exact hD
          exact k_iret hx hb hr hlocks rfl (((if_neg hN : actA h v w = actR h v w).trans ((show actR h v w = (hL (Hseat ((aRow v) * 6 + (aCol v w)) h) ((aRow v) * 6 + (aCol v w))) from by unfold actR; rw [q9]; all_goals rfl))).symm) hP hD hS (Nat.le_of_ble_eq_true rfl) (Nat.le_of_ble_eq_true rfl) dL_act_147
        ·
          have hY : aNo h v w := Or.inl ⟨by omega, eL9.trans (congrArg nI c5)⟩
          refine lv_bipush (v := (-9)) hx hb dL_act_135 (by decide) ?_
          refine lv_goto (tgt := 147) hx hb dL_act_137 (by decide) ?_
          have e8 : actC (h, od, sz, hs, sg, n) v w = (h, od, sz, hs, sg, n) := if_pos hY
          have hP : va_P g.1 vwCl (wC g u ah at9 a0 ak (actC (h, od, sz, hs, sg, n) v w)) H := by rw [e8]; exact hP
          have hD : va_D A (wC g u ah at9 a0 ak (actC (h, od, sz, hs, sg, n) v w)) := by rw [e8]; exact hD
          exact k_iret hx hb hr hlocks rfl (if_pos hY).symm hP hD hS (Nat.le_of_ble_eq_true rfl) (Nat.le_of_ble_eq_true rfl) dL_act_147
      ·
        refine k_top (show nI (aT v) = nI 1 by rw [q9]) ?_
        refine lv_tableIn (off := 72) (tgt := 128) hx hb dL_act_56 (by decide) (by decide) (by decide) (by decide) ?_
        refine lv_iload hx hb dL_act_128 (lv_at hl 0 rfl) ?_
        refine lv_bipush (v := (nI 9)) hx hb dL_act_130 (by decide) ?_
        refine k_neN (tgt := 140) hx hb (by omega) (by decide) dL_act_132 (by decide) (fun c7 => ?_) (fun c7 => ?_)
        ·
          have h8 : ¬ hL h (aPl v w) = nI 9 := fun z => c7 ((nI_eq (by omega) (by decide)).mp (eL9.symm.trans z))
          have h9 : ¬ nI 9 ≤ (hL h) (aRow v * 6 + aCol v w) := no_9 hI (by omega) h8
          have hN : ¬ aNo h v w := fun z => z.elim (fun y => h8 y.2) (fun y => absurd y.1.1 (by omega))
          refine lv_aload_n hx hb dL_act_140 rfl (lv_at hl 3 rfl) ?_
          refine lv_iload_n hx hb dL_act_141 rfl (lv_at hl 2 rfl) ?_
          refine lv_iload hx hb dL_act_142 (lv_at hl 1 rfl) ?_
          refine k_Vi (As := [.int (nI (aRow v)), .int (nI (aCol v w))]) (r := (hL (Hseat ((aRow v) * 6 + (aCol v w)) h) ((aRow v) * 6 + (aCol v w)))) hF (c_X3_come l g u ah at9 a0 ak h sg n od sz hs (by omega) (by omega) hbo (aRow v) (aCol v w) (by omega) (by omega) h9) (cwV 2 hts gL_act_X3_come rfl rfl rfl (by decide +kernel) ⟨Nat.le_of_ble_eq_true rfl, Nat.le_of_ble_eq_true rfl⟩) hE hP hD hS hA (k_pall _) ((k_pall _).symm) 0 rfl rfl rfl rfl hl.1 rfl (Nat.le_of_ble_eq_true rfl) dL_act_144 ⟨Nat.le_of_ble_eq_true rfl, Nat.le_of_ble_eq_true rfl⟩ (fun H locs hP hD hS => ?_)
          have hP : va_P g.1 vwCl ((wU u (ah 0) (a0 0) (at9 0)) ++ ((wH g ah (Hseat ((aRow v) * 6 + (aCol v w)) h)) ++ ((wT g at9 (sg, (nI n))) ++ ((wK0 g a0 ak ((nI od), (nI (sz + 1)))) ++ (wHs g ak (va_up hs ((od + sz) % 6) h) 6))))) _ := hP
          have hD : va_D A ((wU u (ah 0) (a0 0) (at9 0)) ++ ((wH g ah (Hseat ((aRow v) * 6 + (aCol v w)) h)) ++ ((wT g at9 (sg, (nI n))) ++ ((wK0 g a0 ak ((nI od), (nI (sz + 1)))) ++ (wHs g ak (va_up hs ((od + sz) % 6) h) 6))))) := hD
          obtain ⟨z10, ez10⟩ : ∃ x : HSt, (Hseat ((aRow v) * 6 + (aCol v w)) h) = x := ⟨_, rfl⟩
          rw [ez10] at hP hD
          have e9 : actH h v w = z10 := by rw [← ez10]; unfold actH; rw [q9]; all_goals rfl
          have e8 : actC (h, od, sz, hs, sg, n) v w = k5 (h, od, sz, hs, sg, n) z10 := (if_neg hN).trans (congrArg (k5 (h, od, sz, hs, sg, n)) e9)
          have hP : va_P g.1 vwCl (wC g u ah at9 a0 ak (actC (h, od, sz, hs, sg, n) v w)) H := by rw [e8]; exact hP
          have hD : va_D A (wC g u ah at9 a0 ak (actC (h, od, sz, hs, sg, n) v w)) := by rw [e8]; exact hD
          exact k_iret hx hb hr hlocks rfl (((if_neg hN : actA h v w = actR h v w).trans ((show actR h v w = (hL (Hseat ((aRow v) * 6 + (aCol v w)) h) ((aRow v) * 6 + (aCol v w))) from by unfold actR; rw [q9]; all_goals rfl))).symm) hP hD hS (Nat.le_of_ble_eq_true rfl) (Nat.le_of_ble_eq_true rfl) dL_act_147
        ·
          have hY : aNo h v w := Or.inl ⟨by omega, eL9.trans (congrArg nI c7)⟩
          refine lv_bipush (v := (-9)) hx hb dL_act_135 (by decide) ?_
          refine lv_goto (tgt := 147) hx hb dL_act_137 (by decide) ?_
          have e8 : actC (h, od, sz, hs, sg, n) v w = (h, od, sz, hs, sg, n) := if_pos hY
          have hP : va_P g.1 vwCl (wC g u ah at9 a0 ak (actC (h, od, sz, hs, sg, n) v w)) H := by rw [e8]; exact hP
          have hD : va_D A (wC g u ah at9 a0 ak (actC (h, od, sz, hs, sg, n) v w)) := by rw [e8]; exact hD
          exact k_iret hx hb hr hlocks rfl (if_pos hY).symm hP hD hS (Nat.le_of_ble_eq_true rfl) (Nat.le_of_ble_eq_true rfl) dL_act_147
      ·
        refine k_top (show nI (aT v) = nI 2 by rw [q9]) ?_
        refine lv_tableIn (off := 72) (tgt := 128) hx hb dL_act_56 (by decide) (by decide) (by decide) (by decide) ?_
        refine lv_iload hx hb dL_act_128 (lv_at hl 0 rfl) ?_
        refine lv_bipush (v := (nI 9)) hx hb dL_act_130 (by decide) ?_
        refine k_neN (tgt := 140) hx hb (by omega) (by decide) dL_act_132 (by decide) (fun c11 => ?_) (fun c11 => ?_)
        ·
          have h8 : ¬ hL h (aPl v w) = nI 9 := fun z => c11 ((nI_eq (by omega) (by decide)).mp (eL9.symm.trans z))
          have h9 : ¬ nI 9 ≤ (hL h) (aRow v * 6 + aCol v w) := no_9 hI (by omega) h8
          have hN : ¬ aNo h v w := fun z => z.elim (fun y => h8 y.2) (fun y => absurd y.1.1 (by omega))
          refine lv_aload_n hx hb dL_act_140 rfl (lv_at hl 3 rfl) ?_
          refine lv_iload_n hx hb dL_act_141 rfl (lv_at hl 2 rfl) ?_
          refine lv_iload hx hb dL_act_142 (lv_at hl 1 rfl) ?_
          refine k_Vi (As := [.int (nI (aRow v)), .int (nI (aCol v w))]) (r := (hL (Hseat ((aRow v) * 6 + (aCol v w)) h) ((aRow v) * 6 + (aCol v w)))) hF (c_X3_come l g u ah at9 a0 ak h sg n od sz hs (by omega) (by omega) hbo (aRow v) (aCol v w) (by omega) (by omega) h9) (cwV 2 hts gL_act_X3_come rfl rfl rfl (by decide +kernel) ⟨Nat.le_of_ble_eq_true rfl, Nat.le_of_ble_eq_true rfl⟩) hE hP hD hS hA (k_pall _) ((k_pall _).symm) 0 rfl rfl rfl rfl hl.1 rfl (Nat.le_of_ble_eq_true rfl) dL_act_144 ⟨Nat.le_of_ble_eq_true rfl, Nat.le_of_ble_eq_true rfl⟩ (fun H locs hP hD hS => ?_)
          have hP : va_P g.1 vwCl ((wU u (ah 0) (a0 0) (at9 0)) ++ ((wH g ah (Hseat ((aRow v) * 6 + (aCol v w)) h)) ++ ((wT g at9 (sg, (nI n))) ++ ((wK0 g a0 ak ((nI od), (nI (sz + 1)))) ++ (wHs g ak (va_up hs ((od + sz) % 6) h) 6))))) _ := hP
          have hD : va_D A ((wU u (ah 0) (a0 0) (at9 0)) ++ ((wH g ah (Hseat ((aRow v) * 6 + (aCol v w)) h)) ++ ((wT g at9 (sg, (nI n))) ++ ((wK0 g a0 ak ((nI od), (nI (sz + 1)))) ++ (wHs g ak (va_up hs ((od + sz) % 6) h) 6))))) := hD
          obtain ⟨z12, ez12⟩ : ∃ x : HSt, (Hseat ((aRow v) * 6 + (aCol v w)) h) = x := ⟨_, rfl⟩
          rw [ez12] at hP hD
          have e9 : actH h v w = z12 := by rw [← ez12]; unfold actH; rw [q9]; all_goals rfl
          have e8 : actC (h, od, sz, hs, sg, n) v w = k5 (h, od, sz, hs, sg, n) z12 := (if_neg hN).trans (congrArg (k5 (h, od, sz, hs, sg, n)) e9)
          have hP : va_P g.1 vwCl (wC g u ah at9 a0 ak (actC (h, od, sz, hs, sg, n) v w)) H := by rw [e8]; exact hP
          have hD : va_D A (wC g u ah at9 a0 ak (actC (h, od, sz, hs, sg, n) v w)) := by rw [e8]; exact hD
          exact k_iret hx hb hr hlocks rfl (((if_neg hN : actA h v w = actR h v w).trans ((show actR h v w = (hL (Hseat ((aRow v) * 6 + (aCol v w)) h) ((aRow v) * 6 + (aCol v w))) from by unfold actR; rw [q9]; all_goals rfl))).symm) hP hD hS (Nat.le_of_ble_eq_true rfl) (Nat.le_of_ble_eq_true rfl) dL_act_147
        ·
          have hY : aNo h v w := Or.inl ⟨by omega, eL9.trans (congrArg nI c11)⟩
          refine lv_bipush (v := (-9)) hx hb dL_act_135 (by decide) ?_
          refine lv_goto (tgt := 147) hx hb dL_act_137 (by decide) ?_
          have e8 : actC (h, od, sz, hs, sg, n) v w = (h, od, sz, hs, sg, n) := if_pos hY
          have hP : va_P g.1 vwCl (wC g u ah at9 a0 ak (actC (h, od, sz, hs, sg, n) v w)) H := by rw [e8]; exact hP
          have hD : va_D A (wC g u ah at9 a0 ak (actC (h, od, sz, hs, sg, n) v w)) := by rw [e8]; exact hD
          exact k_iret hx hb hr hlocks rfl (if_pos hY).symm hP hD hS (Nat.le_of_ble_eq_true rfl) (Nat.le_of_ble_eq_true rfl) dL_act_147
      ·
        refine k_top (show nI (aT v) = nI 3 by rw [q9]) ?_
        refine lv_tableIn (off := 72) (tgt := 128) hx hb dL_act_56 (by decide) (by decide) (by decide) (by decide) ?_
        refine lv_iload hx hb dL_act_128 (lv_at hl 0 rfl) ?_
        refine lv_bipush (v := (nI 9)) hx hb dL_act_130 (by decide) ?_
        refine k_neN (tgt := 140) hx hb (by omega) (by decide) dL_act_132 (by decide) (fun c13 => ?_) (fun c13 => ?_)
        ·
          have h8 : ¬ hL h (aPl v w) = nI 9 := fun z => c13 ((nI_eq (by omega) (by decide)).mp (eL9.symm.trans z))
          have h9 : ¬ nI 9 ≤ (hL h) (aRow v * 6 + aCol v w) := no_9 hI (by omega) h8
          have hN : ¬ aNo h v w := fun z => z.elim (fun y => h8 y.2) (fun y => absurd y.1.1 (by omega))
          refine lv_aload_n hx hb dL_act_140 rfl (lv_at hl 3 rfl) ?_
          refine lv_iload_n hx hb dL_act_141 rfl (lv_at hl 2 rfl) ?_
          refine lv_iload hx hb dL_act_142 (lv_at hl 1 rfl) ?_
          refine k_Vi (As := [.int (nI (aRow v)), .int (nI (aCol v w))]) (r := (hL (Hseat ((aRow v) * 6 + (aCol v w)) h) ((aRow v) * 6 + (aCol v w)))) hF (c_X3_come l g u ah at9 a0 ak h sg n od sz hs (by omega) (by omega) hbo (aRow v) (aCol v w) (by omega) (by omega) h9) (cwV 2 hts gL_act_X3_come rfl rfl rfl (by decide +kernel) ⟨Nat.le_of_ble_eq_true rfl, Nat.le_of_ble_eq_true rfl⟩) hE hP hD hS hA (k_pall _) ((k_pall _).symm) 0 rfl rfl rfl rfl hl.1 rfl (Nat.le_of_ble_eq_true rfl) dL_act_144 ⟨Nat.le_of_ble_eq_true rfl, Nat.le_of_ble_eq_true rfl⟩ (fun H locs hP hD hS => ?_)
          have hP : va_P g.1 vwCl ((wU u (ah 0) (a0 0) (at9 0)) ++ ((wH g ah (Hseat ((aRow v) * 6 + (aCol v w)) h)) ++ ((wT g at9 (sg, (nI n))) ++ ((wK0 g a0 ak ((nI od), (nI (sz + 1)))) ++ (wHs g ak (va_up hs ((od + sz) % 6) h) 6))))) _ := hP
          have hD : va_D A ((wU u (ah 0) (a0 0) (at9 0)) ++ ((wH g ah (Hseat ((aRow v) * 6 + (aCol v w)) h)) ++ ((wT g at9 (sg, (nI n))) ++ ((wK0 g a0 ak ((nI od), (nI (sz + 1)))) ++ (wHs g ak (va_up hs ((od + sz) % 6) h) 6))))) := hD
          obtain ⟨z14, ez14⟩ : ∃ x : HSt, (Hseat ((aRow v) * 6 + (aCol v w)) h) = x := ⟨_, rfl⟩
          rw [ez14] at hP hD
          have e9 : actH h v w = z14 := by rw [← ez14]; unfold actH; rw [q9]; all_goals rfl
          have e8 : actC (h, od, sz, hs, sg, n) v w = k5 (h, od, sz, hs, sg, n) z14 := (if_neg hN).trans (congrArg (k5 (h, od, sz, hs, sg, n)) e9)
          have hP : va_P g.1 vwCl (wC g u ah at9 a0 ak (actC (h, od, sz, hs, sg, n) v w)) H := by rw [e8]; exact hP
          have hD : va_D A (wC g u ah at9 a0 ak (actC (h, od, sz, hs, sg, n) v w)) := by rw [e8]; exact hD
          exact k_iret hx hb hr hlocks rfl (((if_neg hN : actA h v w = actR h v w).trans ((show actR h v w = (hL (Hseat ((aRow v) * 6 + (aCol v w)) h) ((aRow v) * 6 + (aCol v w))) from by unfold actR; rw [q9]; all_goals rfl))).symm) hP hD hS (Nat.le_of_ble_eq_true rfl) (Nat.le_of_ble_eq_true rfl) dL_act_147
        ·
          have hY : aNo h v w := Or.inl ⟨by omega, eL9.trans (congrArg nI c13)⟩
          refine lv_bipush (v := (-9)) hx hb dL_act_135 (by decide) ?_
          refine lv_goto (tgt := 147) hx hb dL_act_137 (by decide) ?_
          have e8 : actC (h, od, sz, hs, sg, n) v w = (h, od, sz, hs, sg, n) := if_pos hY
          have hP : va_P g.1 vwCl (wC g u ah at9 a0 ak (actC (h, od, sz, hs, sg, n) v w)) H := by rw [e8]; exact hP
          have hD : va_D A (wC g u ah at9 a0 ak (actC (h, od, sz, hs, sg, n) v w)) := by rw [e8]; exact hD
          exact k_iret hx hb hr hlocks rfl (if_pos hY).symm hP hD hS (Nat.le_of_ble_eq_true rfl) (Nat.le_of_ble_eq_true rfl) dL_act_147
      ·
        refine k_top (show nI (aT v) = nI 4 by rw [q9]) ?_
        refine lv_tableIn (off := 92) (tgt := 148) hx hb dL_act_56 (by decide) (by decide) (by decide) (by decide) ?_
        refine lv_iload hx hb dL_act_148 (lv_at hl 0 rfl) ?_
        refine k_ifn0 (tgt := 158) hx hb (by omega) dL_act_150 (by decide) (fun c15 => ?_) (fun c15 => ?_)
        ·
          have h8 : ¬ hL h (aPl v w) = nI 0 := fun z => c15 ((nI_eq (by omega) (by decide)).mp (eL9.symm.trans z))
          have h9 : ¬ (hL h) (aRow v * 6 + aCol v w) ≤ 0 := no_0 hI (by omega) h8
          have hN : ¬ aNo h v w := fun z => z.elim (fun y => absurd y.1 (by omega)) (fun y => h8 y.2)
          refine lv_aload_n hx hb dL_act_158 rfl (lv_at hl 3 rfl) ?_
          refine lv_iload_n hx hb dL_act_159 rfl (lv_at hl 2 rfl) ?_
          refine lv_iload hx hb dL_act_160 (lv_at hl 1 rfl) ?_
          refine lv_iload_n hx hb dL_act_162 rfl (lv_at hl 5 rfl) ?_
          refine lv_iconst (v := (nI 4)) hx hb dL_act_163 (by decide) ?_
          refine lv_ishr hx hb dL_act_164 ?_
          refine lv_iconst (v := (nI 3)) hx hb dL_act_165 (by decide) ?_
          refine lv_iand hx hb dL_act_166 ?_
          refine k_meet (x := .int (nI (bLoud w))) (pj := 175) (rest := [.int (nI (aCol v w)), .int (nI (aRow v)), .ref u]) (fun J16 => ?_) ?_
          ·
            refine lv_if_le (tgt := 174) hx hb dL_act_167 (by decide) (fun c17 => ?_) (fun c17 => ?_)
            ·
              refine lv_iconst (v := (nI 0)) hx hb dL_act_174 (by decide) ?_
              exact k_top (congrArg nI (show 0 = bLoud w from (if_pos c17).symm)) J16
            ·
              refine lv_iconst (v := (nI 1)) hx hb dL_act_170 (by decide) ?_
              refine lv_goto (tgt := 175) hx hb dL_act_171 (by decide) ?_
              exact k_top (congrArg nI (show 1 = bLoud w from (if_neg c17).symm)) J16
          ·
            refine k_Vi (As := [.int (nI (aRow v)), .int (nI (aCol v w)), .int (nI (bLoud w))]) (r := (hL (Hunseat ((aRow v) * 6 + (aCol v w)) (bLoud w) h) ((aRow v) * 6 + (aCol v w)))) hF (c_X3_leave l g u ah at9 a0 ak h sg n od sz hs (by omega) (by omega) hbo (aRow v) (aCol v w) (by omega) (by omega) (bLoud w) (by omega) h9) (cwV 3 hts gL_act_X3_leave rfl rfl rfl (by decide +kernel) ⟨Nat.le_of_ble_eq_true rfl, Nat.le_of_ble_eq_true rfl⟩) hE hP hD hS hA (k_pall _) ((k_pall _).symm) 0 rfl rfl rfl rfl hl.1 rfl (Nat.le_of_ble_eq_true rfl) dL_act_175 ⟨Nat.le_of_ble_eq_true rfl, Nat.le_of_ble_eq_true rfl⟩ (fun H locs hP hD hS => ?_)
            have hP : va_P g.1 vwCl ((wU u (ah 0) (a0 0) (at9 0)) ++ ((wH g ah (Hunseat ((aRow v) * 6 + (aCol v w)) (bLoud w) h)) ++ ((wT g at9 (sg, (nI n))) ++ ((wK0 g a0 ak ((nI od), (nI (sz + 1)))) ++ (wHs g ak (va_up hs ((od + sz) % 6) h) 6))))) _ := hP
            have hD : va_D A ((wU u (ah 0) (a0 0) (at9 0)) ++ ((wH g ah (Hunseat ((aRow v) * 6 + (aCol v w)) (bLoud w) h)) ++ ((wT g at9 (sg, (nI n))) ++ ((wK0 g a0 ak ((nI od), (nI (sz + 1)))) ++ (wHs g ak (va_up hs ((od + sz) % 6) h) 6))))) := hD
            obtain ⟨z18, ez18⟩ : ∃ x : HSt, (Hunseat ((aRow v) * 6 + (aCol v w)) (bLoud w) h) = x := ⟨_, rfl⟩
            rw [ez18] at hP hD
            have e9 : actH h v w = z18 := by rw [← ez18]; unfold actH; rw [q9]; all_goals rfl
            have e8 : actC (h, od, sz, hs, sg, n) v w = k5 (h, od, sz, hs, sg, n) z18 := (if_neg hN).trans (congrArg (k5 (h, od, sz, hs, sg, n)) e9)
            have hP : va_P g.1 vwCl (wC g u ah at9 a0 ak (actC (h, od, sz, hs, sg, n) v w)) H := by rw [e8]; exact hP
            have hD : va_D A (wC g u ah at9 a0 ak (actC (h, od, sz, hs, sg, n) v w)) := by rw [e8]; exact hD
            exact k_iret hx hb hr hlocks rfl (((if_neg hN : actA h v w = actR h v w).trans ((show actR h v w = (hL (Hunseat ((aRow v) * 6 + (aCol v w)) (bLoud w) h) ((aRow v) * 6 + (aCol v w))) from by unfold actR; rw [q9]; all_goals rfl))).symm) hP hD hS (Nat.le_of_ble_eq_true rfl) (Nat.le_of_ble_eq_true rfl) dL_act_178
        ·
          have hY : aNo h v w := Or.inr ⟨⟨by omega, by omega⟩, eL9.trans (congrArg nI c15)⟩
          refine lv_bipush (v := (-9)) hx hb dL_act_153 (by decide) ?_
          refine lv_goto (tgt := 178) hx hb dL_act_155 (by decide) ?_
          have e8 : actC (h, od, sz, hs, sg, n) v w = (h, od, sz, hs, sg, n) := if_pos hY
          have hP : va_P g.1 vwCl (wC g u ah at9 a0 ak (actC (h, od, sz, hs, sg, n) v w)) H := by rw [e8]; exact hP
          have hD : va_D A (wC g u ah at9 a0 ak (actC (h, od, sz, hs, sg, n) v w)) := by rw [e8]; exact hD
          exact k_iret hx hb hr hlocks rfl (if_pos hY).symm hP hD hS (Nat.le_of_ble_eq_true rfl) (Nat.le_of_ble_eq_true rfl) dL_act_178
      ·
        refine k_top (show nI (aT v) = nI 5 by rw [q9]) ?_
        refine lv_tableIn (off := 92) (tgt := 148) hx hb dL_act_56 (by decide) (by decide) (by decide) (by decide) ?_
        refine lv_iload hx hb dL_act_148 (lv_at hl 0 rfl) ?_
        refine k_ifn0 (tgt := 158) hx hb (by omega) dL_act_150 (by decide) (fun c19 => ?_) (fun c19 => ?_)
        ·
          have h8 : ¬ hL h (aPl v w) = nI 0 := fun z => c19 ((nI_eq (by omega) (by decide)).mp (eL9.symm.trans z))
          have h9 : ¬ (hL h) (aRow v * 6 + aCol v w) ≤ 0 := no_0 hI (by omega) h8
          have hN : ¬ aNo h v w := fun z => z.elim (fun y => absurd y.1 (by omega)) (fun y => h8 y.2)
          refine lv_aload_n hx hb dL_act_158 rfl (lv_at hl 3 rfl) ?_
          refine lv_iload_n hx hb dL_act_159 rfl (lv_at hl 2 rfl) ?_
          refine lv_iload hx hb dL_act_160 (lv_at hl 1 rfl) ?_
          refine lv_iload_n hx hb dL_act_162 rfl (lv_at hl 5 rfl) ?_
          refine lv_iconst (v := (nI 4)) hx hb dL_act_163 (by decide) ?_
          refine lv_ishr hx hb dL_act_164 ?_
          refine lv_iconst (v := (nI 3)) hx hb dL_act_165 (by decide) ?_
          refine lv_iand hx hb dL_act_166 ?_
          refine k_meet (x := .int (nI (bLoud w))) (pj := 175) (rest := [.int (nI (aCol v w)), .int (nI (aRow v)), .ref u]) (fun J20 => ?_) ?_
          ·
            refine lv_if_le (tgt := 174) hx hb dL_act_167 (by decide) (fun c21 => ?_) (fun c21 => ?_)
            ·
              refine lv_iconst (v := (nI 0)) hx hb dL_act_174 (by decide) ?_
              exact k_top (congrArg nI (show 0 = bLoud w from (if_pos c21).symm)) J20
            ·
              refine lv_iconst (v := (nI 1)) hx hb dL_act_170 (by decide) ?_
              refine lv_goto (tgt := 175) hx hb dL_act_171 (by decide) ?_
              exact k_top (congrArg nI (show 1 = bLoud w from (if_neg c21).symm)) J20
          ·
            refine k_Vi (As := [.int (nI (aRow v)), .int (nI (aCol v w)), .int (nI (bLoud w))]) (r := (hL (Hunseat ((aRow v) * 6 + (aCol v w)) (bLoud w) h) ((aRow v) * 6 + (aCol v w)))) hF (c_X3_leave l g u ah at9 a0 ak h sg n od sz hs (by omega) (by omega) hbo (aRow v) (aCol v w) (by omega) (by omega) (bLoud w) (by omega) h9) (cwV 3 hts gL_act_X3_leave rfl rfl rfl (by decide +kernel) ⟨Nat.le_of_ble_eq_true rfl, Nat.le_of_ble_eq_true rfl⟩) hE hP hD hS hA (k_pall _) ((k_pall _).symm) 0 rfl rfl rfl rfl hl.1 rfl (Nat.le_of_ble_eq_true rfl) dL_act_175 ⟨Nat.le_of_ble_eq_true rfl, Nat.le_of_ble_eq_true rfl⟩ (fun H locs hP hD hS => ?_)
            have hP : va_P g.1 vwCl ((wU u (ah 0) (a0 0) (at9 0)) ++ ((wH g ah (Hunseat ((aRow v) * 6 + (aCol v w)) (bLoud w) h)) ++ ((wT g at9 (sg, (nI n))) ++ ((wK0 g a0 ak ((nI od), (nI (sz + 1)))) ++ (wHs g ak (va_up hs ((od + sz) % 6) h) 6))))) _ := hP
            have hD : va_D A ((wU u (ah 0) (a0 0) (at9 0)) ++ ((wH g ah (Hunseat ((aRow v) * 6 + (aCol v w)) (bLoud w) h)) ++ ((wT g at9 (sg, (nI n))) ++ ((wK0 g a0 ak ((nI od), (nI (sz + 1)))) ++ (wHs g ak (va_up hs ((od + sz) % 6) h) 6))))) := hD
            obtain ⟨z22, ez22⟩ : ∃ x : HSt, (Hunseat ((aRow v) * 6 + (aCol v w)) (bLoud w) h) = x := ⟨_, rfl⟩
            rw [ez22] at hP hD
            have e9 : actH h v w = z22 := by rw [← ez22]; unfold actH; rw [q9]; all_goals rfl
            have e8 : actC (h, od, sz, hs, sg, n) v w = k5 (h, od, sz, hs, sg, n) z22 := (if_neg hN).trans (congrArg (k5 (h, od, sz, hs, sg, n)) e9)
            have hP : va_P g.1 vwCl (wC g u ah at9 a0 ak (actC (h, od, sz, hs, sg, n) v w)) H := by rw [e8]; exact hP
            have hD : va_D A (wC g u ah at9 a0 ak (actC (h, od, sz, hs, sg, n) v w)) := by rw [e8]; exact hD
            exact k_iret hx hb hr hlocks rfl (((if_neg hN : actA h v w = actR h v w).trans ((show actR h v w = (hL (Hunseat ((aRow v) * 6 + (aCol v w)) (bLoud w) h) ((aRow v) * 6 + (aCol v w))) from by unfold actR; rw [q9]; all_goals rfl))).symm) hP hD hS (Nat.le_of_ble_eq_true rfl) (Nat.le_of_ble_eq_true rfl) dL_act_178
        ·
          have hY : aNo h v w := Or.inr ⟨⟨by omega, by omega⟩, eL9.trans (congrArg nI c19)⟩
          refine lv_bipush (v := (-9)) hx hb dL_act_153 (by decide) ?_
          refine lv_goto (tgt := 178) hx hb dL_act_155 (by decide) ?_
          have e8 : actC (h, od, sz, hs, sg, n) v w = (h, od, sz, hs, sg, n) := if_pos hY
          have hP : va_P g.1 vwCl (wC g u ah at9 a0 ak (actC (h, od, sz, hs, sg, n) v w)) H := by rw [e8]; exact hP
          have hD : va_D A (wC g u ah at9 a0 ak (actC (h, od, sz, hs, sg, n) v w)) := by rw [e8]; exact hD
          exact k_iret hx hb hr hlocks rfl (if_pos hY).symm hP hD hS (Nat.le_of_ble_eq_true rfl) (Nat.le_of_ble_eq_true rfl) dL_act_178
      ·
        refine k_top (show nI (aT v) = nI 6 by rw [q9]) ?_
        refine lv_tableIn (off := 92) (tgt := 148) hx hb dL_act_56 (by decide) (by decide) (by decide) (by decide) ?_
        refine lv_iload hx hb dL_act_148 (lv_at hl 0 rfl) ?_
        refine k_ifn0 (tgt := 158) hx hb (by omega) dL_act_150 (by decide) (fun c23 => ?_) (fun c23 => ?_)
        ·
          have h8 : ¬ hL h (aPl v w) = nI 0 := fun z => c23 ((nI_eq (by omega) (by decide)).mp (eL9.symm.trans z))
          have h9 : ¬ (hL h) (aRow v * 6 + aCol v w) ≤ 0 := no_0 hI (by omega) h8
          have hN : ¬ aNo h v w := fun z => z.elim (fun y => absurd y.1 (by omega)) (fun y => h8 y.2)
          refine lv_aload_n hx hb dL_act_158 rfl (lv_at hl 3 rfl) ?_
          refine lv_iload_n hx hb dL_act_159 rfl (lv_at hl 2 rfl) ?_
          refine lv_iload hx hb dL_act_160 (lv_at hl 1 rfl) ?_
          refine lv_iload_n hx hb dL_act_162 rfl (lv_at hl 5 rfl) ?_
          refine lv_iconst (v := (nI 4)) hx hb dL_act_163 (by decide) ?_
          refine lv_ishr hx hb dL_act_164 ?_
          refine lv_iconst (v := (nI 3)) hx hb dL_act_165 (by decide) ?_
          refine lv_iand hx hb dL_act_166 ?_
          refine k_meet (x := .int (nI (bLoud w))) (pj := 175) (rest := [.int (nI (aCol v w)), .int (nI (aRow v)), .ref u]) (fun J24 => ?_) ?_
          ·
            refine lv_if_le (tgt := 174) hx hb dL_act_167 (by decide) (fun c25 => ?_) (fun c25 => ?_)
            ·
              refine lv_iconst (v := (nI 0)) hx hb dL_act_174 (by decide) ?_
              exact k_top (congrArg nI (show 0 = bLoud w from (if_pos c25).symm)) J24
            ·
              refine lv_iconst (v := (nI 1)) hx hb dL_act_170 (by decide) ?_
              refine lv_goto (tgt := 175) hx hb dL_act_171 (by decide) ?_
              exact k_top (congrArg nI (show 1 = bLoud w from (if_neg c25).symm)) J24
          ·
            refine k_Vi (As := [.int (nI (aRow v)), .int (nI (aCol v w)), .int (nI (bLoud w))]) (r := (hL (Hunseat ((aRow v) * 6 + (aCol v w)) (bLoud w) h) ((aRow v) * 6 + (aCol v w)))) hF (c_X3_leave l g u ah at9 a0 ak h sg n od sz hs (by omega) (by omega) hbo (aRow v) (aCol v w) (by omega) (by omega) (bLoud w) (by omega) h9) (cwV 3 hts gL_act_X3_leave rfl rfl rfl (by decide +kernel) ⟨Nat.le_of_ble_eq_true rfl, Nat.le_of_ble_eq_true rfl⟩) hE hP hD hS hA (k_pall _) ((k_pall _).symm) 0 rfl rfl rfl rfl hl.1 rfl (Nat.le_of_ble_eq_true rfl) dL_act_175 ⟨Nat.le_of_ble_eq_true rfl, Nat.le_of_ble_eq_true rfl⟩ (fun H locs hP hD hS => ?_)
            have hP : va_P g.1 vwCl ((wU u (ah 0) (a0 0) (at9 0)) ++ ((wH g ah (Hunseat ((aRow v) * 6 + (aCol v w)) (bLoud w) h)) ++ ((wT g at9 (sg, (nI n))) ++ ((wK0 g a0 ak ((nI od), (nI (sz + 1)))) ++ (wHs g ak (va_up hs ((od + sz) % 6) h) 6))))) _ := hP
            have hD : va_D A ((wU u (ah 0) (a0 0) (at9 0)) ++ ((wH g ah (Hunseat ((aRow v) * 6 + (aCol v w)) (bLoud w) h)) ++ ((wT g at9 (sg, (nI n))) ++ ((wK0 g a0 ak ((nI od), (nI (sz + 1)))) ++ (wHs g ak (va_up hs ((od + sz) % 6) h) 6))))) := hD
            obtain ⟨z26, ez26⟩ : ∃ x : HSt, (Hunseat ((aRow v) * 6 + (aCol v w)) (bLoud w) h) = x := ⟨_, rfl⟩
            rw [ez26] at hP hD
            have e9 : actH h v w = z26 := by rw [← ez26]; unfold actH; rw [q9]; all_goals rfl
            have e8 : actC (h, od, sz, hs, sg, n) v w = k5 (h, od, sz, hs, sg, n) z26 := (if_neg hN).trans (congrArg (k5 (h, od, sz, hs, sg, n)) e9)
            have hP : va_P g.1 vwCl (wC g u ah at9 a0 ak (actC (h, od, sz, hs, sg, n) v w)) H := by rw [e8]; exact hP
            have hD : va_D A (wC g u ah at9 a0 ak (actC (h, od, sz, hs, sg, n) v w)) := by rw [e8]; exact hD
            exact k_iret hx hb hr hlocks rfl (((if_neg hN : actA h v w = actR h v w).trans ((show actR h v w = (hL (Hunseat ((aRow v) * 6 + (aCol v w)) (bLoud w) h) ((aRow v) * 6 + (aCol v w))) from by unfold actR; rw [q9]; all_goals rfl))).symm) hP hD hS (Nat.le_of_ble_eq_true rfl) (Nat.le_of_ble_eq_true rfl) dL_act_178
        ·
          have hY : aNo h v w := Or.inr ⟨⟨by omega, by omega⟩, eL9.trans (congrArg nI c23)⟩
          refine lv_bipush (v := (-9)) hx hb dL_act_153 (by decide) ?_
          refine lv_goto (tgt := 178) hx hb dL_act_155 (by decide) ?_
          have e8 : actC (h, od, sz, hs, sg, n) v w = (h, od, sz, hs, sg, n) := if_pos hY
          have hP : va_P g.1 vwCl (wC g u ah at9 a0 ak (actC (h, od, sz, hs, sg, n) v w)) H := by rw [e8]; exact hP
          have hD : va_D A (wC g u ah at9 a0 ak (actC (h, od, sz, hs, sg, n) v w)) := by rw [e8]; exact hD
          exact k_iret hx hb hr hlocks rfl (if_pos hY).symm hP hD hS (Nat.le_of_ble_eq_true rfl) (Nat.le_of_ble_eq_true rfl) dL_act_178
      ·
        refine k_top (show nI (aT v) = nI 7 by rw [q9]) ?_
        refine lv_tableIn (off := 92) (tgt := 148) hx hb dL_act_56 (by decide) (by decide) (by decide) (by decide) ?_
        refine lv_iload hx hb dL_act_148 (lv_at hl 0 rfl) ?_
        refine k_ifn0 (tgt := 158) hx hb (by omega) dL_act_150 (by decide) (fun c27 => ?_) (fun c27 => ?_)
        ·
          have h8 : ¬ hL h (aPl v w) = nI 0 := fun z => c27 ((nI_eq (by omega) (by decide)).mp (eL9.symm.trans z))
          have h9 : ¬ (hL h) (aRow v * 6 + aCol v w) ≤ 0 := no_0 hI (by omega) h8
          have hN : ¬ aNo h v w := fun z => z.elim (fun y => absurd y.1 (by omega)) (fun y => h8 y.2)
          refine lv_aload_n hx hb dL_act_158 rfl (lv_at hl 3 rfl) ?_
          refine lv_iload_n hx hb dL_act_159 rfl (lv_at hl 2 rfl) ?_
          refine lv_iload hx hb dL_act_160 (lv_at hl 1 rfl) ?_
          refine lv_iload_n hx hb dL_act_162 rfl (lv_at hl 5 rfl) ?_
          refine lv_iconst (v := (nI 4)) hx hb dL_act_163 (by decide) ?_
          refine lv_ishr hx hb dL_act_164 ?_
          refine lv_iconst (v := (nI 3)) hx hb dL_act_165 (by decide) ?_
          refine lv_iand hx hb dL_act_166 ?_
          refine k_meet (x := .int (nI (bLoud w))) (pj := 175) (rest := [.int (nI (aCol v w)), .int (nI (aRow v)), .ref u]) (fun J28 => ?_) ?_
          ·
            refine lv_if_le (tgt := 174) hx hb dL_act_167 (by decide) (fun c29 => ?_) (fun c29 => ?_)
            ·
              refine lv_iconst (v := (nI 0)) hx hb dL_act_174 (by decide) ?_
              exact k_top (congrArg nI (show 0 = bLoud w from (if_pos c29).symm)) J28
            ·
              refine lv_iconst (v := (nI 1)) hx hb dL_act_170 (by decide) ?_
              refine lv_goto (tgt := 175) hx hb dL_act_171 (by decide) ?_
              exact k_top (congrArg nI (show 1 = bLoud w from (if_neg c29).symm)) J28
          ·
            refine k_Vi (As := [.int (nI (aRow v)), .int (nI (aCol v w)), .int (nI (bLoud w))]) (r := (hL (Hunseat ((aRow v) * 6 + (aCol v w)) (bLoud w) h) ((aRow v) * 6 + (aCol v w)))) hF (c_X3_leave l g u ah at9 a0 ak h sg n od sz hs (by omega) (by omega) hbo (aRow v) (aCol v w) (by omega) (by omega) (bLoud w) (by omega) h9) (cwV 3 hts gL_act_X3_leave rfl rfl rfl (by decide +kernel) ⟨Nat.le_of_ble_eq_true rfl, Nat.le_of_ble_eq_true rfl⟩) hE hP hD hS hA (k_pall _) ((k_pall _).symm) 0 rfl rfl rfl rfl hl.1 rfl (Nat.le_of_ble_eq_true rfl) dL_act_175 ⟨Nat.le_of_ble_eq_true rfl, Nat.le_of_ble_eq_true rfl⟩ (fun H locs hP hD hS => ?_)
            have hP : va_P g.1 vwCl ((wU u (ah 0) (a0 0) (at9 0)) ++ ((wH g ah (Hunseat ((aRow v) * 6 + (aCol v w)) (bLoud w) h)) ++ ((wT g at9 (sg, (nI n))) ++ ((wK0 g a0 ak ((nI od), (nI (sz + 1)))) ++ (wHs g ak (va_up hs ((od + sz) % 6) h) 6))))) _ := hP
            have hD : va_D A ((wU u (ah 0) (a0 0) (at9 0)) ++ ((wH g ah (Hunseat ((aRow v) * 6 + (aCol v w)) (bLoud w) h)) ++ ((wT g at9 (sg, (nI n))) ++ ((wK0 g a0 ak ((nI od), (nI (sz + 1)))) ++ (wHs g ak (va_up hs ((od + sz) % 6) h) 6))))) := hD
            obtain ⟨z30, ez30⟩ : ∃ x : HSt, (Hunseat ((aRow v) * 6 + (aCol v w)) (bLoud w) h) = x := ⟨_, rfl⟩
            rw [ez30] at hP hD
            have e9 : actH h v w = z30 := by rw [← ez30]; unfold actH; rw [q9]; all_goals rfl
            have e8 : actC (h, od, sz, hs, sg, n) v w = k5 (h, od, sz, hs, sg, n) z30 := (if_neg hN).trans (congrArg (k5 (h, od, sz, hs, sg, n)) e9)
            have hP : va_P g.1 vwCl (wC g u ah at9 a0 ak (actC (h, od, sz, hs, sg, n) v w)) H := by rw [e8]; exact hP
            have hD : va_D A (wC g u ah at9 a0 ak (actC (h, od, sz, hs, sg, n) v w)) := by rw [e8]; exact hD
            exact k_iret hx hb hr hlocks rfl (((if_neg hN : actA h v w = actR h v w).trans ((show actR h v w = (hL (Hunseat ((aRow v) * 6 + (aCol v w)) (bLoud w) h) ((aRow v) * 6 + (aCol v w))) from by unfold actR; rw [q9]; all_goals rfl))).symm) hP hD hS (Nat.le_of_ble_eq_true rfl) (Nat.le_of_ble_eq_true rfl) dL_act_178
        ·
          have hY : aNo h v w := Or.inr ⟨⟨by omega, by omega⟩, eL9.trans (congrArg nI c27)⟩
          refine lv_bipush (v := (-9)) hx hb dL_act_153 (by decide) ?_
          refine lv_goto (tgt := 178) hx hb dL_act_155 (by decide) ?_
          have e8 : actC (h, od, sz, hs, sg, n) v w = (h, od, sz, hs, sg, n) := if_pos hY
          have hP : va_P g.1 vwCl (wC g u ah at9 a0 ak (actC (h, od, sz, hs, sg, n) v w)) H := by rw [e8]; exact hP
          have hD : va_D A (wC g u ah at9 a0 ak (actC (h, od, sz, hs, sg, n) v w)) := by rw [e8]; exact hD
          exact k_iret hx hb hr hlocks rfl (if_pos hY).symm hP hD hS (Nat.le_of_ble_eq_true rfl) (Nat.le_of_ble_eq_true rfl) dL_act_178
      ·
        refine k_top (show nI (aT v) = nI 8 by rw [q9]) ?_
        refine lv_tableIn (off := 123) (tgt := 179) hx hb dL_act_56 (by decide) (by decide) (by decide) (by decide) ?_
        have hN : ¬ aNo h v w := fun z => z.elim (fun y => absurd y.1 (by omega)) (fun y => absurd y.1.2 (by omega))
        refine lv_aload_n hx hb dL_act_179 rfl (lv_at hl 3 rfl) ?_
        refine lv_iload_n hx hb dL_act_180 rfl (lv_at hl 2 rfl) ?_
        refine lv_iload_n hx hb dL_act_181 rfl (lv_at hl 5 rfl) ?_
        refine lv_iconst (v := (nI 5)) hx hb dL_act_182 (by decide) ?_
        refine lv_ishr hx hb dL_act_183 ?_
        refine lv_iconst (v := (nI 1)) hx hb dL_act_184 (by decide) ?_
        refine lv_iand hx hb dL_act_185 ?_
        refine lv_iconst (v := (nI 1)) hx hb dL_act_186 (by decide) ?_
        refine k_meet (x := .int (nI (bOpen w))) (pj := 195) (rest := [.int (nI (aRow v)), .ref u]) (fun J31 => ?_) ?_
        ·
          refine lv_icmp_ne (tgt := 194) hx hb dL_act_187 (by decide) (fun c32 => ?_) (fun c32 => ?_)
          ·
            refine lv_iconst (v := (nI 0)) hx hb dL_act_194 (by decide) ?_
            exact k_top (congrArg nI (show 0 = bOpen w from (if_neg c32).symm)) J31
          ·
            refine lv_iconst (v := (nI 1)) hx hb dL_act_190 (by decide) ?_
            refine lv_goto (tgt := 195) hx hb dL_act_191 (by decide) ?_
            exact k_top (congrArg nI (show 1 = bOpen w from (if_pos c32).symm)) J31
        ·
          refine k_Vi (As := [.int (nI (aRow v)), .int (nI (bOpen w))]) (r := (bI (Hopen h (aRow v)))) hF (c_X3_setOpen l g u ah at9 a0 ak h sg n od sz hs (by omega) (by omega) hbo (aRow v) (by omega) (bOpen w) (by omega)) (cwV 2 hts gL_act_X3_setOpen rfl rfl rfl (by decide +kernel) ⟨Nat.le_of_ble_eq_true rfl, Nat.le_of_ble_eq_true rfl⟩) hE hP hD hS hA (k_pall _) ((k_pall _).symm) 0 rfl rfl rfl rfl hl.1 rfl (Nat.le_of_ble_eq_true rfl) dL_act_195 ⟨Nat.le_of_ble_eq_true rfl, Nat.le_of_ble_eq_true rfl⟩ (fun H locs hP hD hS => ?_)
          have hP : va_P g.1 vwCl ((wU u (ah 0) (a0 0) (at9 0)) ++ ((wH g ah (Lopen (aRow v) (bOpen w) h)) ++ ((wT g at9 (sg, (nI n))) ++ ((wK0 g a0 ak ((nI od), (nI (sz + 1)))) ++ (wHs g ak (va_up hs ((od + sz) % 6) h) 6))))) _ := hP
          have hD : va_D A ((wU u (ah 0) (a0 0) (at9 0)) ++ ((wH g ah (Lopen (aRow v) (bOpen w) h)) ++ ((wT g at9 (sg, (nI n))) ++ ((wK0 g a0 ak ((nI od), (nI (sz + 1)))) ++ (wHs g ak (va_up hs ((od + sz) % 6) h) 6))))) := hD
          obtain ⟨z33, ez33⟩ : ∃ x : HSt, (Lopen (aRow v) (bOpen w) h) = x := ⟨_, rfl⟩
          rw [ez33] at hP hD
          refine k_ifeqB (tgt := 205) hx hb dL_act_198 (by decide) (fun c34 => ?_) (fun c34 => ?_)
          ·
            refine lv_iconst (v := (nI 0)) hx hb dL_act_205 (by decide) ?_
            have e9 : actH h v w = z33 := by rw [← ez33]; unfold actH; rw [q9]; all_goals rfl
            have e8 : actC (h, od, sz, hs, sg, n) v w = k5 (h, od, sz, hs, sg, n) z33 := (if_neg hN).trans (congrArg (k5 (h, od, sz, hs, sg, n)) e9)
            have hP : va_P g.1 vwCl (wC g u ah at9 a0 ak (actC (h, od, sz, hs, sg, n) v w)) H := by rw [e8]; exact hP
            have hD : va_D A (wC g u ah at9 a0 ak (actC (h, od, sz, hs, sg, n) v w)) := by rw [e8]; exact hD
            exact k_iret hx hb hr hlocks rfl (((if_neg hN : actA h v w = actR h v w).trans ((show actR h v w = bI (Hopen h (aRow v)) from by unfold actR; rw [q9]; all_goals rfl).trans (bI_f c34))).symm) hP hD hS (Nat.le_of_ble_eq_true rfl) (Nat.le_of_ble_eq_true rfl) dL_act_206
          ·
            refine lv_iconst (v := (nI 1)) hx hb dL_act_201 (by decide) ?_
            refine lv_goto (tgt := 206) hx hb dL_act_202 (by decide) ?_
            have e9 : actH h v w = z33 := by rw [← ez33]; unfold actH; rw [q9]; all_goals rfl
            have e8 : actC (h, od, sz, hs, sg, n) v w = k5 (h, od, sz, hs, sg, n) z33 := (if_neg hN).trans (congrArg (k5 (h, od, sz, hs, sg, n)) e9)
            have hP : va_P g.1 vwCl (wC g u ah at9 a0 ak (actC (h, od, sz, hs, sg, n) v w)) H := by rw [e8]; exact hP
            have hD : va_D A (wC g u ah at9 a0 ak (actC (h, od, sz, hs, sg, n) v w)) := by rw [e8]; exact hD
            exact k_iret hx hb hr hlocks rfl (((if_neg hN : actA h v w = actR h v w).trans ((show actR h v w = bI (Hopen h (aRow v)) from by unfold actR; rw [q9]; all_goals rfl).trans (bI_t c34))).symm) hP hD hS (Nat.le_of_ble_eq_true rfl) (Nat.le_of_ble_eq_true rfl) dL_act_206
      ·
        refine k_top (show nI (aT v) = nI 9 by rw [q9]) ?_
        refine lv_tableIn (off := 151) (tgt := 207) hx hb dL_act_56 (by decide) (by decide) (by decide) (by decide) ?_
        have hN : ¬ aNo h v w := fun z => z.elim (fun y => absurd y.1 (by omega)) (fun y => absurd y.1.2 (by omega))
        refine lv_aload_n hx hb dL_act_207 rfl (lv_at hl 3 rfl) ?_
        refine lv_iload_n hx hb dL_act_208 rfl (lv_at hl 5 rfl) ?_
        refine lv_iconst (v := (nI 1)) hx hb dL_act_209 (by decide) ?_
        refine lv_iand hx hb dL_act_210 ?_
        refine lv_iconst (v := (nI 1)) hx hb dL_act_211 (by decide) ?_
        refine k_meet (x := .int (nI (bQuick w))) (pj := 220) (rest := [.ref u]) (fun J35 => ?_) ?_
        ·
          refine lv_icmp_ne (tgt := 219) hx hb dL_act_212 (by decide) (fun c36 => ?_) (fun c36 => ?_)
          ·
            refine lv_iconst (v := (nI 0)) hx hb dL_act_219 (by decide) ?_
            exact k_top (congrArg nI (show 0 = bQuick w from (if_neg c36).symm)) J35
          ·
            refine lv_iconst (v := (nI 1)) hx hb dL_act_215 (by decide) ?_
            refine lv_goto (tgt := 220) hx hb dL_act_216 (by decide) ?_
            exact k_top (congrArg nI (show 1 = bQuick w from (if_pos c36).symm)) J35
        ·
          refine k_Vi (As := [.int (nI (bQuick w))]) (r := (hqk h)) hF (c_X3_setQuick l g u ah at9 a0 ak h sg n od sz hs (by omega) (by omega) hbo (bQuick w) (by omega)) (cwV 1 hts gL_act_X3_setQuick rfl rfl rfl (by decide +kernel) ⟨Nat.le_of_ble_eq_true rfl, Nat.le_of_ble_eq_true rfl⟩) hE hP hD hS hA (k_pall _) ((k_pall _).symm) 0 rfl rfl rfl rfl hl.1 rfl (Nat.le_of_ble_eq_true rfl) dL_act_220 ⟨Nat.le_of_ble_eq_true rfl, Nat.le_of_ble_eq_true rfl⟩ (fun H locs hP hD hS => ?_)
          have hP : va_P g.1 vwCl ((wU u (ah 0) (a0 0) (at9 0)) ++ ((wH g ah (sHqk h (nI (bQuick w)))) ++ ((wT g at9 (sg, (nI n))) ++ ((wK0 g a0 ak ((nI od), (nI (sz + 1)))) ++ (wHs g ak (va_up hs ((od + sz) % 6) h) 6))))) _ := hP
          have hD : va_D A ((wU u (ah 0) (a0 0) (at9 0)) ++ ((wH g ah (sHqk h (nI (bQuick w)))) ++ ((wT g at9 (sg, (nI n))) ++ ((wK0 g a0 ak ((nI od), (nI (sz + 1)))) ++ (wHs g ak (va_up hs ((od + sz) % 6) h) 6))))) := hD
          refine lv_if_eq (tgt := 230) hx hb dL_act_223 (by decide) (fun c37 => ?_) (fun c37 => ?_)
          ·
            refine lv_iconst (v := (nI 0)) hx hb dL_act_230 (by decide) ?_
            have e9 : actH h v w = (sHqk h (nI (bQuick w))) := by unfold actH; rw [q9]; all_goals rfl
            have e8 : actC (h, od, sz, hs, sg, n) v w = k5 (h, od, sz, hs, sg, n) (sHqk h (nI (bQuick w))) := (if_neg hN).trans (congrArg (k5 (h, od, sz, hs, sg, n)) e9)
            have hP : va_P g.1 vwCl (wC g u ah at9 a0 ak (actC (h, od, sz, hs, sg, n) v w)) H := by rw [e8]; exact hP
            have hD : va_D A (wC g u ah at9 a0 ak (actC (h, od, sz, hs, sg, n) v w)) := by rw [e8]; exact hD
            exact k_iret hx hb hr hlocks rfl (((if_neg hN : actA h v w = actR h v w).trans ((show actR h v w = (if hqk h = 0 then nI 0 else nI 1) from by unfold actR; rw [q9]; all_goals rfl).trans (if_pos c37))).symm) hP hD hS (Nat.le_of_ble_eq_true rfl) (Nat.le_of_ble_eq_true rfl) dL_act_231
          ·
            refine lv_iconst (v := (nI 1)) hx hb dL_act_226 (by decide) ?_
            refine lv_goto (tgt := 231) hx hb dL_act_227 (by decide) ?_
            have e9 : actH h v w = (sHqk h (nI (bQuick w))) := by unfold actH; rw [q9]; all_goals rfl
            have e8 : actC (h, od, sz, hs, sg, n) v w = k5 (h, od, sz, hs, sg, n) (sHqk h (nI (bQuick w))) := (if_neg hN).trans (congrArg (k5 (h, od, sz, hs, sg, n)) e9)
            have hP : va_P g.1 vwCl (wC g u ah at9 a0 ak (actC (h, od, sz, hs, sg, n) v w)) H := by rw [e8]; exact hP
            have hD : va_D A (wC g u ah at9 a0 ak (actC (h, od, sz, hs, sg, n) v w)) := by rw [e8]; exact hD
            exact k_iret hx hb hr hlocks rfl (((if_neg hN : actA h v w = actR h v w).trans ((show actR h v w = (if hqk h = 0 then nI 0 else nI 1) from by unfold actR; rw [q9]; all_goals rfl).trans (if_neg c37))).symm) hP hD hS (Nat.le_of_ble_eq_true rfl) (Nat.le_of_ble_eq_true rfl) dL_act_231
      ·
        refine k_top (show nI (aT v) = nI 10 by rw [q9]) ?_
        refine lv_tableIn (off := 176) (tgt := 232) hx hb dL_act_56 (by decide) (by decide) (by decide) (by decide) ?_
        have hN : ¬ aNo h v w := fun z => z.elim (fun y => absurd y.1 (by omega)) (fun y => absurd y.1.2 (by omega))
        refine lv_aload_n hx hb dL_act_232 rfl (lv_at hl 3 rfl) ?_
        refine lv_iconst (v := (nI 2)) hx hb dL_act_233 (by decide) ?_
        refine lv_iload_n hx hb dL_act_234 rfl (lv_at hl 5 rfl) ?_
        refine lv_bipush (v := (nI 59)) hx hb dL_act_235 (by decide) ?_
        refine k_Si (w0 := []) (w1 := []) (As := [.int w, .int (nI 59)]) (r := (nI (lowN w 59))) hF (c_L_low l g w 59 (by decide) (by decide)) (va_cwS 2 hts gL_act_L_low rfl rfl rfl (by decide +kernel) ⟨Nat.le_of_ble_eq_true rfl, Nat.le_of_ble_eq_true rfl⟩) hE hP hD hS hA (List.Perm.refl _) (List.Perm.refl _) rfl hl.1 rfl (Nat.le_of_ble_eq_true rfl) dL_act_237 ⟨Nat.le_of_ble_eq_true rfl, Nat.le_of_ble_eq_true rfl⟩ (fun H locs hP hD hS => ?_)
        have hP : va_P g.1 vwCl ((wU u (ah 0) (a0 0) (at9 0)) ++ ((wH g ah h) ++ ((wT g at9 (sg, (nI n))) ++ ((wK0 g a0 ak ((nI od), (nI sz))) ++ (wHs g ak hs 6))))) _ := hP
        have hD : va_D A ((wU u (ah 0) (a0 0) (at9 0)) ++ ((wH g ah h) ++ ((wT g at9 (sg, (nI n))) ++ ((wK0 g a0 ak ((nI od), (nI sz))) ++ (wHs g ak hs 6))))) := hD
        refine lv_iadd hx hb dL_act_240 ?_
        refine k_top (nI_add _ _) ?_
        refine lv_iconst (v := (nI 1)) hx hb dL_act_241 (by decide) ?_
        refine lv_iload_n hx hb dL_act_242 rfl (lv_at hl 5 rfl) ?_
        refine lv_iconst (v := (nI 3)) hx hb dL_act_243 (by decide) ?_
        refine lv_ishr hx hb dL_act_244 ?_
        refine lv_bipush (v := (nI 10)) hx hb dL_act_245 (by decide) ?_
        refine k_Si (w0 := []) (w1 := []) (As := [.int (w >>> ((nI 3) &&& 31)), .int (nI 10)]) (r := (nI (lowN (w >>> ((nI 3) &&& 31)) 10))) hF (c_L_low l g (w >>> ((nI 3) &&& 31)) 10 (by decide) (by decide)) (va_cwS 2 hts gL_act_L_low rfl rfl rfl (by decide +kernel) ⟨Nat.le_of_ble_eq_true rfl, Nat.le_of_ble_eq_true rfl⟩) hE hP hD hS hA (List.Perm.refl _) (List.Perm.refl _) rfl hl.1 rfl (Nat.le_of_ble_eq_true rfl) dL_act_247 ⟨Nat.le_of_ble_eq_true rfl, Nat.le_of_ble_eq_true rfl⟩ (fun H locs hP hD hS => ?_)
        have hP : va_P g.1 vwCl ((wU u (ah 0) (a0 0) (at9 0)) ++ ((wH g ah h) ++ ((wT g at9 (sg, (nI n))) ++ ((wK0 g a0 ak ((nI od), (nI sz))) ++ (wHs g ak hs 6))))) _ := hP
        have hD : va_D A ((wU u (ah 0) (a0 0) (at9 0)) ++ ((wH g ah h) ++ ((wT g at9 (sg, (nI n))) ++ ((wK0 g a0 ak ((nI od), (nI sz))) ++ (wHs g ak hs 6))))) := hD
        refine lv_iadd hx hb dL_act_250 ?_
        refine k_top (nI_add _ _) ?_
        refine lv_iconst (v := (nI 1)) hx hb dL_act_251 (by decide) ?_
        refine lv_iload_n hx hb dL_act_252 rfl (lv_at hl 5 rfl) ?_
        refine lv_bipush (v := (nI 6)) hx hb dL_act_253 (by decide) ?_
        refine lv_ishr hx hb dL_act_255 ?_
        refine lv_bipush (v := (nI 30)) hx hb dL_act_256 (by decide) ?_
        refine k_Si (w0 := []) (w1 := []) (As := [.int (w >>> ((nI 6) &&& 31)), .int (nI 30)]) (r := (nI (lowN (w >>> ((nI 6) &&& 31)) 30))) hF (c_L_low l g (w >>> ((nI 6) &&& 31)) 30 (by decide) (by decide)) (va_cwS 2 hts gL_act_L_low rfl rfl rfl (by decide +kernel) ⟨Nat.le_of_ble_eq_true rfl, Nat.le_of_ble_eq_true rfl⟩) hE hP hD hS hA (List.Perm.refl _) (List.Perm.refl _) rfl hl.1 rfl (Nat.le_of_ble_eq_true rfl) dL_act_258 ⟨Nat.le_of_ble_eq_true rfl, Nat.le_of_ble_eq_true rfl⟩ (fun H locs hP hD hS => ?_)
        have hP : va_P g.1 vwCl ((wU u (ah 0) (a0 0) (at9 0)) ++ ((wH g ah h) ++ ((wT g at9 (sg, (nI n))) ++ ((wK0 g a0 ak ((nI od), (nI sz))) ++ (wHs g ak hs 6))))) _ := hP
        have hD : va_D A ((wU u (ah 0) (a0 0) (at9 0)) ++ ((wH g ah h) ++ ((wT g at9 (sg, (nI n))) ++ ((wK0 g a0 ak ((nI od), (nI sz))) ++ (wHs g ak hs 6))))) := hD
        refine lv_iadd hx hb dL_act_261 ?_
        refine k_top (nI_add _ _) ?_
        refine k_Vi (As := [.int (nI (2 + (lowN w 59))), .int (nI (1 + (lowN (w >>> ((nI 3) &&& 31)) 10))), .int (nI (1 + (lowN (w >>> ((nI 6) &&& 31)) 30)))]) (r := (hfd h)) hF (c_X3_setTimes l g u ah at9 a0 ak h sg n od sz hs (by omega) (by omega) hbo (2 + (lowN w 59)) (1 + (lowN (w >>> ((nI 3) &&& 31)) 10)) (1 + (lowN (w >>> ((nI 6) &&& 31)) 30)) (by omega) (by omega) (by omega)) (cwV 3 hts gL_act_X3_setTimes rfl rfl rfl (by decide +kernel) ⟨Nat.le_of_ble_eq_true rfl, Nat.le_of_ble_eq_true rfl⟩) hE hP hD hS hA (k_pall _) ((k_pall _).symm) 0 rfl rfl rfl rfl hl.1 rfl (Nat.le_of_ble_eq_true rfl) dL_act_262 ⟨Nat.le_of_ble_eq_true rfl, Nat.le_of_ble_eq_true rfl⟩ (fun H locs hP hD hS => ?_)
        have hP : va_P g.1 vwCl ((wU u (ah 0) (a0 0) (at9 0)) ++ ((wH g ah (Ltimes (2 + (lowN w 59)) (1 + (lowN (w >>> ((nI 3) &&& 31)) 10)) (1 + (lowN (w >>> ((nI 6) &&& 31)) 30)) h)) ++ ((wT g at9 (sg, (nI n))) ++ ((wK0 g a0 ak ((nI od), (nI (sz + 1)))) ++ (wHs g ak (va_up hs ((od + sz) % 6) h) 6))))) _ := hP
        have hD : va_D A ((wU u (ah 0) (a0 0) (at9 0)) ++ ((wH g ah (Ltimes (2 + (lowN w 59)) (1 + (lowN (w >>> ((nI 3) &&& 31)) 10)) (1 + (lowN (w >>> ((nI 6) &&& 31)) 30)) h)) ++ ((wT g at9 (sg, (nI n))) ++ ((wK0 g a0 ak ((nI od), (nI (sz + 1)))) ++ (wHs g ak (va_up hs ((od + sz) % 6) h) 6))))) := hD
        obtain ⟨z38, ez38⟩ : ∃ x : HSt, (Ltimes (2 + (lowN w 59)) (1 + (lowN (w >>> ((nI 3) &&& 31)) 10)) (1 + (lowN (w >>> ((nI 6) &&& 31)) 30)) h) = x := ⟨_, rfl⟩
        rw [ez38] at hP hD
        have e9 : actH h v w = z38 := by rw [← ez38]; unfold actH; rw [q9]; all_goals rfl
        have e8 : actC (h, od, sz, hs, sg, n) v w = k5 (h, od, sz, hs, sg, n) z38 := (if_neg hN).trans (congrArg (k5 (h, od, sz, hs, sg, n)) e9)
        have hP : va_P g.1 vwCl (wC g u ah at9 a0 ak (actC (h, od, sz, hs, sg, n) v w)) H := by rw [e8]; exact hP
        have hD : va_D A (wC g u ah at9 a0 ak (actC (h, od, sz, hs, sg, n) v w)) := by rw [e8]; exact hD
        exact k_iret hx hb hr hlocks rfl (((if_neg hN : actA h v w = actR h v w).trans ((show actR h v w = (hfd h) from by unfold actR; rw [q9]; all_goals rfl))).symm) hP hD hS (Nat.le_of_ble_eq_true rfl) (Nat.le_of_ble_eq_true rfl) dL_act_265
      ·
        refine k_top (show nI (aT v) = nI 11 by rw [q9]) ?_
        refine lv_tableIn (off := 210) (tgt := 266) hx hb dL_act_56 (by decide) (by decide) (by decide) (by decide) ?_
        have hN : ¬ aNo h v w := fun z => z.elim (fun y => absurd y.1 (by omega)) (fun y => absurd y.1.2 (by omega))
        refine lv_aload_n hx hb dL_act_266 rfl (lv_at hl 3 rfl) ?_
        refine lv_iconst (v := (nI 1)) hx hb dL_act_267 (by decide) ?_
        refine lv_iload_n hx hb dL_act_268 rfl (lv_at hl 5 rfl) ?_
        refine lv_iconst (v := (nI 1)) hx hb dL_act_269 (by decide) ?_
        refine lv_iand hx hb dL_act_270 ?_
        refine k_top (show (w &&& (nI 1)) = (nI (aB w)) from (aB_and w).1) ?_
        refine lv_iadd hx hb dL_act_271 ?_
        refine k_top (nI_add _ _) ?_
        refine lv_iload_n hx hb dL_act_272 rfl (lv_at hl 5 rfl) ?_
        refine lv_iconst (v := (nI 1)) hx hb dL_act_273 (by decide) ?_
        refine lv_ishr hx hb dL_act_274 ?_
        refine lv_iconst (v := (nI 1)) hx hb dL_act_275 (by decide) ?_
        refine lv_iand hx hb dL_act_276 ?_
        refine lv_iconst (v := (nI 1)) hx hb dL_act_277 (by decide) ?_
        refine k_meet (x := .int (nI (bPres w))) (pj := 286) (rest := [.int (nI (1 + (aB w))), .ref u]) (fun J39 => ?_) ?_
        ·
          refine lv_icmp_ne (tgt := 285) hx hb dL_act_278 (by decide) (fun c40 => ?_) (fun c40 => ?_)
          ·
            refine lv_iconst (v := (nI 0)) hx hb dL_act_285 (by decide) ?_
            exact k_top (congrArg nI (show 0 = bPres w from (if_neg c40).symm)) J39
          ·
            refine lv_iconst (v := (nI 1)) hx hb dL_act_281 (by decide) ?_
            refine lv_goto (tgt := 286) hx hb dL_act_282 (by decide) ?_
            exact k_top (congrArg nI (show 1 = bPres w from (if_pos c40).symm)) J39
        ·
          refine k_Vi (As := [.int (nI (1 + (aB w))), .int (nI (bPres w))]) (r := (Hchief (Lpres (1 + (aB w)) (bPres w) h))) hF (c_X3_setPresent l g u ah at9 a0 ak h sg n od sz hs (by omega) (by omega) hbo (1 + (aB w)) (by omega) (bPres w) (by omega)) (cwV 2 hts gL_act_X3_setPresent rfl rfl rfl (by decide +kernel) ⟨Nat.le_of_ble_eq_true rfl, Nat.le_of_ble_eq_true rfl⟩) hE hP hD hS hA (k_pall _) ((k_pall _).symm) 0 rfl rfl rfl rfl hl.1 rfl (Nat.le_of_ble_eq_true rfl) dL_act_286 ⟨Nat.le_of_ble_eq_true rfl, Nat.le_of_ble_eq_true rfl⟩ (fun H locs hP hD hS => ?_)
          have hP : va_P g.1 vwCl ((wU u (ah 0) (a0 0) (at9 0)) ++ ((wH g ah (Lpres (1 + (aB w)) (bPres w) h)) ++ ((wT g at9 (sg, (nI n))) ++ ((wK0 g a0 ak ((nI od), (nI (sz + 1)))) ++ (wHs g ak (va_up hs ((od + sz) % 6) h) 6))))) _ := hP
          have hD : va_D A ((wU u (ah 0) (a0 0) (at9 0)) ++ ((wH g ah (Lpres (1 + (aB w)) (bPres w) h)) ++ ((wT g at9 (sg, (nI n))) ++ ((wK0 g a0 ak ((nI od), (nI (sz + 1)))) ++ (wHs g ak (va_up hs ((od + sz) % 6) h) 6))))) := hD
          obtain ⟨z41, ez41⟩ : ∃ x : HSt, (Lpres (1 + (aB w)) (bPres w) h) = x := ⟨_, rfl⟩
          rw [ez41] at hP hD
          have e9 : actH h v w = z41 := by rw [← ez41]; unfold actH; rw [q9]; all_goals rfl
          have e8 : actC (h, od, sz, hs, sg, n) v w = k5 (h, od, sz, hs, sg, n) z41 := (if_neg hN).trans (congrArg (k5 (h, od, sz, hs, sg, n)) e9)
          have hP : va_P g.1 vwCl (wC g u ah at9 a0 ak (actC (h, od, sz, hs, sg, n) v w)) H := by rw [e8]; exact hP
          have hD : va_D A (wC g u ah at9 a0 ak (actC (h, od, sz, hs, sg, n) v w)) := by rw [e8]; exact hD
          exact k_iret hx hb hr hlocks rfl (((if_neg hN : actA h v w = actR h v w).trans ((show actR h v w = (Hchief (Lpres (1 + (aB w)) (bPres w) h)) from by unfold actR; rw [q9]; all_goals rfl))).symm) hP hD hS (Nat.le_of_ble_eq_true rfl) (Nat.le_of_ble_eq_true rfl) dL_act_289
      ·
        refine k_top (show nI (aT v) = nI 12 by rw [q9]) ?_
        refine lv_tableIn (off := 234) (tgt := 290) hx hb dL_act_56 (by decide) (by decide) (by decide) (by decide) ?_
        have hN : ¬ aNo h v w := fun z => z.elim (fun y => absurd y.1 (by omega)) (fun y => absurd y.1.2 (by omega))
        refine lv_aload_n hx hb dL_act_290 rfl (lv_at hl 3 rfl) ?_
        refine lv_iload hx hb dL_act_291 (lv_at hl 1 rfl) ?_
        refine k_Vi (As := [.int (nI (aCol v w))]) (r := (bc (Hget h (aCol v w) 8))) hF (c_X3_play l g u ah at9 a0 ak h sg n od sz hs (by omega) (by omega) hbo (aCol v w) (by omega)) (cwV 1 hts gL_act_X3_play rfl rfl rfl (by decide +kernel) ⟨Nat.le_of_ble_eq_true rfl, Nat.le_of_ble_eq_true rfl⟩) hE hP hD hS hA (k_pall _) ((k_pall _).symm) 0 rfl rfl rfl rfl hl.1 rfl (Nat.le_of_ble_eq_true rfl) dL_act_293 ⟨Nat.le_of_ble_eq_true rfl, Nat.le_of_ble_eq_true rfl⟩ (fun H locs hP hD hS => ?_)
        have hP : va_P g.1 vwCl ((wU u (ah 0) (a0 0) (at9 0)) ++ ((wH g ah (Hperf (aCol v w) h)) ++ ((wT g at9 (sg, (nI n))) ++ ((wK0 g a0 ak ((nI od), (nI (sz + 1)))) ++ (wHs g ak (va_up hs ((od + sz) % 6) h) 6))))) _ := hP
        have hD : va_D A ((wU u (ah 0) (a0 0) (at9 0)) ++ ((wH g ah (Hperf (aCol v w) h)) ++ ((wT g at9 (sg, (nI n))) ++ ((wK0 g a0 ak ((nI od), (nI (sz + 1)))) ++ (wHs g ak (va_up hs ((od + sz) % 6) h) 6))))) := hD
        obtain ⟨z42, ez42⟩ : ∃ x : HSt, (Hperf (aCol v w) h) = x := ⟨_, rfl⟩
        rw [ez42] at hP hD
        have e9 : actH h v w = z42 := by rw [← ez42]; unfold actH; rw [q9]; all_goals rfl
        have e8 : actC (h, od, sz, hs, sg, n) v w = k5 (h, od, sz, hs, sg, n) z42 := (if_neg hN).trans (congrArg (k5 (h, od, sz, hs, sg, n)) e9)
        have hP : va_P g.1 vwCl (wC g u ah at9 a0 ak (actC (h, od, sz, hs, sg, n) v w)) H := by rw [e8]; exact hP
        have hD : va_D A (wC g u ah at9 a0 ak (actC (h, od, sz, hs, sg, n) v w)) := by rw [e8]; exact hD
        exact k_iret hx hb hr hlocks rfl (((if_neg hN : actA h v w = actR h v w).trans ((show actR h v w = (bc (Hget h (aCol v w) 8)) from by unfold actR; rw [q9]; all_goals rfl))).symm) hP hD hS (Nat.le_of_ble_eq_true rfl) (Nat.le_of_ble_eq_true rfl) dL_act_296
      ·
        refine k_top (show nI (aT v) = nI 13 by rw [q9]) ?_
        refine lv_tableIn (off := 234) (tgt := 290) hx hb dL_act_56 (by decide) (by decide) (by decide) (by decide) ?_
        have hN : ¬ aNo h v w := fun z => z.elim (fun y => absurd y.1 (by omega)) (fun y => absurd y.1.2 (by omega))
        refine lv_aload_n hx hb dL_act_290 rfl (lv_at hl 3 rfl) ?_
        refine lv_iload hx hb dL_act_291 (lv_at hl 1 rfl) ?_
        refine k_Vi (As := [.int (nI (aCol v w))]) (r := (bc (Hget h (aCol v w) 8))) hF (c_X3_play l g u ah at9 a0 ak h sg n od sz hs (by omega) (by omega) hbo (aCol v w) (by omega)) (cwV 1 hts gL_act_X3_play rfl rfl rfl (by decide +kernel) ⟨Nat.le_of_ble_eq_true rfl, Nat.le_of_ble_eq_true rfl⟩) hE hP hD hS hA (k_pall _) ((k_pall _).symm) 0 rfl rfl rfl rfl hl.1 rfl (Nat.le_of_ble_eq_true rfl) dL_act_293 ⟨Nat.le_of_ble_eq_true rfl, Nat.le_of_ble_eq_true rfl⟩ (fun H locs hP hD hS => ?_)
        have hP : va_P g.1 vwCl ((wU u (ah 0) (a0 0) (at9 0)) ++ ((wH g ah (Hperf (aCol v w) h)) ++ ((wT g at9 (sg, (nI n))) ++ ((wK0 g a0 ak ((nI od), (nI (sz + 1)))) ++ (wHs g ak (va_up hs ((od + sz) % 6) h) 6))))) _ := hP
        have hD : va_D A ((wU u (ah 0) (a0 0) (at9 0)) ++ ((wH g ah (Hperf (aCol v w) h)) ++ ((wT g at9 (sg, (nI n))) ++ ((wK0 g a0 ak ((nI od), (nI (sz + 1)))) ++ (wHs g ak (va_up hs ((od + sz) % 6) h) 6))))) := hD
        obtain ⟨z43, ez43⟩ : ∃ x : HSt, (Hperf (aCol v w) h) = x := ⟨_, rfl⟩
        rw [ez43] at hP hD
        have e9 : actH h v w = z43 := by rw [← ez43]; unfold actH; rw [q9]; all_goals rfl
        have e8 : actC (h, od, sz, hs, sg, n) v w = k5 (h, od, sz, hs, sg, n) z43 := (if_neg hN).trans (congrArg (k5 (h, od, sz, hs, sg, n)) e9)
        have hP : va_P g.1 vwCl (wC g u ah at9 a0 ak (actC (h, od, sz, hs, sg, n) v w)) H := by rw [e8]; exact hP
        have hD : va_D A (wC g u ah at9 a0 ak (actC (h, od, sz, hs, sg, n) v w)) := by rw [e8]; exact hD
        exact k_iret hx hb hr hlocks rfl (((if_neg hN : actA h v w = actR h v w).trans ((show actR h v w = (bc (Hget h (aCol v w) 8)) from by unfold actR; rw [q9]; all_goals rfl))).symm) hP hD hS (Nat.le_of_ble_eq_true rfl) (Nat.le_of_ble_eq_true rfl) dL_act_296
      ·
        refine k_top (show nI (aT v) = nI 14 by rw [q9]) ?_
        refine lv_tableOut (tgt := 297) hx hb dL_act_56 (by decide) (by decide) ?_
        have hN : ¬ aNo h v w := fun z => z.elim (fun y => absurd y.1 (by omega)) (fun y => absurd y.1.2 (by omega))
        refine lv_aload_n hx hb dL_act_297 rfl (lv_at hl 3 rfl) ?_
        refine lv_iconst (v := (nI 1)) hx hb dL_act_298 (by decide) ?_
        refine lv_iload_n hx hb dL_act_299 rfl (lv_at hl 5 rfl) ?_
        refine lv_iload_n hx hb dL_act_300 rfl (lv_at hl 5 rfl) ?_
        refine lv_bipush (v := (nI 20)) hx hb dL_act_301 (by decide) ?_
        refine lv_ishr hx hb dL_act_303 ?_
        refine lv_iconst (v := (nI 1)) hx hb dL_act_304 (by decide) ?_
        refine lv_iand hx hb dL_act_305 ?_
        refine k_meet (x := .int (nI (aPn w))) (pj := 316) (rest := [.int w, .int (nI 1), .ref u]) (fun J44 => ?_) ?_
        ·
          refine lv_if_ne (tgt := 314) hx hb dL_act_306 (by decide) (fun c45 => ?_) (fun c45 => ?_)
          ·
            refine lv_bipush (v := (nI 60)) hx hb dL_act_314 (by decide) ?_
            exact k_top (congrArg nI (show 60 = aPn w from (if_neg c45).symm)) J44
          ·
            refine lv_bipush (v := (nI 6)) hx hb dL_act_309 (by decide) ?_
            refine lv_goto (tgt := 316) hx hb dL_act_311 (by decide) ?_
            exact k_top (congrArg nI (show 6 = aPn w from (if_pos c45).symm)) J44
        ·
          refine k_Si (w0 := []) (w1 := []) (As := [.int w, .int (nI (aPn w))]) (r := (nI (lowN w (aPn w)))) hF (c_L_low l g w (aPn w) (aPn_b w).1 (Nat.le_trans (aPn_b w).2 (by decide))) (va_cwS 2 hts gL_act_L_low rfl rfl rfl (by decide +kernel) ⟨Nat.le_of_ble_eq_true rfl, Nat.le_of_ble_eq_true rfl⟩) hE hP hD hS hA (List.Perm.refl _) (List.Perm.refl _) rfl hl.1 rfl (Nat.le_of_ble_eq_true rfl) dL_act_316 ⟨Nat.le_of_ble_eq_true rfl, Nat.le_of_ble_eq_true rfl⟩ (fun H locs hP hD hS => ?_)
          have hP : va_P g.1 vwCl ((wU u (ah 0) (a0 0) (at9 0)) ++ ((wH g ah h) ++ ((wT g at9 (sg, (nI n))) ++ ((wK0 g a0 ak ((nI od), (nI sz))) ++ (wHs g ak hs 6))))) _ := hP
          have hD : va_D A ((wU u (ah 0) (a0 0) (at9 0)) ++ ((wH g ah h) ++ ((wT g at9 (sg, (nI n))) ++ ((wK0 g a0 ak ((nI od), (nI sz))) ++ (wHs g ak hs 6))))) := hD
          refine lv_iadd hx hb dL_act_319 ?_
          refine k_top (nI_add _ _) ?_
          refine k_Vi (As := [.int (nI (1 + (lowN w (aPn w))))]) (r := (nI (HpassQ h (1 + (lowN w (aPn w)))))) hF (c_X3_pass l g u ah at9 a0 ak h sg n od sz hs (by omega) (by omega) hbo (1 + (lowN w (aPn w))) (by omega) (by omega)) (cwV 1 hts gL_act_X3_pass rfl rfl rfl (by decide +kernel) ⟨Nat.le_of_ble_eq_true rfl, Nat.le_of_ble_eq_true rfl⟩) hE hP hD hS hA (k_pall _) ((k_pall _).symm) 0 rfl rfl rfl rfl hl.1 rfl (Nat.le_of_ble_eq_true rfl) dL_act_320 ⟨Nat.le_of_ble_eq_true rfl, Nat.le_of_ble_eq_true rfl⟩ (fun H locs hP hD hS => ?_)
          have hP : va_P g.1 vwCl ((wU u (ah 0) (a0 0) (at9 0)) ++ ((wH g ah (HpassN h (1 + (lowN w (aPn w))))) ++ ((wT g at9 (sg, (nI n))) ++ ((wK0 g a0 ak ((nI od), (nI (sz + 1)))) ++ (wHs g ak (va_up hs ((od + sz) % 6) h) 6))))) _ := hP
          have hD : va_D A ((wU u (ah 0) (a0 0) (at9 0)) ++ ((wH g ah (HpassN h (1 + (lowN w (aPn w))))) ++ ((wT g at9 (sg, (nI n))) ++ ((wK0 g a0 ak ((nI od), (nI (sz + 1)))) ++ (wHs g ak (va_up hs ((od + sz) % 6) h) 6))))) := hD
          obtain ⟨z46, ez46⟩ : ∃ x : HSt, (HpassN h (1 + (lowN w (aPn w)))) = x := ⟨_, rfl⟩
          rw [ez46] at hP hD
          have e9 : actH h v w = z46 := by rw [← ez46]; unfold actH; rw [q9]; all_goals rfl
          have e8 : actC (h, od, sz, hs, sg, n) v w = k5 (h, od, sz, hs, sg, n) z46 := (if_neg hN).trans (congrArg (k5 (h, od, sz, hs, sg, n)) e9)
          have hP : va_P g.1 vwCl (wC g u ah at9 a0 ak (actC (h, od, sz, hs, sg, n) v w)) H := by rw [e8]; exact hP
          have hD : va_D A (wC g u ah at9 a0 ak (actC (h, od, sz, hs, sg, n) v w)) := by rw [e8]; exact hD
          exact k_iret hx hb hr hlocks rfl (((if_neg hN : actA h v w = actR h v w).trans ((show actR h v w = (nI (HpassQ h (1 + (lowN w (aPn w))))) from by unfold actR; rw [q9]; all_goals rfl))).symm) hP hD hS (Nat.le_of_ble_eq_true rfl) (Nat.le_of_ble_eq_true rfl) dL_act_323
      ·
        refine k_top (show nI (aT v) = nI 15 by rw [q9]) ?_
        refine lv_tableOut (tgt := 297) hx hb dL_act_56 (by decide) (by decide) ?_
        have hN : ¬ aNo h v w := fun z => z.elim (fun y => absurd y.1 (by omega)) (fun y => absurd y.1.2 (by omega))
        refine lv_aload_n hx hb dL_act_297 rfl (lv_at hl 3 rfl) ?_
        refine lv_iconst (v := (nI 1)) hx hb dL_act_298 (by decide) ?_
        refine lv_iload_n hx hb dL_act_299 rfl (lv_at hl 5 rfl) ?_
        refine lv_iload_n hx hb dL_act_300 rfl (lv_at hl 5 rfl) ?_
        refine lv_bipush (v := (nI 20)) hx hb dL_act_301 (by decide) ?_
        refine lv_ishr hx hb dL_act_303 ?_
        refine lv_iconst (v := (nI 1)) hx hb dL_act_304 (by decide) ?_
        refine lv_iand hx hb dL_act_305 ?_
        refine k_meet (x := .int (nI (aPn w))) (pj := 316) (rest := [.int w, .int (nI 1), .ref u]) (fun J47 => ?_) ?_
        ·
          refine lv_if_ne (tgt := 314) hx hb dL_act_306 (by decide) (fun c48 => ?_) (fun c48 => ?_)
          ·
            refine lv_bipush (v := (nI 60)) hx hb dL_act_314 (by decide) ?_
            exact k_top (congrArg nI (show 60 = aPn w from (if_neg c48).symm)) J47
          ·
            refine lv_bipush (v := (nI 6)) hx hb dL_act_309 (by decide) ?_
            refine lv_goto (tgt := 316) hx hb dL_act_311 (by decide) ?_
            exact k_top (congrArg nI (show 6 = aPn w from (if_pos c48).symm)) J47
        ·
          refine k_Si (w0 := []) (w1 := []) (As := [.int w, .int (nI (aPn w))]) (r := (nI (lowN w (aPn w)))) hF (c_L_low l g w (aPn w) (aPn_b w).1 (Nat.le_trans (aPn_b w).2 (by decide))) (va_cwS 2 hts gL_act_L_low rfl rfl rfl (by decide +kernel) ⟨Nat.le_of_ble_eq_true rfl, Nat.le_of_ble_eq_true rfl⟩) hE hP hD hS hA (List.Perm.refl _) (List.Perm.refl _) rfl hl.1 rfl (Nat.le_of_ble_eq_true rfl) dL_act_316 ⟨Nat.le_of_ble_eq_true rfl, Nat.le_of_ble_eq_true rfl⟩ (fun H locs hP hD hS => ?_)
          have hP : va_P g.1 vwCl ((wU u (ah 0) (a0 0) (at9 0)) ++ ((wH g ah h) ++ ((wT g at9 (sg, (nI n))) ++ ((wK0 g a0 ak ((nI od), (nI sz))) ++ (wHs g ak hs 6))))) _ := hP
          have hD : va_D A ((wU u (ah 0) (a0 0) (at9 0)) ++ ((wH g ah h) ++ ((wT g at9 (sg, (nI n))) ++ ((wK0 g a0 ak ((nI od), (nI sz))) ++ (wHs g ak hs 6))))) := hD
          refine lv_iadd hx hb dL_act_319 ?_
          refine k_top (nI_add _ _) ?_
          refine k_Vi (As := [.int (nI (1 + (lowN w (aPn w))))]) (r := (nI (HpassQ h (1 + (lowN w (aPn w)))))) hF (c_X3_pass l g u ah at9 a0 ak h sg n od sz hs (by omega) (by omega) hbo (1 + (lowN w (aPn w))) (by omega) (by omega)) (cwV 1 hts gL_act_X3_pass rfl rfl rfl (by decide +kernel) ⟨Nat.le_of_ble_eq_true rfl, Nat.le_of_ble_eq_true rfl⟩) hE hP hD hS hA (k_pall _) ((k_pall _).symm) 0 rfl rfl rfl rfl hl.1 rfl (Nat.le_of_ble_eq_true rfl) dL_act_320 ⟨Nat.le_of_ble_eq_true rfl, Nat.le_of_ble_eq_true rfl⟩ (fun H locs hP hD hS => ?_)
          have hP : va_P g.1 vwCl ((wU u (ah 0) (a0 0) (at9 0)) ++ ((wH g ah (HpassN h (1 + (lowN w (aPn w))))) ++ ((wT g at9 (sg, (nI n))) ++ ((wK0 g a0 ak ((nI od), (nI (sz + 1)))) ++ (wHs g ak (va_up hs ((od + sz) % 6) h) 6))))) _ := hP
          have hD : va_D A ((wU u (ah 0) (a0 0) (at9 0)) ++ ((wH g ah (HpassN h (1 + (lowN w (aPn w))))) ++ ((wT g at9 (sg, (nI n))) ++ ((wK0 g a0 ak ((nI od), (nI (sz + 1)))) ++ (wHs g ak (va_up hs ((od + sz) % 6) h) 6))))) := hD
          obtain ⟨z49, ez49⟩ : ∃ x : HSt, (HpassN h (1 + (lowN w (aPn w)))) = x := ⟨_, rfl⟩
          rw [ez49] at hP hD
          have e9 : actH h v w = z49 := by rw [← ez49]; unfold actH; rw [q9]; all_goals rfl
          have e8 : actC (h, od, sz, hs, sg, n) v w = k5 (h, od, sz, hs, sg, n) z49 := (if_neg hN).trans (congrArg (k5 (h, od, sz, hs, sg, n)) e9)
          have hP : va_P g.1 vwCl (wC g u ah at9 a0 ak (actC (h, od, sz, hs, sg, n) v w)) H := by rw [e8]; exact hP
          have hD : va_D A (wC g u ah at9 a0 ak (actC (h, od, sz, hs, sg, n) v w)) := by rw [e8]; exact hD
          exact k_iret hx hb hr hlocks rfl (((if_neg hN : actA h v w = actR h v w).trans ((show actR h v w = (nI (HpassQ h (1 + (lowN w (aPn w))))) from by unfold actR; rw [q9]; all_goals rfl))).symm) hP hD hS (Nat.le_of_ble_eq_true rfl) (Nat.le_of_ble_eq_true rfl) dL_act_323
