set_option maxHeartbeats 4000000 in
set_option maxRecDepth 100000 in
theorem c_X4_does (l : Launch) (g : kG) (a : Nat → Nat) (m9 : MSt) (k : Nat) (hk : k ≤ 90) (hev : rdOK (mrd m9) k) : KI l yX4_does wsX4_does ({ frames := 4, cells := 0, slots := 0, locals := 85 }) g [.ref (a 0), .int (nI k)] (wM g a m9) (nI (MevN (mrd m9) k (ms m9))) (wM g a (sMs m9 (Mev (mrd m9) k (ms m9)))) 0 0 := by
  refine k_begin (cc := cX4_does) (maxL := 4) (ret := (some .boolean)) (Qc := fun A => kQi g (nI (MevN (mrd m9) k (ms m9))) (wM g a (sMs m9 (Mev (mrd m9) k (ms m9)))) A) (by decide) rfl (Nat.le_of_ble_eq_true rfl) ?_
  intro p e s m below meth c A ls hF hr hlocks hin hE hP hD hS hA hl
  obtain ⟨hx, hb, hml, hown, hts⟩ := id hF
  have hown : s.vm.findClass RX4 = some m.cls := hown
  have hl : lv_has ls 4 [(0, .ref (a 0)), (1, .int (nI k))] := hl
  have hiX4 : ∀ w ∈ wsX40, w ∈ wsX4_does := fun _ h => List.mem_cons_of_mem _ (List.mem_append_right _ (h))
  have f22 : (Cond.fieldLink RX4 22 "ConcertUsherModel" "read" "[I").before _ s = true := hts _ (List.mem_of_getElem? (i := 1) rfl)
  have f7 : (Cond.fieldLink RX4 7 "ConcertUsherModel" "s" "[I").before _ s = true := hts _ (List.mem_of_getElem? (i := 2) rfl)
  rcases hev with ⟨hq0, x9, y9, hx8, hy6, hex, hey⟩ | ⟨hq0, x9, y9, hx8, hy6, hex, hey⟩ | ⟨hq0, x9, y9, hx8, hy6, hex, hey⟩ | ⟨hq0, x9, hx8, hex⟩ | ⟨hq0, x9, hx8, hex⟩ | ⟨hq0, x9, hx8, hex⟩
  ·
    have hcl : Mcl (mrd m9) k = 6 * x9 + y9 := Mcl_eq hx8 hy6 hex hey
    refine lv_aload_n hx hb dX4_does_0 rfl (lv_at hl 0 rfl) ?_
    refine va_get (D := g.1) (ci := 4) (v := .ref (a 5)) (C := RX4) (T := TX4) (N := 12) hx hb hts hiX4 hown hE.1 hP 0 rfl rfl 9 (by decide) f22 (fun _ h9 => h9) rfl dX4_does_1 ?_
    refine lv_iload_n hx hb dX4_does_4 rfl (lv_at hl 1 rfl) ?_
    refine lv_iconst (v := (nI 1)) hx hb dX4_does_5 (by decide) ?_
    refine lv_iadd hx hb dX4_does_6 ?_
    refine k_top (nI_add _ _) ?_
    refine k_iald (f := (mrd m9)) hx hb hE hP 5 rfl (k + 1) rfl (by omega) (by decide) dX4_does_7 ?_
    refine k_top hex ?_
    refine lv_istore_n (lv' := [(2, .int (nI x9)), (0, .ref (a 0)), (1, .int (nI k))]) hx hb dX4_does_8 rfl hl (by decide) rfl (fun ls hl => ?_)
    refine lv_iload_n hx hb dX4_does_9 rfl (lv_at hl 0 rfl) ?_
    refine lv_aload_n hx hb dX4_does_10 rfl (lv_at hl 1 rfl) ?_
    refine va_get (D := g.1) (ci := 4) (v := .ref (a 5)) (C := RX4) (T := TX4) (N := 12) hx hb hts hiX4 hown hE.1 hP 0 rfl rfl 9 (by decide) f22 (fun _ h9 => h9) rfl dX4_does_11 ?_
    refine lv_iload_n hx hb dX4_does_14 rfl (lv_at hl 2 rfl) ?_
    refine lv_iconst (v := (nI 2)) hx hb dX4_does_15 (by decide) ?_
    refine lv_iadd hx hb dX4_does_16 ?_
    refine k_top (nI_add _ _) ?_
    refine k_iald (f := (mrd m9)) hx hb hE hP 5 rfl (k + 2) rfl (by omega) (by decide) dX4_does_17 ?_
    refine k_top hey ?_
    refine k_Si (w0 := []) (w1 := []) (As := [.int (nI x9), .int (nI y9)]) (r := (nI (6 * x9 + y9))) hF (c_X4_cellOf l g x9 y9) (va_cwS 2 hts gX4_does_X4_cellOf rfl rfl rfl (by decide +kernel) ⟨Nat.le_of_ble_eq_true rfl, Nat.le_of_ble_eq_true rfl⟩) hE hP hD hS hA (List.Perm.refl _) (List.Perm.refl _) rfl hl.1 rfl (Nat.le_of_ble_eq_true rfl) dX4_does_18 ⟨Nat.le_of_ble_eq_true rfl, Nat.le_of_ble_eq_true rfl⟩ (fun H locs hP hD hS => ?_)
    have hP : va_P g.1 vwCl (wM g a m9) _ := hP
    have hD : va_D A (wM g a m9) := hD
    refine lv_istore_n (lv' := [(3, .int (nI (6 * x9 + y9))), (2, .int (nI x9)), (0, .ref (a 0)), (1, .int (nI k))]) hx hb dX4_does_21 rfl hl (by decide) rfl (fun ls hl => ?_)
    refine lv_aload_n hx hb dX4_does_22 rfl (lv_at hl 2 rfl) ?_
    refine va_get (D := g.1) (ci := 4) (v := .ref (a 5)) (C := RX4) (T := TX4) (N := 12) hx hb hts hiX4 hown hE.1 hP 0 rfl rfl 9 (by decide) f22 (fun _ h9 => h9) rfl dX4_does_23 ?_
    refine lv_iload_n hx hb dX4_does_26 rfl (lv_at hl 3 rfl) ?_
    refine k_iald (f := (mrd m9)) hx hb hE hP 5 rfl k rfl (by omega) (by decide) dX4_does_27 ?_
    refine k_top hq0 ?_
    refine lv_lookup (off := 52) (tgt := 80) hx hb dX4_does_28 (by decide) (by decide) (by decide) ?_
    refine lv_aload_n hx hb dX4_does_80 rfl (lv_at hl 2 rfl) ?_
    refine va_get (D := g.1) (ci := 4) (v := .ref (a 1)) (C := RX4) (T := TX4) (N := 12) hx hb hts hiX4 hown hE.1 hP 0 rfl rfl 1 (by decide) f7 (fun _ h9 => h9) rfl dX4_does_81 ?_
    refine lv_bipush (v := (nI 21)) hx hb dX4_does_84 (by decide) ?_
    refine lv_iload_n hx hb dX4_does_86 rfl (lv_at hl 0 rfl) ?_
    refine lv_iadd hx hb dX4_does_87 ?_
    refine k_top (nI_add _ _) ?_
    refine k_iald (f := (ms m9)) hx hb hE hP 1 rfl (21 + (6 * x9 + y9)) rfl (by omega) (by decide) dX4_does_88 ?_
    refine lv_bipush (v := (nI 9)) hx hb dX4_does_89 (by decide) ?_
    refine lv_icmp_ge (tgt := 106) hx hb dX4_does_91 (by decide) (fun c1 => ?_) (fun c1 => ?_)
    ·
      refine lv_iconst (v := (nI 0)) hx hb dX4_does_106 (by decide) ?_
      have e2 : (sMs m9 (Mev (mrd m9) k (ms m9))) = m9 := (by first | (simp only [Mev, MevN, MevC, MevCB, MevL, MevLB, if_pos c1, if_neg (not_not_intro c1), if_pos hq0, hcl]; done) | (simp only [Mev, MevN, MevC, MevCB, MevL, MevLB, if_pos c1, if_neg (not_not_intro c1), if_pos hq0, hcl]; with_reducible rfl) | (simp only [Mev, MevN, MevC, MevCB, MevL, MevLB, if_pos c1, if_neg (not_not_intro c1), if_pos hq0, hcl]; (repeat (first | rw [if_neg (not_not_intro c1)] | rw [if_pos c1])); done) | with_reducible rfl | (simp [Mev, MevN, MevC, MevCB, MevL, MevLB, if_pos c1, if_neg (not_not_intro c1), if_pos hq0, hcl]; done))
      have hP : va_P g.1 vwCl (wM g a (sMs m9 (Mev (mrd m9) k (ms m9)))) H := by rw [e2]; exact hP
      have hD : va_D A (wM g a (sMs m9 (Mev (mrd m9) k (ms m9)))) := by rw [e2]; exact hD
      exact k_iret hx hb hr hlocks rfl (by first | (simp only [Mev, MevN, MevC, MevCB, MevL, MevLB, bI, if_pos c1, if_neg (not_not_intro c1), if_pos hq0, hcl]; done) | (simp only [Mev, MevN, MevC, MevCB, MevL, MevLB, bI, if_pos c1, if_neg (not_not_intro c1), if_pos hq0, hcl]; with_reducible rfl) | (simp only [Mev, MevN, MevC, MevCB, MevL, MevLB, bI, if_pos c1, if_neg (not_not_intro c1), if_pos hq0, hcl]; (repeat (first | rw [if_neg (not_not_intro c1)] | rw [if_pos c1])); done) | with_reducible rfl | (simp [Mev, MevN, MevC, MevCB, MevL, MevLB, bI, if_pos c1, if_neg (not_not_intro c1), if_pos hq0, hcl]; done)) hP hD hS (Nat.le_of_ble_eq_true rfl) (Nat.le_of_ble_eq_true rfl) dX4_does_107
    ·
      refine lv_aload_n hx hb dX4_does_94 rfl (lv_at hl 2 rfl) ?_
      refine lv_iload_n hx hb dX4_does_95 rfl (lv_at hl 0 rfl) ?_
      refine k_Vi (As := [.int (nI (6 * x9 + y9))]) (r := (Mcomes (6 * x9 + y9) (ms m9) (21 + (6 * x9 + y9)))) hF (c_X4_comes l g a m9 (6 * x9 + y9) (by omega)) (cwV 1 hts gX4_does_X4_comes rfl rfl rfl (by decide +kernel) ⟨Nat.le_of_ble_eq_true rfl, Nat.le_of_ble_eq_true rfl⟩) hE hP hD hS hA (k_pall _) ((k_pall _).symm) 0 rfl rfl rfl rfl hl.1 rfl (Nat.le_of_ble_eq_true rfl) dX4_does_96 ⟨Nat.le_of_ble_eq_true rfl, Nat.le_of_ble_eq_true rfl⟩ (fun H locs hP hD hS => ?_)
      have hP : va_P g.1 vwCl (wM g a (sMs m9 (Mcomes (6 * x9 + y9) (ms m9)))) _ := hP
      have hD : va_D A (wM g a (sMs m9 (Mcomes (6 * x9 + y9) (ms m9)))) := hD
      refine lv_if_le (tgt := 106) hx hb dX4_does_99 (by decide) (fun c3 => ?_) (fun c3 => ?_)
      ·
        refine lv_iconst (v := (nI 0)) hx hb dX4_does_106 (by decide) ?_
        have e4 : (sMs m9 (Mev (mrd m9) k (ms m9))) = (sMs m9 (Mcomes (6 * x9 + y9) (ms m9))) := (by first | (simp only [Mev, MevN, MevC, MevCB, MevL, MevLB, if_neg c1, if_pos c1, if_pos c3, if_neg (not_not_intro c3), if_pos hq0, hcl]; done) | (simp only [Mev, MevN, MevC, MevCB, MevL, MevLB, if_neg c1, if_pos c1, if_pos c3, if_neg (not_not_intro c3), if_pos hq0, hcl]; with_reducible rfl) | (simp only [Mev, MevN, MevC, MevCB, MevL, MevLB, if_neg c1, if_pos c1, if_pos c3, if_neg (not_not_intro c3), if_pos hq0, hcl]; (repeat (first | rw [if_neg (not_not_intro c3)] | rw [if_pos c3] | rw [if_neg c1])); done) | with_reducible rfl | (simp [Mev, MevN, MevC, MevCB, MevL, MevLB, if_neg c1, if_pos c1, if_pos c3, if_neg (not_not_intro c3), if_pos hq0, hcl]; done))
        have hP : va_P g.1 vwCl (wM g a (sMs m9 (Mev (mrd m9) k (ms m9)))) H := by rw [e4]; exact hP
        have hD : va_D A (wM g a (sMs m9 (Mev (mrd m9) k (ms m9)))) := by rw [e4]; exact hD
        exact k_iret hx hb hr hlocks rfl (by first | (simp only [Mev, MevN, MevC, MevCB, MevL, MevLB, bI, if_neg c1, if_pos c1, if_pos c3, if_neg (not_not_intro c3), if_pos hq0, hcl]; done) | (simp only [Mev, MevN, MevC, MevCB, MevL, MevLB, bI, if_neg c1, if_pos c1, if_pos c3, if_neg (not_not_intro c3), if_pos hq0, hcl]; with_reducible rfl) | (simp only [Mev, MevN, MevC, MevCB, MevL, MevLB, bI, if_neg c1, if_pos c1, if_pos c3, if_neg (not_not_intro c3), if_pos hq0, hcl]; (repeat (first | rw [if_neg (not_not_intro c3)] | rw [if_pos c3] | rw [if_neg c1])); done) | with_reducible rfl | (simp [Mev, MevN, MevC, MevCB, MevL, MevLB, bI, if_neg c1, if_pos c1, if_pos c3, if_neg (not_not_intro c3), if_pos hq0, hcl]; done)) hP hD hS (Nat.le_of_ble_eq_true rfl) (Nat.le_of_ble_eq_true rfl) dX4_does_107
      ·
        refine lv_iconst (v := (nI 1)) hx hb dX4_does_102 (by decide) ?_
        refine lv_goto (tgt := 107) hx hb dX4_does_103 (by decide) ?_
        have e5 : (sMs m9 (Mev (mrd m9) k (ms m9))) = (sMs m9 (Mcomes (6 * x9 + y9) (ms m9))) := (by first | (simp only [Mev, MevN, MevC, MevCB, MevL, MevLB, if_neg c1, if_pos c1, if_neg c3, if_pos c3, if_pos hq0, hcl]; done) | (simp only [Mev, MevN, MevC, MevCB, MevL, MevLB, if_neg c1, if_pos c1, if_neg c3, if_pos c3, if_pos hq0, hcl]; with_reducible rfl) | (simp only [Mev, MevN, MevC, MevCB, MevL, MevLB, if_neg c1, if_pos c1, if_neg c3, if_pos c3, if_pos hq0, hcl]; (repeat (first | rw [if_neg c3] | rw [if_neg c1])); done) | with_reducible rfl | (simp [Mev, MevN, MevC, MevCB, MevL, MevLB, if_neg c1, if_pos c1, if_neg c3, if_pos c3, if_pos hq0, hcl]; done))
        have hP : va_P g.1 vwCl (wM g a (sMs m9 (Mev (mrd m9) k (ms m9)))) H := by rw [e5]; exact hP
        have hD : va_D A (wM g a (sMs m9 (Mev (mrd m9) k (ms m9)))) := by rw [e5]; exact hD
        exact k_iret hx hb hr hlocks rfl (by first | (simp only [Mev, MevN, MevC, MevCB, MevL, MevLB, bI, if_neg c1, if_pos c1, if_neg c3, if_pos c3, if_pos hq0, hcl]; done) | (simp only [Mev, MevN, MevC, MevCB, MevL, MevLB, bI, if_neg c1, if_pos c1, if_neg c3, if_pos c3, if_pos hq0, hcl]; with_reducible rfl) | (simp only [Mev, MevN, MevC, MevCB, MevL, MevLB, bI, if_neg c1, if_pos c1, if_neg c3, if_pos c3, if_pos hq0, hcl]; (repeat (first | rw [if_neg c3] | rw [if_neg c1])); done) | with_reducible rfl | (simp [Mev, MevN, MevC, MevCB, MevL, MevLB, bI, if_neg c1, if_pos c1, if_neg c3, if_pos c3, if_pos hq0, hcl]; done)) hP hD hS (Nat.le_of_ble_eq_true rfl) (Nat.le_of_ble_eq_true rfl) dX4_does_107
  ·
    have hz99 : ¬ mrd m9 k = nI 99 := by rw [hq0]; decide
    have hcl : Mcl (mrd m9) k = 6 * x9 + y9 := Mcl_eq hx8 hy6 hex hey
    refine lv_aload_n hx hb dX4_does_0 rfl (lv_at hl 0 rfl) ?_
    refine va_get (D := g.1) (ci := 4) (v := .ref (a 5)) (C := RX4) (T := TX4) (N := 12) hx hb hts hiX4 hown hE.1 hP 0 rfl rfl 9 (by decide) f22 (fun _ h9 => h9) rfl dX4_does_1 ?_
    refine lv_iload_n hx hb dX4_does_4 rfl (lv_at hl 1 rfl) ?_
    refine lv_iconst (v := (nI 1)) hx hb dX4_does_5 (by decide) ?_
    refine lv_iadd hx hb dX4_does_6 ?_
    refine k_top (nI_add _ _) ?_
    refine k_iald (f := (mrd m9)) hx hb hE hP 5 rfl (k + 1) rfl (by omega) (by decide) dX4_does_7 ?_
    refine k_top hex ?_
    refine lv_istore_n (lv' := [(2, .int (nI x9)), (0, .ref (a 0)), (1, .int (nI k))]) hx hb dX4_does_8 rfl hl (by decide) rfl (fun ls hl => ?_)
    refine lv_iload_n hx hb dX4_does_9 rfl (lv_at hl 0 rfl) ?_
    refine lv_aload_n hx hb dX4_does_10 rfl (lv_at hl 1 rfl) ?_
    refine va_get (D := g.1) (ci := 4) (v := .ref (a 5)) (C := RX4) (T := TX4) (N := 12) hx hb hts hiX4 hown hE.1 hP 0 rfl rfl 9 (by decide) f22 (fun _ h9 => h9) rfl dX4_does_11 ?_
    refine lv_iload_n hx hb dX4_does_14 rfl (lv_at hl 2 rfl) ?_
    refine lv_iconst (v := (nI 2)) hx hb dX4_does_15 (by decide) ?_
    refine lv_iadd hx hb dX4_does_16 ?_
    refine k_top (nI_add _ _) ?_
    refine k_iald (f := (mrd m9)) hx hb hE hP 5 rfl (k + 2) rfl (by omega) (by decide) dX4_does_17 ?_
    refine k_top hey ?_
    refine k_Si (w0 := []) (w1 := []) (As := [.int (nI x9), .int (nI y9)]) (r := (nI (6 * x9 + y9))) hF (c_X4_cellOf l g x9 y9) (va_cwS 2 hts gX4_does_X4_cellOf rfl rfl rfl (by decide +kernel) ⟨Nat.le_of_ble_eq_true rfl, Nat.le_of_ble_eq_true rfl⟩) hE hP hD hS hA (List.Perm.refl _) (List.Perm.refl _) rfl hl.1 rfl (Nat.le_of_ble_eq_true rfl) dX4_does_18 ⟨Nat.le_of_ble_eq_true rfl, Nat.le_of_ble_eq_true rfl⟩ (fun H locs hP hD hS => ?_)
    have hP : va_P g.1 vwCl (wM g a m9) _ := hP
    have hD : va_D A (wM g a m9) := hD
    refine lv_istore_n (lv' := [(3, .int (nI (6 * x9 + y9))), (2, .int (nI x9)), (0, .ref (a 0)), (1, .int (nI k))]) hx hb dX4_does_21 rfl hl (by decide) rfl (fun ls hl => ?_)
    refine lv_aload_n hx hb dX4_does_22 rfl (lv_at hl 2 rfl) ?_
    refine va_get (D := g.1) (ci := 4) (v := .ref (a 5)) (C := RX4) (T := TX4) (N := 12) hx hb hts hiX4 hown hE.1 hP 0 rfl rfl 9 (by decide) f22 (fun _ h9 => h9) rfl dX4_does_23 ?_
    refine lv_iload_n hx hb dX4_does_26 rfl (lv_at hl 3 rfl) ?_
    refine k_iald (f := (mrd m9)) hx hb hE hP 5 rfl k rfl (by omega) (by decide) dX4_does_27 ?_
    refine k_top hq0 ?_
    refine lv_lookup (off := 80) (tgt := 108) hx hb dX4_does_28 (by decide) (by decide) (by decide) ?_
    refine lv_aload_n hx hb dX4_does_108 rfl (lv_at hl 2 rfl) ?_
    refine va_get (D := g.1) (ci := 4) (v := .ref (a 1)) (C := RX4) (T := TX4) (N := 12) hx hb hts hiX4 hown hE.1 hP 0 rfl rfl 1 (by decide) f7 (fun _ h9 => h9) rfl dX4_does_109 ?_
    refine lv_bipush (v := (nI 21)) hx hb dX4_does_112 (by decide) ?_
    refine lv_iload_n hx hb dX4_does_114 rfl (lv_at hl 0 rfl) ?_
    refine lv_iadd hx hb dX4_does_115 ?_
    refine k_top (nI_add _ _) ?_
    refine k_iald (f := (ms m9)) hx hb hE hP 1 rfl (21 + (6 * x9 + y9)) rfl (by omega) (by decide) dX4_does_116 ?_
    refine lv_if_le (tgt := 148) hx hb dX4_does_117 (by decide) (fun c6 => ?_) (fun c6 => ?_)
    ·
      refine lv_iconst (v := (nI 0)) hx hb dX4_does_148 (by decide) ?_
      have e7 : (sMs m9 (Mev (mrd m9) k (ms m9))) = m9 := (by first | (simp only [Mev, MevN, MevC, MevCB, MevL, MevLB, if_pos c6, if_neg (not_not_intro c6), if_neg hz99, if_pos hq0, hcl]; done) | (simp only [Mev, MevN, MevC, MevCB, MevL, MevLB, if_pos c6, if_neg (not_not_intro c6), if_neg hz99, if_pos hq0, hcl]; with_reducible rfl) | (simp only [Mev, MevN, MevC, MevCB, MevL, MevLB, if_pos c6, if_neg (not_not_intro c6), if_neg hz99, if_pos hq0, hcl]; (repeat (first | rw [if_neg (not_not_intro c6)] | rw [if_pos c6])); done) | with_reducible rfl | (simp [Mev, MevN, MevC, MevCB, MevL, MevLB, if_pos c6, if_neg (not_not_intro c6), if_neg hz99, if_pos hq0, hcl]; done))
      have hP : va_P g.1 vwCl (wM g a (sMs m9 (Mev (mrd m9) k (ms m9)))) H := by rw [e7]; exact hP
      have hD : va_D A (wM g a (sMs m9 (Mev (mrd m9) k (ms m9)))) := by rw [e7]; exact hD
      exact k_iret hx hb hr hlocks rfl (by first | (simp only [Mev, MevN, MevC, MevCB, MevL, MevLB, bI, if_pos c6, if_neg (not_not_intro c6), if_neg hz99, if_pos hq0, hcl]; done) | (simp only [Mev, MevN, MevC, MevCB, MevL, MevLB, bI, if_pos c6, if_neg (not_not_intro c6), if_neg hz99, if_pos hq0, hcl]; with_reducible rfl) | (simp only [Mev, MevN, MevC, MevCB, MevL, MevLB, bI, if_pos c6, if_neg (not_not_intro c6), if_neg hz99, if_pos hq0, hcl]; (repeat (first | rw [if_neg (not_not_intro c6)] | rw [if_pos c6])); done) | with_reducible rfl | (simp [Mev, MevN, MevC, MevCB, MevL, MevLB, bI, if_pos c6, if_neg (not_not_intro c6), if_neg hz99, if_pos hq0, hcl]; done)) hP hD hS (Nat.le_of_ble_eq_true rfl) (Nat.le_of_ble_eq_true rfl) dX4_does_149
    ·
      refine lv_aload_n hx hb dX4_does_120 rfl (lv_at hl 2 rfl) ?_
      refine lv_iload_n hx hb dX4_does_121 rfl (lv_at hl 0 rfl) ?_
      refine lv_aload_n hx hb dX4_does_122 rfl (lv_at hl 2 rfl) ?_
      refine va_get (D := g.1) (ci := 4) (v := .ref (a 5)) (C := RX4) (T := TX4) (N := 12) hx hb hts hiX4 hown hE.1 hP 0 rfl rfl 9 (by decide) f22 (fun _ h9 => h9) rfl dX4_does_123 ?_
      refine lv_iload_n hx hb dX4_does_126 rfl (lv_at hl 3 rfl) ?_
      refine k_iald (f := (mrd m9)) hx hb hE hP 5 rfl k rfl (by omega) (by decide) dX4_does_127 ?_
      refine k_top hq0 ?_
      refine lv_bipush (v := (nI 108)) hx hb dX4_does_128 (by decide) ?_
      refine k_neN (tgt := 137) hx hb (by decide) (by decide) dX4_does_130 (by decide) (fun c8 => ?_) (fun c8 => ?_)
      ·
        exact absurd c8 (by decide)
      ·
        refine lv_iconst (v := (nI 1)) hx hb dX4_does_133 (by decide) ?_
        refine lv_goto (tgt := 138) hx hb dX4_does_134 (by decide) ?_
        refine k_Vi (As := [.int (nI (6 * x9 + y9)), .int (nI 1)]) (r := (Mleaves (6 * x9 + y9) 1 (ms m9) (21 + (6 * x9 + y9)))) hF (c_X4_leaves l g a m9 (6 * x9 + y9) (by omega) 1 (by decide)) (cwV 2 hts gX4_does_X4_leaves rfl rfl rfl (by decide +kernel) ⟨Nat.le_of_ble_eq_true rfl, Nat.le_of_ble_eq_true rfl⟩) hE hP hD hS hA (k_pall _) ((k_pall _).symm) 0 rfl rfl rfl rfl hl.1 rfl (Nat.le_of_ble_eq_true rfl) dX4_does_138 ⟨Nat.le_of_ble_eq_true rfl, Nat.le_of_ble_eq_true rfl⟩ (fun H locs hP hD hS => ?_)
        have hP : va_P g.1 vwCl (wM g a (sMs m9 (Mleaves (6 * x9 + y9) 1 (ms m9)))) _ := hP
        have hD : va_D A (wM g a (sMs m9 (Mleaves (6 * x9 + y9) 1 (ms m9)))) := hD
        refine lv_if_lt (tgt := 148) hx hb dX4_does_141 (by decide) (fun c10 => ?_) (fun c10 => ?_)
        ·
          refine lv_iconst (v := (nI 0)) hx hb dX4_does_148 (by decide) ?_
          have e11 : (sMs m9 (Mev (mrd m9) k (ms m9))) = (sMs m9 (Mleaves (6 * x9 + y9) 1 (ms m9))) := (by first | (simp only [Mev, MevN, MevC, MevCB, MevL, MevLB, if_neg c6, if_pos c6, if_pos c8, if_neg (not_not_intro c8), if_pos c10, if_neg (not_not_intro c10), if_neg hz99, if_pos hq0, hcl]; done) | (simp only [Mev, MevN, MevC, MevCB, MevL, MevLB, if_neg c6, if_pos c6, if_pos c8, if_neg (not_not_intro c8), if_pos c10, if_neg (not_not_intro c10), if_neg hz99, if_pos hq0, hcl]; with_reducible rfl) | (simp only [Mev, MevN, MevC, MevCB, MevL, MevLB, if_neg c6, if_pos c6, if_pos c8, if_neg (not_not_intro c8), if_pos c10, if_neg (not_not_intro c10), if_neg hz99, if_pos hq0, hcl]; (repeat (first | rw [if_neg (not_not_intro c10)] | rw [if_pos c10] | rw [if_neg (not_not_intro c8)] | rw [if_pos c8] | rw [if_neg c6])); done) | with_reducible rfl | (simp [Mev, MevN, MevC, MevCB, MevL, MevLB, if_neg c6, if_pos c6, if_pos c8, if_neg (not_not_intro c8), if_pos c10, if_neg (not_not_intro c10), if_neg hz99, if_pos hq0, hcl]; done))
          have hP : va_P g.1 vwCl (wM g a (sMs m9 (Mev (mrd m9) k (ms m9)))) H := by rw [e11]; exact hP
          have hD : va_D A (wM g a (sMs m9 (Mev (mrd m9) k (ms m9)))) := by rw [e11]; exact hD
          exact k_iret hx hb hr hlocks rfl (by first | (simp only [Mev, MevN, MevC, MevCB, MevL, MevLB, bI, if_neg c6, if_pos c6, if_pos c8, if_neg (not_not_intro c8), if_pos c10, if_neg (not_not_intro c10), if_neg hz99, if_pos hq0, hcl]; done) | (simp only [Mev, MevN, MevC, MevCB, MevL, MevLB, bI, if_neg c6, if_pos c6, if_pos c8, if_neg (not_not_intro c8), if_pos c10, if_neg (not_not_intro c10), if_neg hz99, if_pos hq0, hcl]; with_reducible rfl) | (simp only [Mev, MevN, MevC, MevCB, MevL, MevLB, bI, if_neg c6, if_pos c6, if_pos c8, if_neg (not_not_intro c8), if_pos c10, if_neg (not_not_intro c10), if_neg hz99, if_pos hq0, hcl]; (repeat (first | rw [if_neg (not_not_intro c10)] | rw [if_pos c10] | rw [if_neg (not_not_intro c8)] | rw [if_pos c8] | rw [if_neg c6])); done) | with_reducible rfl | (simp [Mev, MevN, MevC, MevCB, MevL, MevLB, bI, if_neg c6, if_pos c6, if_pos c8, if_neg (not_not_intro c8), if_pos c10, if_neg (not_not_intro c10), if_neg hz99, if_pos hq0, hcl]; done)) hP hD hS (Nat.le_of_ble_eq_true rfl) (Nat.le_of_ble_eq_true rfl) dX4_does_149
        ·
          refine lv_iconst (v := (nI 1)) hx hb dX4_does_144 (by decide) ?_
          refine lv_goto (tgt := 149) hx hb dX4_does_145 (by decide) ?_
          have e12 : (sMs m9 (Mev (mrd m9) k (ms m9))) = (sMs m9 (Mleaves (6 * x9 + y9) 1 (ms m9))) := (by first | (simp only [Mev, MevN, MevC, MevCB, MevL, MevLB, if_neg c6, if_pos c6, if_pos c8, if_neg (not_not_intro c8), if_neg c10, if_pos c10, if_neg hz99, if_pos hq0, hcl]; done) | (simp only [Mev, MevN, MevC, MevCB, MevL, MevLB, if_neg c6, if_pos c6, if_pos c8, if_neg (not_not_intro c8), if_neg c10, if_pos c10, if_neg hz99, if_pos hq0, hcl]; with_reducible rfl) | (simp only [Mev, MevN, MevC, MevCB, MevL, MevLB, if_neg c6, if_pos c6, if_pos c8, if_neg (not_not_intro c8), if_neg c10, if_pos c10, if_neg hz99, if_pos hq0, hcl]; (repeat (first | rw [if_neg c10] | rw [if_neg (not_not_intro c8)] | rw [if_pos c8] | rw [if_neg c6])); done) | with_reducible rfl | (simp [Mev, MevN, MevC, MevCB, MevL, MevLB, if_neg c6, if_pos c6, if_pos c8, if_neg (not_not_intro c8), if_neg c10, if_pos c10, if_neg hz99, if_pos hq0, hcl]; done))
          have hP : va_P g.1 vwCl (wM g a (sMs m9 (Mev (mrd m9) k (ms m9)))) H := by rw [e12]; exact hP
          have hD : va_D A (wM g a (sMs m9 (Mev (mrd m9) k (ms m9)))) := by rw [e12]; exact hD
          exact k_iret hx hb hr hlocks rfl (by first | (simp only [Mev, MevN, MevC, MevCB, MevL, MevLB, bI, if_neg c6, if_pos c6, if_pos c8, if_neg (not_not_intro c8), if_neg c10, if_pos c10, if_neg hz99, if_pos hq0, hcl]; done) | (simp only [Mev, MevN, MevC, MevCB, MevL, MevLB, bI, if_neg c6, if_pos c6, if_pos c8, if_neg (not_not_intro c8), if_neg c10, if_pos c10, if_neg hz99, if_pos hq0, hcl]; with_reducible rfl) | (simp only [Mev, MevN, MevC, MevCB, MevL, MevLB, bI, if_neg c6, if_pos c6, if_pos c8, if_neg (not_not_intro c8), if_neg c10, if_pos c10, if_neg hz99, if_pos hq0, hcl]; (repeat (first | rw [if_neg c10] | rw [if_neg (not_not_intro c8)] | rw [if_pos c8] | rw [if_neg c6])); done) | with_reducible rfl | (simp [Mev, MevN, MevC, MevCB, MevL, MevLB, bI, if_neg c6, if_pos c6, if_pos c8, if_neg (not_not_intro c8), if_neg c10, if_pos c10, if_neg hz99, if_pos hq0, hcl]; done)) hP hD hS (Nat.le_of_ble_eq_true rfl) (Nat.le_of_ble_eq_true rfl) dX4_does_149
  ·
    have hz99 : ¬ mrd m9 k = nI 99 := by rw [hq0]; decide
    have hz108 : ¬ mrd m9 k = nI 108 := by rw [hq0]; decide
    have hcl : Mcl (mrd m9) k = 6 * x9 + y9 := Mcl_eq hx8 hy6 hex hey
    refine lv_aload_n hx hb dX4_does_0 rfl (lv_at hl 0 rfl) ?_
    refine va_get (D := g.1) (ci := 4) (v := .ref (a 5)) (C := RX4) (T := TX4) (N := 12) hx hb hts hiX4 hown hE.1 hP 0 rfl rfl 9 (by decide) f22 (fun _ h9 => h9) rfl dX4_does_1 ?_
    refine lv_iload_n hx hb dX4_does_4 rfl (lv_at hl 1 rfl) ?_
    refine lv_iconst (v := (nI 1)) hx hb dX4_does_5 (by decide) ?_
    refine lv_iadd hx hb dX4_does_6 ?_
    refine k_top (nI_add _ _) ?_
    refine k_iald (f := (mrd m9)) hx hb hE hP 5 rfl (k + 1) rfl (by omega) (by decide) dX4_does_7 ?_
    refine k_top hex ?_
    refine lv_istore_n (lv' := [(2, .int (nI x9)), (0, .ref (a 0)), (1, .int (nI k))]) hx hb dX4_does_8 rfl hl (by decide) rfl (fun ls hl => ?_)
    refine lv_iload_n hx hb dX4_does_9 rfl (lv_at hl 0 rfl) ?_
    refine lv_aload_n hx hb dX4_does_10 rfl (lv_at hl 1 rfl) ?_
    refine va_get (D := g.1) (ci := 4) (v := .ref (a 5)) (C := RX4) (T := TX4) (N := 12) hx hb hts hiX4 hown hE.1 hP 0 rfl rfl 9 (by decide) f22 (fun _ h9 => h9) rfl dX4_does_11 ?_
    refine lv_iload_n hx hb dX4_does_14 rfl (lv_at hl 2 rfl) ?_
    refine lv_iconst (v := (nI 2)) hx hb dX4_does_15 (by decide) ?_
    refine lv_iadd hx hb dX4_does_16 ?_
    refine k_top (nI_add _ _) ?_
    refine k_iald (f := (mrd m9)) hx hb hE hP 5 rfl (k + 2) rfl (by omega) (by decide) dX4_does_17 ?_
    refine k_top hey ?_
    refine k_Si (w0 := []) (w1 := []) (As := [.int (nI x9), .int (nI y9)]) (r := (nI (6 * x9 + y9))) hF (c_X4_cellOf l g x9 y9) (va_cwS 2 hts gX4_does_X4_cellOf rfl rfl rfl (by decide +kernel) ⟨Nat.le_of_ble_eq_true rfl, Nat.le_of_ble_eq_true rfl⟩) hE hP hD hS hA (List.Perm.refl _) (List.Perm.refl _) rfl hl.1 rfl (Nat.le_of_ble_eq_true rfl) dX4_does_18 ⟨Nat.le_of_ble_eq_true rfl, Nat.le_of_ble_eq_true rfl⟩ (fun H locs hP hD hS => ?_)
    have hP : va_P g.1 vwCl (wM g a m9) _ := hP
    have hD : va_D A (wM g a m9) := hD
    refine lv_istore_n (lv' := [(3, .int (nI (6 * x9 + y9))), (2, .int (nI x9)), (0, .ref (a 0)), (1, .int (nI k))]) hx hb dX4_does_21 rfl hl (by decide) rfl (fun ls hl => ?_)
    refine lv_aload_n hx hb dX4_does_22 rfl (lv_at hl 2 rfl) ?_
    refine va_get (D := g.1) (ci := 4) (v := .ref (a 5)) (C := RX4) (T := TX4) (N := 12) hx hb hts hiX4 hown hE.1 hP 0 rfl rfl 9 (by decide) f22 (fun _ h9 => h9) rfl dX4_does_23 ?_
    refine lv_iload_n hx hb dX4_does_26 rfl (lv_at hl 3 rfl) ?_
    refine k_iald (f := (mrd m9)) hx hb hE hP 5 rfl k rfl (by omega) (by decide) dX4_does_27 ?_
    refine k_top hq0 ?_
    refine lv_lookup (off := 80) (tgt := 108) hx hb dX4_does_28 (by decide) (by decide) (by decide) ?_
    refine lv_aload_n hx hb dX4_does_108 rfl (lv_at hl 2 rfl) ?_
    refine va_get (D := g.1) (ci := 4) (v := .ref (a 1)) (C := RX4) (T := TX4) (N := 12) hx hb hts hiX4 hown hE.1 hP 0 rfl rfl 1 (by decide) f7 (fun _ h9 => h9) rfl dX4_does_109 ?_
    refine lv_bipush (v := (nI 21)) hx hb dX4_does_112 (by decide) ?_
    refine lv_iload_n hx hb dX4_does_114 rfl (lv_at hl 0 rfl) ?_
    refine lv_iadd hx hb dX4_does_115 ?_
    refine k_top (nI_add _ _) ?_
    refine k_iald (f := (ms m9)) hx hb hE hP 1 rfl (21 + (6 * x9 + y9)) rfl (by omega) (by decide) dX4_does_116 ?_
    refine lv_if_le (tgt := 148) hx hb dX4_does_117 (by decide) (fun c13 => ?_) (fun c13 => ?_)
    ·
      refine lv_iconst (v := (nI 0)) hx hb dX4_does_148 (by decide) ?_
      have e14 : (sMs m9 (Mev (mrd m9) k (ms m9))) = m9 := (by first | (simp only [Mev, MevN, MevC, MevCB, MevL, MevLB, if_pos c13, if_neg (not_not_intro c13), if_neg hz99, if_neg hz108, if_pos hq0, hcl]; done) | (simp only [Mev, MevN, MevC, MevCB, MevL, MevLB, if_pos c13, if_neg (not_not_intro c13), if_neg hz99, if_neg hz108, if_pos hq0, hcl]; with_reducible rfl) | (simp only [Mev, MevN, MevC, MevCB, MevL, MevLB, if_pos c13, if_neg (not_not_intro c13), if_neg hz99, if_neg hz108, if_pos hq0, hcl]; (repeat (first | rw [if_neg (not_not_intro c13)] | rw [if_pos c13])); done) | with_reducible rfl | (simp [Mev, MevN, MevC, MevCB, MevL, MevLB, if_pos c13, if_neg (not_not_intro c13), if_neg hz99, if_neg hz108, if_pos hq0, hcl]; done))
      have hP : va_P g.1 vwCl (wM g a (sMs m9 (Mev (mrd m9) k (ms m9)))) H := by rw [e14]; exact hP
      have hD : va_D A (wM g a (sMs m9 (Mev (mrd m9) k (ms m9)))) := by rw [e14]; exact hD
      exact k_iret hx hb hr hlocks rfl (by first | (simp only [Mev, MevN, MevC, MevCB, MevL, MevLB, bI, if_pos c13, if_neg (not_not_intro c13), if_neg hz99, if_neg hz108, if_pos hq0, hcl]; done) | (simp only [Mev, MevN, MevC, MevCB, MevL, MevLB, bI, if_pos c13, if_neg (not_not_intro c13), if_neg hz99, if_neg hz108, if_pos hq0, hcl]; with_reducible rfl) | (simp only [Mev, MevN, MevC, MevCB, MevL, MevLB, bI, if_pos c13, if_neg (not_not_intro c13), if_neg hz99, if_neg hz108, if_pos hq0, hcl]; (repeat (first | rw [if_neg (not_not_intro c13)] | rw [if_pos c13])); done) | with_reducible rfl | (simp [Mev, MevN, MevC, MevCB, MevL, MevLB, bI, if_pos c13, if_neg (not_not_intro c13), if_neg hz99, if_neg hz108, if_pos hq0, hcl]; done)) hP hD hS (Nat.le_of_ble_eq_true rfl) (Nat.le_of_ble_eq_true rfl) dX4_does_149
    ·
      refine lv_aload_n hx hb dX4_does_120 rfl (lv_at hl 2 rfl) ?_
      refine lv_iload_n hx hb dX4_does_121 rfl (lv_at hl 0 rfl) ?_
      refine lv_aload_n hx hb dX4_does_122 rfl (lv_at hl 2 rfl) ?_
      refine va_get (D := g.1) (ci := 4) (v := .ref (a 5)) (C := RX4) (T := TX4) (N := 12) hx hb hts hiX4 hown hE.1 hP 0 rfl rfl 9 (by decide) f22 (fun _ h9 => h9) rfl dX4_does_123 ?_
      refine lv_iload_n hx hb dX4_does_126 rfl (lv_at hl 3 rfl) ?_
      refine k_iald (f := (mrd m9)) hx hb hE hP 5 rfl k rfl (by omega) (by decide) dX4_does_127 ?_
      refine k_top hq0 ?_
      refine lv_bipush (v := (nI 108)) hx hb dX4_does_128 (by decide) ?_
      refine k_neN (tgt := 137) hx hb (by decide) (by decide) dX4_does_130 (by decide) (fun c15 => ?_) (fun c15 => ?_)
      ·
        refine lv_iconst (v := (nI 0)) hx hb dX4_does_137 (by decide) ?_
        refine k_Vi (As := [.int (nI (6 * x9 + y9)), .int (nI 0)]) (r := (Mleaves (6 * x9 + y9) 0 (ms m9) (21 + (6 * x9 + y9)))) hF (c_X4_leaves l g a m9 (6 * x9 + y9) (by omega) 0 (by decide)) (cwV 2 hts gX4_does_X4_leaves rfl rfl rfl (by decide +kernel) ⟨Nat.le_of_ble_eq_true rfl, Nat.le_of_ble_eq_true rfl⟩) hE hP hD hS hA (k_pall _) ((k_pall _).symm) 0 rfl rfl rfl rfl hl.1 rfl (Nat.le_of_ble_eq_true rfl) dX4_does_138 ⟨Nat.le_of_ble_eq_true rfl, Nat.le_of_ble_eq_true rfl⟩ (fun H locs hP hD hS => ?_)
        have hP : va_P g.1 vwCl (wM g a (sMs m9 (Mleaves (6 * x9 + y9) 0 (ms m9)))) _ := hP
        have hD : va_D A (wM g a (sMs m9 (Mleaves (6 * x9 + y9) 0 (ms m9)))) := hD
        refine lv_if_lt (tgt := 148) hx hb dX4_does_141 (by decide) (fun c16 => ?_) (fun c16 => ?_)
        ·
          refine lv_iconst (v := (nI 0)) hx hb dX4_does_148 (by decide) ?_
          have e17 : (sMs m9 (Mev (mrd m9) k (ms m9))) = (sMs m9 (Mleaves (6 * x9 + y9) 0 (ms m9))) := (by first | (simp only [Mev, MevN, MevC, MevCB, MevL, MevLB, if_neg c13, if_pos c13, if_neg c15, if_pos c15, if_pos c16, if_neg (not_not_intro c16), if_neg hz99, if_neg hz108, if_pos hq0, hcl]; done) | (simp only [Mev, MevN, MevC, MevCB, MevL, MevLB, if_neg c13, if_pos c13, if_neg c15, if_pos c15, if_pos c16, if_neg (not_not_intro c16), if_neg hz99, if_neg hz108, if_pos hq0, hcl]; with_reducible rfl) | (simp only [Mev, MevN, MevC, MevCB, MevL, MevLB, if_neg c13, if_pos c13, if_neg c15, if_pos c15, if_pos c16, if_neg (not_not_intro c16), if_neg hz99, if_neg hz108, if_pos hq0, hcl]; (repeat (first | rw [if_neg (not_not_intro c16)] | rw [if_pos c16] | rw [if_neg c15] | rw [if_neg c13])); done) | with_reducible rfl | (simp [Mev, MevN, MevC, MevCB, MevL, MevLB, if_neg c13, if_pos c13, if_neg c15, if_pos c15, if_pos c16, if_neg (not_not_intro c16), if_neg hz99, if_neg hz108, if_pos hq0, hcl]; done))
          have hP : va_P g.1 vwCl (wM g a (sMs m9 (Mev (mrd m9) k (ms m9)))) H := by rw [e17]; exact hP
          have hD : va_D A (wM g a (sMs m9 (Mev (mrd m9) k (ms m9)))) := by rw [e17]; exact hD
          exact k_iret hx hb hr hlocks rfl (by first | (simp only [Mev, MevN, MevC, MevCB, MevL, MevLB, bI, if_neg c13, if_pos c13, if_neg c15, if_pos c15, if_pos c16, if_neg (not_not_intro c16), if_neg hz99, if_neg hz108, if_pos hq0, hcl]; done) | (simp only [Mev, MevN, MevC, MevCB, MevL, MevLB, bI, if_neg c13, if_pos c13, if_neg c15, if_pos c15, if_pos c16, if_neg (not_not_intro c16), if_neg hz99, if_neg hz108, if_pos hq0, hcl]; with_reducible rfl) | (simp only [Mev, MevN, MevC, MevCB, MevL, MevLB, bI, if_neg c13, if_pos c13, if_neg c15, if_pos c15, if_pos c16, if_neg (not_not_intro c16), if_neg hz99, if_neg hz108, if_pos hq0, hcl]; (repeat (first | rw [if_neg (not_not_intro c16)] | rw [if_pos c16] | rw [if_neg c15] | rw [if_neg c13])); done) | with_reducible rfl | (simp [Mev, MevN, MevC, MevCB, MevL, MevLB, bI, if_neg c13, if_pos c13, if_neg c15, if_pos c15, if_pos c16, if_neg (not_not_intro c16), if_neg hz99, if_neg hz108, if_pos hq0, hcl]; done)) hP hD hS (Nat.le_of_ble_eq_true rfl) (Nat.le_of_ble_eq_true rfl) dX4_does_149
        ·
          refine lv_iconst (v := (nI 1)) hx hb dX4_does_144 (by decide) ?_
          refine lv_goto (tgt := 149) hx hb dX4_does_145 (by decide) ?_
          have e18 : (sMs m9 (Mev (mrd m9) k (ms m9))) = (sMs m9 (Mleaves (6 * x9 + y9) 0 (ms m9))) := (by first | (simp only [Mev, MevN, MevC, MevCB, MevL, MevLB, if_neg c13, if_pos c13, if_neg c15, if_pos c15, if_neg c16, if_pos c16, if_neg hz99, if_neg hz108, if_pos hq0, hcl]; done) | (simp only [Mev, MevN, MevC, MevCB, MevL, MevLB, if_neg c13, if_pos c13, if_neg c15, if_pos c15, if_neg c16, if_pos c16, if_neg hz99, if_neg hz108, if_pos hq0, hcl]; with_reducible rfl) | (simp only [Mev, MevN, MevC, MevCB, MevL, MevLB, if_neg c13, if_pos c13, if_neg c15, if_pos c15, if_neg c16, if_pos c16, if_neg hz99, if_neg hz108, if_pos hq0, hcl]; (repeat (first | rw [if_neg c16] | rw [if_neg c15] | rw [if_neg c13])); done) | with_reducible rfl | (simp [Mev, MevN, MevC, MevCB, MevL, MevLB, if_neg c13, if_pos c13, if_neg c15, if_pos c15, if_neg c16, if_pos c16, if_neg hz99, if_neg hz108, if_pos hq0, hcl]; done))
          have hP : va_P g.1 vwCl (wM g a (sMs m9 (Mev (mrd m9) k (ms m9)))) H := by rw [e18]; exact hP
          have hD : va_D A (wM g a (sMs m9 (Mev (mrd m9) k (ms m9)))) := by rw [e18]; exact hD
          exact k_iret hx hb hr hlocks rfl (by first | (simp only [Mev, MevN, MevC, MevCB, MevL, MevLB, bI, if_neg c13, if_pos c13, if_neg c15, if_pos c15, if_neg c16, if_pos c16, if_neg hz99, if_neg hz108, if_pos hq0, hcl]; done) | (simp only [Mev, MevN, MevC, MevCB, MevL, MevLB, bI, if_neg c13, if_pos c13, if_neg c15, if_pos c15, if_neg c16, if_pos c16, if_neg hz99, if_neg hz108, if_pos hq0, hcl]; with_reducible rfl) | (simp only [Mev, MevN, MevC, MevCB, MevL, MevLB, bI, if_neg c13, if_pos c13, if_neg c15, if_pos c15, if_neg c16, if_pos c16, if_neg hz99, if_neg hz108, if_pos hq0, hcl]; (repeat (first | rw [if_neg c16] | rw [if_neg c15] | rw [if_neg c13])); done) | with_reducible rfl | (simp [Mev, MevN, MevC, MevCB, MevL, MevLB, bI, if_neg c13, if_pos c13, if_neg c15, if_pos c15, if_neg c16, if_pos c16, if_neg hz99, if_neg hz108, if_pos hq0, hcl]; done)) hP hD hS (Nat.le_of_ble_eq_true rfl) (Nat.le_of_ble_eq_true rfl) dX4_does_149
      ·
        exact absurd c15 (by decide)
  ·
    have hz99 : ¬ mrd m9 k = nI 99 := by rw [hq0]; decide
    have hz108 : ¬ mrd m9 k = nI 108 := by rw [hq0]; decide
    have hz115 : ¬ mrd m9 k = nI 115 := by rw [hq0]; decide
    have hxc : (mrd m9 (k + 1)).toNatClampNeg = x9 := cl_eq hex (by omega)
    refine lv_aload_n hx hb dX4_does_0 rfl (lv_at hl 0 rfl) ?_
    refine va_get (D := g.1) (ci := 4) (v := .ref (a 5)) (C := RX4) (T := TX4) (N := 12) hx hb hts hiX4 hown hE.1 hP 0 rfl rfl 9 (by decide) f22 (fun _ h9 => h9) rfl dX4_does_1 ?_
    refine lv_iload_n hx hb dX4_does_4 rfl (lv_at hl 1 rfl) ?_
    refine lv_iconst (v := (nI 1)) hx hb dX4_does_5 (by decide) ?_
    refine lv_iadd hx hb dX4_does_6 ?_
    refine k_top (nI_add _ _) ?_
    refine k_iald (f := (mrd m9)) hx hb hE hP 5 rfl (k + 1) rfl (by omega) (by decide) dX4_does_7 ?_
    refine k_top hex ?_
    refine lv_istore_n (lv' := [(2, .int (nI x9)), (0, .ref (a 0)), (1, .int (nI k))]) hx hb dX4_does_8 rfl hl (by decide) rfl (fun ls hl => ?_)
    refine lv_iload_n hx hb dX4_does_9 rfl (lv_at hl 0 rfl) ?_
    refine lv_aload_n hx hb dX4_does_10 rfl (lv_at hl 1 rfl) ?_
    refine va_get (D := g.1) (ci := 4) (v := .ref (a 5)) (C := RX4) (T := TX4) (N := 12) hx hb hts hiX4 hown hE.1 hP 0 rfl rfl 9 (by decide) f22 (fun _ h9 => h9) rfl dX4_does_11 ?_
    refine lv_iload_n hx hb dX4_does_14 rfl (lv_at hl 2 rfl) ?_
    refine lv_iconst (v := (nI 2)) hx hb dX4_does_15 (by decide) ?_
    refine lv_iadd hx hb dX4_does_16 ?_
    refine k_top (nI_add _ _) ?_
    refine k_iald (f := (mrd m9)) hx hb hE hP 5 rfl (k + 2) rfl (by omega) (by decide) dX4_does_17 ?_
    refine k_Si (w0 := []) (w1 := []) (As := [.int (nI x9), .int ((mrd m9) (k + 2))]) (r := ((nI 6 * (nI x9)) + ((mrd m9) (k + 2)))) hF (c_X4_cellOfI l g (nI x9) ((mrd m9) (k + 2))) (va_cwS 2 hts gX4_does_X4_cellOf rfl rfl rfl (by decide +kernel) ⟨Nat.le_of_ble_eq_true rfl, Nat.le_of_ble_eq_true rfl⟩) hE hP hD hS hA (List.Perm.refl _) (List.Perm.refl _) rfl hl.1 rfl (Nat.le_of_ble_eq_true rfl) dX4_does_18 ⟨Nat.le_of_ble_eq_true rfl, Nat.le_of_ble_eq_true rfl⟩ (fun H locs hP hD hS => ?_)
    have hP : va_P g.1 vwCl (wM g a m9) _ := hP
    have hD : va_D A (wM g a m9) := hD
    refine lv_istore_n (lv' := [(3, .int ((nI 6 * (nI x9)) + ((mrd m9) (k + 2)))), (2, .int (nI x9)), (0, .ref (a 0)), (1, .int (nI k))]) hx hb dX4_does_21 rfl hl (by decide) rfl (fun ls hl => ?_)
    refine lv_aload_n hx hb dX4_does_22 rfl (lv_at hl 2 rfl) ?_
    refine va_get (D := g.1) (ci := 4) (v := .ref (a 5)) (C := RX4) (T := TX4) (N := 12) hx hb hts hiX4 hown hE.1 hP 0 rfl rfl 9 (by decide) f22 (fun _ h9 => h9) rfl dX4_does_23 ?_
    refine lv_iload_n hx hb dX4_does_26 rfl (lv_at hl 3 rfl) ?_
    refine k_iald (f := (mrd m9)) hx hb hE hP 5 rfl k rfl (by omega) (by decide) dX4_does_27 ?_
    refine k_top hq0 ?_
    refine lv_lookup (off := 122) (tgt := 150) hx hb dX4_does_28 (by decide) (by decide) (by decide) ?_
    refine lv_aload_n hx hb dX4_does_150 rfl (lv_at hl 2 rfl) ?_
    refine lv_iload_n hx hb dX4_does_151 rfl (lv_at hl 1 rfl) ?_
    refine k_Vi (As := [.int (nI x9)]) (r := (MplayQ (ms m9) x9 8)) hF (c_X4_plays l g a m9 x9 (by omega)) (cwV 1 hts gX4_does_X4_plays rfl rfl rfl (by decide +kernel) ⟨Nat.le_of_ble_eq_true rfl, Nat.le_of_ble_eq_true rfl⟩) hE hP hD hS hA (k_pall _) ((k_pall _).symm) 0 rfl rfl rfl rfl hl.1 rfl (Nat.le_of_ble_eq_true rfl) dX4_does_152 ⟨Nat.le_of_ble_eq_true rfl, Nat.le_of_ble_eq_true rfl⟩ (fun H locs hP hD hS => ?_)
    have hP : va_P g.1 vwCl (wM g a (sMs m9 (MplayN (ms m9) x9 8))) _ := hP
    have hD : va_D A (wM g a (sMs m9 (MplayN (ms m9) x9 8))) := hD
    refine lv_if_lt (tgt := 162) hx hb dX4_does_155 (by decide) (fun c19 => ?_) (fun c19 => ?_)
    ·
      refine lv_iconst (v := (nI 0)) hx hb dX4_does_162 (by decide) ?_
      have e20 : (sMs m9 (Mev (mrd m9) k (ms m9))) = (sMs m9 (MplayN (ms m9) x9 8)) := (by first | (simp only [Mev, MevN, MevC, MevCB, MevL, MevLB, if_pos c19, if_neg (not_not_intro c19), if_neg hz99, if_neg hz108, if_neg hz115, if_pos hq0, hxc]; done) | (simp only [Mev, MevN, MevC, MevCB, MevL, MevLB, if_pos c19, if_neg (not_not_intro c19), if_neg hz99, if_neg hz108, if_neg hz115, if_pos hq0, hxc]; with_reducible rfl) | (simp only [Mev, MevN, MevC, MevCB, MevL, MevLB, if_pos c19, if_neg (not_not_intro c19), if_neg hz99, if_neg hz108, if_neg hz115, if_pos hq0, hxc]; (repeat (first | rw [if_neg (not_not_intro c19)] | rw [if_pos c19])); done) | with_reducible rfl | (simp [Mev, MevN, MevC, MevCB, MevL, MevLB, if_pos c19, if_neg (not_not_intro c19), if_neg hz99, if_neg hz108, if_neg hz115, if_pos hq0, hxc]; done))
      have hP : va_P g.1 vwCl (wM g a (sMs m9 (Mev (mrd m9) k (ms m9)))) H := by rw [e20]; exact hP
      have hD : va_D A (wM g a (sMs m9 (Mev (mrd m9) k (ms m9)))) := by rw [e20]; exact hD
      exact k_iret hx hb hr hlocks rfl (by first | (simp only [Mev, MevN, MevC, MevCB, MevL, MevLB, bI, if_pos c19, if_neg (not_not_intro c19), if_neg hz99, if_neg hz108, if_neg hz115, if_pos hq0, hxc]; done) | (simp only [Mev, MevN, MevC, MevCB, MevL, MevLB, bI, if_pos c19, if_neg (not_not_intro c19), if_neg hz99, if_neg hz108, if_neg hz115, if_pos hq0, hxc]; with_reducible rfl) | (simp only [Mev, MevN, MevC, MevCB, MevL, MevLB, bI, if_pos c19, if_neg (not_not_intro c19), if_neg hz99, if_neg hz108, if_neg hz115, if_pos hq0, hxc]; (repeat (first | rw [if_neg (not_not_intro c19)] | rw [if_pos c19])); done) | with_reducible rfl | (simp [Mev, MevN, MevC, MevCB, MevL, MevLB, bI, if_pos c19, if_neg (not_not_intro c19), if_neg hz99, if_neg hz108, if_neg hz115, if_pos hq0, hxc]; done)) hP hD hS (Nat.le_of_ble_eq_true rfl) (Nat.le_of_ble_eq_true rfl) dX4_does_163
    ·
      refine lv_iconst (v := (nI 1)) hx hb dX4_does_158 (by decide) ?_
      refine lv_goto (tgt := 163) hx hb dX4_does_159 (by decide) ?_
      have e21 : (sMs m9 (Mev (mrd m9) k (ms m9))) = (sMs m9 (MplayN (ms m9) x9 8)) := (by first | (simp only [Mev, MevN, MevC, MevCB, MevL, MevLB, if_neg c19, if_pos c19, if_neg hz99, if_neg hz108, if_neg hz115, if_pos hq0, hxc]; done) | (simp only [Mev, MevN, MevC, MevCB, MevL, MevLB, if_neg c19, if_pos c19, if_neg hz99, if_neg hz108, if_neg hz115, if_pos hq0, hxc]; with_reducible rfl) | (simp only [Mev, MevN, MevC, MevCB, MevL, MevLB, if_neg c19, if_pos c19, if_neg hz99, if_neg hz108, if_neg hz115, if_pos hq0, hxc]; (repeat (first | rw [if_neg c19])); done) | with_reducible rfl | (simp [Mev, MevN, MevC, MevCB, MevL, MevLB, if_neg c19, if_pos c19, if_neg hz99, if_neg hz108, if_neg hz115, if_pos hq0, hxc]; done))
      have hP : va_P g.1 vwCl (wM g a (sMs m9 (Mev (mrd m9) k (ms m9)))) H := by rw [e21]; exact hP
      have hD : va_D A (wM g a (sMs m9 (Mev (mrd m9) k (ms m9)))) := by rw [e21]; exact hD
      exact k_iret hx hb hr hlocks rfl (by first | (simp only [Mev, MevN, MevC, MevCB, MevL, MevLB, bI, if_neg c19, if_pos c19, if_neg hz99, if_neg hz108, if_neg hz115, if_pos hq0, hxc]; done) | (simp only [Mev, MevN, MevC, MevCB, MevL, MevLB, bI, if_neg c19, if_pos c19, if_neg hz99, if_neg hz108, if_neg hz115, if_pos hq0, hxc]; with_reducible rfl) | (simp only [Mev, MevN, MevC, MevCB, MevL, MevLB, bI, if_neg c19, if_pos c19, if_neg hz99, if_neg hz108, if_neg hz115, if_pos hq0, hxc]; (repeat (first | rw [if_neg c19])); done) | with_reducible rfl | (simp [Mev, MevN, MevC, MevCB, MevL, MevLB, bI, if_neg c19, if_pos c19, if_neg hz99, if_neg hz108, if_neg hz115, if_pos hq0, hxc]; done)) hP hD hS (Nat.le_of_ble_eq_true rfl) (Nat.le_of_ble_eq_true rfl) dX4_does_163
  ·
    have hz99 : ¬ mrd m9 k = nI 99 := by rw [hq0]; decide
    have hz108 : ¬ mrd m9 k = nI 108 := by rw [hq0]; decide
    have hz115 : ¬ mrd m9 k = nI 115 := by rw [hq0]; decide
    have hz112 : ¬ mrd m9 k = nI 112 := by rw [hq0]; decide
    have hxc : (mrd m9 (k + 1)).toNatClampNeg = x9 := cl_eq hex (by omega)
    refine lv_aload_n hx hb dX4_does_0 rfl (lv_at hl 0 rfl) ?_
    refine va_get (D := g.1) (ci := 4) (v := .ref (a 5)) (C := RX4) (T := TX4) (N := 12) hx hb hts hiX4 hown hE.1 hP 0 rfl rfl 9 (by decide) f22 (fun _ h9 => h9) rfl dX4_does_1 ?_
    refine lv_iload_n hx hb dX4_does_4 rfl (lv_at hl 1 rfl) ?_
    refine lv_iconst (v := (nI 1)) hx hb dX4_does_5 (by decide) ?_
    refine lv_iadd hx hb dX4_does_6 ?_
    refine k_top (nI_add _ _) ?_
    refine k_iald (f := (mrd m9)) hx hb hE hP 5 rfl (k + 1) rfl (by omega) (by decide) dX4_does_7 ?_
    refine k_top hex ?_
    refine lv_istore_n (lv' := [(2, .int (nI x9)), (0, .ref (a 0)), (1, .int (nI k))]) hx hb dX4_does_8 rfl hl (by decide) rfl (fun ls hl => ?_)
    refine lv_iload_n hx hb dX4_does_9 rfl (lv_at hl 0 rfl) ?_
    refine lv_aload_n hx hb dX4_does_10 rfl (lv_at hl 1 rfl) ?_
    refine va_get (D := g.1) (ci := 4) (v := .ref (a 5)) (C := RX4) (T := TX4) (N := 12) hx hb hts hiX4 hown hE.1 hP 0 rfl rfl 9 (by decide) f22 (fun _ h9 => h9) rfl dX4_does_11 ?_
    refine lv_iload_n hx hb dX4_does_14 rfl (lv_at hl 2 rfl) ?_
    refine lv_iconst (v := (nI 2)) hx hb dX4_does_15 (by decide) ?_
    refine lv_iadd hx hb dX4_does_16 ?_
    refine k_top (nI_add _ _) ?_
    refine k_iald (f := (mrd m9)) hx hb hE hP 5 rfl (k + 2) rfl (by omega) (by decide) dX4_does_17 ?_
    refine k_Si (w0 := []) (w1 := []) (As := [.int (nI x9), .int ((mrd m9) (k + 2))]) (r := ((nI 6 * (nI x9)) + ((mrd m9) (k + 2)))) hF (c_X4_cellOfI l g (nI x9) ((mrd m9) (k + 2))) (va_cwS 2 hts gX4_does_X4_cellOf rfl rfl rfl (by decide +kernel) ⟨Nat.le_of_ble_eq_true rfl, Nat.le_of_ble_eq_true rfl⟩) hE hP hD hS hA (List.Perm.refl _) (List.Perm.refl _) rfl hl.1 rfl (Nat.le_of_ble_eq_true rfl) dX4_does_18 ⟨Nat.le_of_ble_eq_true rfl, Nat.le_of_ble_eq_true rfl⟩ (fun H locs hP hD hS => ?_)
    have hP : va_P g.1 vwCl (wM g a m9) _ := hP
    have hD : va_D A (wM g a m9) := hD
    refine lv_istore_n (lv' := [(3, .int ((nI 6 * (nI x9)) + ((mrd m9) (k + 2)))), (2, .int (nI x9)), (0, .ref (a 0)), (1, .int (nI k))]) hx hb dX4_does_21 rfl hl (by decide) rfl (fun ls hl => ?_)
    refine lv_aload_n hx hb dX4_does_22 rfl (lv_at hl 2 rfl) ?_
    refine va_get (D := g.1) (ci := 4) (v := .ref (a 5)) (C := RX4) (T := TX4) (N := 12) hx hb hts hiX4 hown hE.1 hP 0 rfl rfl 9 (by decide) f22 (fun _ h9 => h9) rfl dX4_does_23 ?_
    refine lv_iload_n hx hb dX4_does_26 rfl (lv_at hl 3 rfl) ?_
    refine k_iald (f := (mrd m9)) hx hb hE hP 5 rfl k rfl (by omega) (by decide) dX4_does_27 ?_
    refine k_top hq0 ?_
    refine lv_lookup (off := 136) (tgt := 164) hx hb dX4_does_28 (by decide) (by decide) (by decide) ?_
    refine lv_aload_n hx hb dX4_does_164 rfl (lv_at hl 2 rfl) ?_
    refine lv_iload_n hx hb dX4_does_165 rfl (lv_at hl 1 rfl) ?_
    refine k_Vi (As := [.int (nI x9)]) (r := (MgoQ (ms m9) x9)) hF (c_X4_passes l g a m9 x9 (by omega)) (cwV 1 hts gX4_does_X4_passes rfl rfl rfl (by decide +kernel) ⟨Nat.le_of_ble_eq_true rfl, Nat.le_of_ble_eq_true rfl⟩) hE hP hD hS hA (k_pall _) ((k_pall _).symm) 0 rfl rfl rfl rfl hl.1 rfl (Nat.le_of_ble_eq_true rfl) dX4_does_166 ⟨Nat.le_of_ble_eq_true rfl, Nat.le_of_ble_eq_true rfl⟩ (fun H locs hP hD hS => ?_)
    have hP : va_P g.1 vwCl (wM g a (sMs m9 (MgoN (ms m9) x9))) _ := hP
    have hD : va_D A (wM g a (sMs m9 (MgoN (ms m9) x9))) := hD
    refine lv_if_lt (tgt := 176) hx hb dX4_does_169 (by decide) (fun c22 => ?_) (fun c22 => ?_)
    ·
      refine lv_iconst (v := (nI 0)) hx hb dX4_does_176 (by decide) ?_
      have e23 : (sMs m9 (Mev (mrd m9) k (ms m9))) = (sMs m9 (MgoN (ms m9) x9)) := (by first | (simp only [Mev, MevN, MevC, MevCB, MevL, MevLB, if_pos c22, if_neg (not_not_intro c22), if_neg hz99, if_neg hz108, if_neg hz115, if_neg hz112, if_pos hq0, hxc]; done) | (simp only [Mev, MevN, MevC, MevCB, MevL, MevLB, if_pos c22, if_neg (not_not_intro c22), if_neg hz99, if_neg hz108, if_neg hz115, if_neg hz112, if_pos hq0, hxc]; with_reducible rfl) | (simp only [Mev, MevN, MevC, MevCB, MevL, MevLB, if_pos c22, if_neg (not_not_intro c22), if_neg hz99, if_neg hz108, if_neg hz115, if_neg hz112, if_pos hq0, hxc]; (repeat (first | rw [if_neg (not_not_intro c22)] | rw [if_pos c22])); done) | with_reducible rfl | (simp [Mev, MevN, MevC, MevCB, MevL, MevLB, if_pos c22, if_neg (not_not_intro c22), if_neg hz99, if_neg hz108, if_neg hz115, if_neg hz112, if_pos hq0, hxc]; done))
      have hP : va_P g.1 vwCl (wM g a (sMs m9 (Mev (mrd m9) k (ms m9)))) H := by rw [e23]; exact hP
      have hD : va_D A (wM g a (sMs m9 (Mev (mrd m9) k (ms m9)))) := by rw [e23]; exact hD
      exact k_iret hx hb hr hlocks rfl (by first | (simp only [Mev, MevN, MevC, MevCB, MevL, MevLB, bI, if_pos c22, if_neg (not_not_intro c22), if_neg hz99, if_neg hz108, if_neg hz115, if_neg hz112, if_pos hq0, hxc]; done) | (simp only [Mev, MevN, MevC, MevCB, MevL, MevLB, bI, if_pos c22, if_neg (not_not_intro c22), if_neg hz99, if_neg hz108, if_neg hz115, if_neg hz112, if_pos hq0, hxc]; with_reducible rfl) | (simp only [Mev, MevN, MevC, MevCB, MevL, MevLB, bI, if_pos c22, if_neg (not_not_intro c22), if_neg hz99, if_neg hz108, if_neg hz115, if_neg hz112, if_pos hq0, hxc]; (repeat (first | rw [if_neg (not_not_intro c22)] | rw [if_pos c22])); done) | with_reducible rfl | (simp [Mev, MevN, MevC, MevCB, MevL, MevLB, bI, if_pos c22, if_neg (not_not_intro c22), if_neg hz99, if_neg hz108, if_neg hz115, if_neg hz112, if_pos hq0, hxc]; done)) hP hD hS (Nat.le_of_ble_eq_true rfl) (Nat.le_of_ble_eq_true rfl) dX4_does_177
    ·
      refine lv_iconst (v := (nI 1)) hx hb dX4_does_172 (by decide) ?_
      refine lv_goto (tgt := 177) hx hb dX4_does_173 (by decide) ?_
      have e24 : (sMs m9 (Mev (mrd m9) k (ms m9))) = (sMs m9 (MgoN (ms m9) x9)) := (by first | (simp only [Mev, MevN, MevC, MevCB, MevL, MevLB, if_neg c22, if_pos c22, if_neg hz99, if_neg hz108, if_neg hz115, if_neg hz112, if_pos hq0, hxc]; done) | (simp only [Mev, MevN, MevC, MevCB, MevL, MevLB, if_neg c22, if_pos c22, if_neg hz99, if_neg hz108, if_neg hz115, if_neg hz112, if_pos hq0, hxc]; with_reducible rfl) | (simp only [Mev, MevN, MevC, MevCB, MevL, MevLB, if_neg c22, if_pos c22, if_neg hz99, if_neg hz108, if_neg hz115, if_neg hz112, if_pos hq0, hxc]; (repeat (first | rw [if_neg c22])); done) | with_reducible rfl | (simp [Mev, MevN, MevC, MevCB, MevL, MevLB, if_neg c22, if_pos c22, if_neg hz99, if_neg hz108, if_neg hz115, if_neg hz112, if_pos hq0, hxc]; done))
      have hP : va_P g.1 vwCl (wM g a (sMs m9 (Mev (mrd m9) k (ms m9)))) H := by rw [e24]; exact hP
      have hD : va_D A (wM g a (sMs m9 (Mev (mrd m9) k (ms m9)))) := by rw [e24]; exact hD
      exact k_iret hx hb hr hlocks rfl (by first | (simp only [Mev, MevN, MevC, MevCB, MevL, MevLB, bI, if_neg c22, if_pos c22, if_neg hz99, if_neg hz108, if_neg hz115, if_neg hz112, if_pos hq0, hxc]; done) | (simp only [Mev, MevN, MevC, MevCB, MevL, MevLB, bI, if_neg c22, if_pos c22, if_neg hz99, if_neg hz108, if_neg hz115, if_neg hz112, if_pos hq0, hxc]; with_reducible rfl) | (simp only [Mev, MevN, MevC, MevCB, MevL, MevLB, bI, if_neg c22, if_pos c22, if_neg hz99, if_neg hz108, if_neg hz115, if_neg hz112, if_pos hq0, hxc]; (repeat (first | rw [if_neg c22])); done) | with_reducible rfl | (simp [Mev, MevN, MevC, MevCB, MevL, MevLB, bI, if_neg c22, if_pos c22, if_neg hz99, if_neg hz108, if_neg hz115, if_neg hz112, if_pos hq0, hxc]; done)) hP hD hS (Nat.le_of_ble_eq_true rfl) (Nat.le_of_ble_eq_true rfl) dX4_does_177
  ·
    have hz99 : ¬ mrd m9 k = nI 99 := by rw [hq0]; decide
    have hz108 : ¬ mrd m9 k = nI 108 := by rw [hq0]; decide
    have hz115 : ¬ mrd m9 k = nI 115 := by rw [hq0]; decide
    have hz112 : ¬ mrd m9 k = nI 112 := by rw [hq0]; decide
    have hz116 : ¬ mrd m9 k = nI 116 := by rw [hq0]; decide
    have hxc : (mrd m9 (k + 1)).toNatClampNeg = x9 := cl_eq hex (by omega)
    refine lv_aload_n hx hb dX4_does_0 rfl (lv_at hl 0 rfl) ?_
    refine va_get (D := g.1) (ci := 4) (v := .ref (a 5)) (C := RX4) (T := TX4) (N := 12) hx hb hts hiX4 hown hE.1 hP 0 rfl rfl 9 (by decide) f22 (fun _ h9 => h9) rfl dX4_does_1 ?_
    refine lv_iload_n hx hb dX4_does_4 rfl (lv_at hl 1 rfl) ?_
    refine lv_iconst (v := (nI 1)) hx hb dX4_does_5 (by decide) ?_
    refine lv_iadd hx hb dX4_does_6 ?_
    refine k_top (nI_add _ _) ?_
    refine k_iald (f := (mrd m9)) hx hb hE hP 5 rfl (k + 1) rfl (by omega) (by decide) dX4_does_7 ?_
    refine k_top hex ?_
    refine lv_istore_n (lv' := [(2, .int (nI x9)), (0, .ref (a 0)), (1, .int (nI k))]) hx hb dX4_does_8 rfl hl (by decide) rfl (fun ls hl => ?_)
    refine lv_iload_n hx hb dX4_does_9 rfl (lv_at hl 0 rfl) ?_
    refine lv_aload_n hx hb dX4_does_10 rfl (lv_at hl 1 rfl) ?_
    refine va_get (D := g.1) (ci := 4) (v := .ref (a 5)) (C := RX4) (T := TX4) (N := 12) hx hb hts hiX4 hown hE.1 hP 0 rfl rfl 9 (by decide) f22 (fun _ h9 => h9) rfl dX4_does_11 ?_
    refine lv_iload_n hx hb dX4_does_14 rfl (lv_at hl 2 rfl) ?_
    refine lv_iconst (v := (nI 2)) hx hb dX4_does_15 (by decide) ?_
    refine lv_iadd hx hb dX4_does_16 ?_
    refine k_top (nI_add _ _) ?_
    refine k_iald (f := (mrd m9)) hx hb hE hP 5 rfl (k + 2) rfl (by omega) (by decide) dX4_does_17 ?_
    refine k_Si (w0 := []) (w1 := []) (As := [.int (nI x9), .int ((mrd m9) (k + 2))]) (r := ((nI 6 * (nI x9)) + ((mrd m9) (k + 2)))) hF (c_X4_cellOfI l g (nI x9) ((mrd m9) (k + 2))) (va_cwS 2 hts gX4_does_X4_cellOf rfl rfl rfl (by decide +kernel) ⟨Nat.le_of_ble_eq_true rfl, Nat.le_of_ble_eq_true rfl⟩) hE hP hD hS hA (List.Perm.refl _) (List.Perm.refl _) rfl hl.1 rfl (Nat.le_of_ble_eq_true rfl) dX4_does_18 ⟨Nat.le_of_ble_eq_true rfl, Nat.le_of_ble_eq_true rfl⟩ (fun H locs hP hD hS => ?_)
    have hP : va_P g.1 vwCl (wM g a m9) _ := hP
    have hD : va_D A (wM g a m9) := hD
    refine lv_istore_n (lv' := [(3, .int ((nI 6 * (nI x9)) + ((mrd m9) (k + 2)))), (2, .int (nI x9)), (0, .ref (a 0)), (1, .int (nI k))]) hx hb dX4_does_21 rfl hl (by decide) rfl (fun ls hl => ?_)
    refine lv_aload_n hx hb dX4_does_22 rfl (lv_at hl 2 rfl) ?_
    refine va_get (D := g.1) (ci := 4) (v := .ref (a 5)) (C := RX4) (T := TX4) (N := 12) hx hb hts hiX4 hown hE.1 hP 0 rfl rfl 9 (by decide) f22 (fun _ h9 => h9) rfl dX4_does_23 ?_
    refine lv_iload_n hx hb dX4_does_26 rfl (lv_at hl 3 rfl) ?_
    refine k_iald (f := (mrd m9)) hx hb hE hP 5 rfl k rfl (by omega) (by decide) dX4_does_27 ?_
    refine k_top hq0 ?_
    refine lv_lookup (off := 150) (tgt := 178) hx hb dX4_does_28 (by decide) (by decide) (by decide) ?_
    refine lv_aload_n hx hb dX4_does_178 rfl (lv_at hl 2 rfl) ?_
    refine va_get (D := g.1) (ci := 4) (v := .ref (a 1)) (C := RX4) (T := TX4) (N := 12) hx hb hts hiX4 hown hE.1 hP 0 rfl rfl 1 (by decide) f7 (fun _ h9 => h9) rfl dX4_does_179 ?_
    refine lv_bipush (v := (nI 13)) hx hb dX4_does_182 (by decide) ?_
    refine lv_iload_n hx hb dX4_does_184 rfl (lv_at hl 1 rfl) ?_
    refine lv_iadd hx hb dX4_does_185 ?_
    refine k_top (nI_add _ _) ?_
    refine lv_iconst (v := (nI 1)) hx hb dX4_does_186 (by decide) ?_
    refine lv_aload_n hx hb dX4_does_187 rfl (lv_at hl 2 rfl) ?_
    refine va_get (D := g.1) (ci := 4) (v := .ref (a 1)) (C := RX4) (T := TX4) (N := 12) hx hb hts hiX4 hown hE.1 hP 0 rfl rfl 1 (by decide) f7 (fun _ h9 => h9) rfl dX4_does_188 ?_
    refine lv_bipush (v := (nI 13)) hx hb dX4_does_191 (by decide) ?_
    refine lv_iload_n hx hb dX4_does_193 rfl (lv_at hl 1 rfl) ?_
    refine lv_iadd hx hb dX4_does_194 ?_
    refine k_top (nI_add _ _) ?_
    refine k_iald (f := (ms m9)) hx hb hE hP 1 rfl (13 + x9) rfl (by omega) (by decide) dX4_does_195 ?_
    refine lv_isub hx hb dX4_does_196 ?_
    refine k_iast (f := (ms m9)) (ws1 := (wM g a (sMs m9 (upd (ms m9) (13 + x9) ((nI 1) - ((ms m9) (13 + x9))))))) hx hb hE hP hD hS 1 rfl (13 + x9) rfl (by omega) (by decide) rfl dX4_does_197 (fun H locs hP hD hS => ?_)
    refine lv_iconst (v := (nI 1)) hx hb dX4_does_198 (by decide) ?_
    have e25 : (sMs m9 (Mev (mrd m9) k (ms m9))) = (sMs m9 (upd (ms m9) (13 + x9) ((nI 1) - ((ms m9) (13 + x9))))) := (by first | with_reducible rfl | (simp only [Mev, MevN, MevC, MevCB, MevL, MevLB, if_neg hz99, if_neg hz108, if_neg hz115, if_neg hz112, if_neg hz116, hxc]; done) | (simp only [Mev, MevN, MevC, MevCB, MevL, MevLB, if_neg hz99, if_neg hz108, if_neg hz115, if_neg hz112, if_neg hz116, hxc]; with_reducible rfl) | (simp [Mev, MevN, MevC, MevCB, MevL, MevLB, if_neg hz99, if_neg hz108, if_neg hz115, if_neg hz112, if_neg hz116, hxc]; done))
    have hP : va_P g.1 vwCl (wM g a (sMs m9 (Mev (mrd m9) k (ms m9)))) H := by rw [e25]; exact hP
    have hD : va_D A (wM g a (sMs m9 (Mev (mrd m9) k (ms m9)))) := by rw [e25]; exact hD
    exact k_iret hx hb hr hlocks rfl (by first | with_reducible rfl | (simp only [Mev, MevN, MevC, MevCB, MevL, MevLB, bI, if_neg hz99, if_neg hz108, if_neg hz115, if_neg hz112, if_neg hz116, hxc]; done) | (simp only [Mev, MevN, MevC, MevCB, MevL, MevLB, bI, if_neg hz99, if_neg hz108, if_neg hz115, if_neg hz112, if_neg hz116, hxc]; with_reducible rfl) | (simp [Mev, MevN, MevC, MevCB, MevL, MevLB, bI, if_neg hz99, if_neg hz108, if_neg hz115, if_neg hz112, if_neg hz116, hxc]; done)) hP hD hS (Nat.le_of_ble_eq_true rfl) (Nat.le_of_ble_eq_true rfl) dX4_does_199
