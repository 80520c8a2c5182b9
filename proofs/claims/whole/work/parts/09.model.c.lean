set_option maxHeartbeats 4000000 in
set_option maxRecDepth 100000 in
theorem c_X4_saves (l : Launch) (g : kG) (a : Nat → Nat) (m9 : MSt) (j : Nat) (hj : j ≤ 6) (hjm : msm m9 = nI j) : KV l yX4_saves wsX4_saves ({ frames := 0, cells := 0, slots := 0, locals := 0 }) g [.ref (a 0)] (wM g a m9) (wM g a (sMsm (sMsv m9 (Msv (ms m9) (msv m9) j)) (nI (kSz j)))) 0 0 := by
  refine k_begin (cc := cX4_saves) (maxL := 2) (ret := none) (Qc := fun A => kQv g (wM g a (sMsm (sMsv m9 (Msv (ms m9) (msv m9) j)) (nI (kSz j)))) A) (by decide) rfl (Nat.le_of_ble_eq_true rfl) ?_
  intro p e s m below meth c A ls hF hr hlocks hin hE hP hD hS hA hl
  obtain ⟨hx, hb, hml, hown, hts⟩ := id hF
  have hown : s.vm.findClass RX4 = some m.cls := hown
  have hl : lv_has ls 2 [(0, .ref (a 0))] := hl
  have hiX4 : ∀ w ∈ wsX40, w ∈ wsX4_saves := fun _ h => List.mem_cons_of_mem _ (List.mem_append_right _ (h))
  have f33 : (Cond.fieldLink RX4 33 "ConcertUsherModel" "savedMany" "I").before _ s = true := hts _ (List.mem_of_getElem? (i := 1) rfl)
  have f16 : (Cond.fieldLink RX4 16 "ConcertUsherModel" "saved" "[I").before _ s = true := hts _ (List.mem_of_getElem? (i := 2) rfl)
  have f7 : (Cond.fieldLink RX4 7 "ConcertUsherModel" "s" "[I").before _ s = true := hts _ (List.mem_of_getElem? (i := 3) rfl)
  refine lv_aload_n hx hb dX4_saves_0 rfl (lv_at hl 0 rfl) ?_
  refine va_get (D := g.1) (ci := 4) (v := .int (msm m9)) (C := RX4) (T := TX4) (N := 12) hx hb hts hiX4 hown hE.1 hP 0 rfl rfl 4 (by decide) f33 (fun _ h9 => h9) rfl dX4_saves_1 ?_
  refine k_top hjm ?_
  refine lv_bipush (v := (nI 6)) hx hb dX4_saves_4 (by decide) ?_
  refine k_neN (tgt := 49) hx hb (by omega) (by decide) dX4_saves_6 (by decide) (fun c1 => ?_) (fun c1 => ?_)
  ·
    refine lv_iconst (v := (nI 0)) hx hb dX4_saves_49 (by decide) ?_
    refine lv_istore_n (lv' := [(1, .int (nI 0)), (0, .ref (a 0))]) hx hb dX4_saves_50 rfl hl (by decide) rfl (fun ls hl => ?_)
    refine k_loop (N := 120) (Inv := fun (i2 : Nat) (H : Heap) (locs : List Loc) (ls : Array Slot) => va_P g.1 vwCl (wM g a (sMsv m9 (cpB (ms m9) (msv m9) j i2))) H ∧ va_D A (wM g a (sMsv m9 (cpB (ms m9) (msv m9) j i2))) ∧ va_S A s.heap H locs ∧ lv_has ls 2 [(1, .int (nI i2)), (0, .ref (a 0))]) 0 (Nat.zero_le _) ⟨hP, hD, hS, lv_sub hl [0, 1] rfl⟩ (fun i2 hle3 ih2 H locs ls hinv => ?_)
    obtain ⟨hP, hD, hS, hl⟩ := hinv
    refine lv_iload_n hx hb dX4_saves_51 rfl (lv_at hl 0 rfl) ?_
    refine lv_bipush (v := (nI 120)) hx hb dX4_saves_52 (by decide) ?_
    refine k_geN (tgt := 83) hx hb (by omega) (by decide) dX4_saves_54 (by decide) (fun c4 => ?_) (fun c4 => ?_)
    ·
      obtain rfl : 120 = i2 := by omega
      refine lv_aload_n hx hb dX4_saves_83 rfl (lv_at hl 1 rfl) ?_
      refine lv_dup hx hb dX4_saves_84 rfl ?_
      refine va_get (D := g.1) (ci := 4) (v := .int (msm m9)) (C := RX4) (T := TX4) (N := 12) hx hb hts hiX4 hown hE.1 hP 0 rfl rfl 4 (by decide) f33 (fun _ h9 => h9) rfl dX4_saves_85 ?_
      refine k_top hjm ?_
      refine lv_iconst (v := (nI 1)) hx hb dX4_saves_88 (by decide) ?_
      refine lv_iadd hx hb dX4_saves_89 ?_
      refine k_top (nI_add _ _) ?_
      refine va_put (D := g.1) (ci := 4) (v := .int (nI (j + 1))) (ty := .int) (C := RX4) (T := TX4) (N := 12) hx hb hts hiX4 tyX4 tyX4_ok nmX4 hown hE.1 hP hD hS 0 rfl rfl 4 (by decide) f33 (fun _ h9 => h9) rfl (tyX4_ok 4 (by decide)) rfl rfl (Nat.le_of_ble_eq_true rfl) dX4_saves_90 (fun H locs hP hD hS => ?_)
      have hP : va_P g.1 vwCl (wM g a (sMsm (sMsv m9 (cpB (ms m9) (msv m9) j 120)) (nI (j + 1)))) _ := hP
      have hD : va_D A (wM g a (sMsm (sMsv m9 (cpB (ms m9) (msv m9) j 120)) (nI (j + 1)))) := hD
      have e5 : (sMsm (sMsv m9 (Msv (ms m9) (msv m9) j)) (nI (kSz j))) = (sMsm (sMsv m9 (cpB (ms m9) (msv m9) j 120)) (nI (j + 1))) := (by first | (simp only [Msv, kSz, if_neg c1, if_pos c1, if_pos c4, if_neg (not_not_intro c4)]; done) | (simp only [Msv, kSz, if_neg c1, if_pos c1, if_pos c4, if_neg (not_not_intro c4)]; rfl) | rfl | (simp [Msv, kSz, if_neg c1, if_pos c1, if_pos c4, if_neg (not_not_intro c4)]; done))
      have hP : va_P g.1 vwCl (wM g a (sMsm (sMsv m9 (Msv (ms m9) (msv m9) j)) (nI (kSz j)))) H := by rw [e5]; exact hP
      have hD : va_D A (wM g a (sMsm (sMsv m9 (Msv (ms m9) (msv m9) j)) (nI (kSz j)))) := by rw [e5]; exact hD
      exact k_vret hx hb hr hlocks hP hD hS (Nat.le_of_ble_eq_true rfl) (Nat.le_of_ble_eq_true rfl) dX4_saves_93
    ·
      refine lv_aload_n hx hb dX4_saves_57 rfl (lv_at hl 1 rfl) ?_
      refine va_get (D := g.1) (ci := 4) (v := .ref (a 3)) (C := RX4) (T := TX4) (N := 12) hx hb hts hiX4 hown hE.1 hP 0 rfl rfl 3 (by decide) f16 (fun _ h9 => h9) rfl dX4_saves_58 ?_
      refine lv_bipush (v := (nI 120)) hx hb dX4_saves_61 (by decide) ?_
      refine lv_aload_n hx hb dX4_saves_63 rfl (lv_at hl 1 rfl) ?_
      refine va_get (D := g.1) (ci := 4) (v := .int (msm m9)) (C := RX4) (T := TX4) (N := 12) hx hb hts hiX4 hown hE.1 hP 0 rfl rfl 4 (by decide) f33 (fun _ h9 => h9) rfl dX4_saves_64 ?_
      refine k_top hjm ?_
      refine lv_imul hx hb dX4_saves_67 ?_
      refine k_top (pk_mul _ _) ?_
      refine lv_iload_n hx hb dX4_saves_68 rfl (lv_at hl 0 rfl) ?_
      refine lv_iadd hx hb dX4_saves_69 ?_
      refine k_top (nI_add _ _) ?_
      refine lv_aload_n hx hb dX4_saves_70 rfl (lv_at hl 1 rfl) ?_
      refine va_get (D := g.1) (ci := 4) (v := .ref (a 1)) (C := RX4) (T := TX4) (N := 12) hx hb hts hiX4 hown hE.1 hP 0 rfl rfl 1 (by decide) f7 (fun _ h9 => h9) rfl dX4_saves_71 ?_
      refine lv_iload_n hx hb dX4_saves_74 rfl (lv_at hl 0 rfl) ?_
      refine k_iald (f := (ms m9)) hx hb hE hP 1 rfl i2 rfl (by omega) (by decide) dX4_saves_75 ?_
      refine k_iast (f := (cpB (ms m9) (msv m9) j i2)) (ws1 := (wM g a (sMsv m9 (upd (cpB (ms m9) (msv m9) j i2) ((120 * j) + i2) ((ms m9) i2))))) hx hb hE hP hD hS 3 rfl ((120 * j) + i2) rfl (by omega) (by decide) rfl dX4_saves_76 (fun H locs hP hD hS => ?_)
      refine lv_iinc (v := (nI (i2 + 1))) (lv' := [(1, .int (nI (i2 + 1))), (0, .ref (a 0))]) hx hb dX4_saves_77 hl (k := 0) rfl (k_inc1 _) (by decide) rfl (fun ls hl => ?_)
      refine lv_goto (tgt := 51) hx hb dX4_saves_80 (by decide) ?_
      have e6 : (sMsv m9 (cpB (ms m9) (msv m9) j (i2 + 1))) = (sMsv m9 (upd (cpB (ms m9) (msv m9) j i2) ((120 * j) + i2) ((ms m9) i2))) := (by first | (simp only [Msv, kSz, cpB, if_neg c1, if_pos c1, if_neg (Nat.not_le.mpr c4), if_pos (Nat.not_le.mpr c4)]; done) | (simp only [Msv, kSz, cpB, if_neg c1, if_pos c1, if_neg (Nat.not_le.mpr c4), if_pos (Nat.not_le.mpr c4)]; rfl) | rfl | (simp [Msv, kSz, cpB, if_neg c1, if_pos c1, if_neg (Nat.not_le.mpr c4), if_pos (Nat.not_le.mpr c4)]; done))
      exact ih2 _ _ _ (by omega) ⟨(by rw [e6]; exact hP), (by rw [e6]; exact hD), hS, lv_sub hl [0, 1] rfl⟩
  ·
    refine lv_iconst (v := (nI 0)) hx hb dX4_saves_9 (by decide) ?_
    refine lv_istore_n (lv' := [(1, .int (nI 0)), (0, .ref (a 0))]) hx hb dX4_saves_10 rfl hl (by decide) rfl (fun ls hl => ?_)
    refine k_loop (N := 600) (Inv := fun (i : Nat) (H : Heap) (locs : List Loc) (ls : Array Slot) => va_P g.1 vwCl (wM g a (sMsv m9 (shN (msv m9) i))) H ∧ va_D A (wM g a (sMsv m9 (shN (msv m9) i))) ∧ va_S A s.heap H locs ∧ lv_has ls 2 [(1, .int (nI i)), (0, .ref (a 0))]) 0 (Nat.zero_le _) ⟨hP, hD, hS, lv_sub hl [0, 1] rfl⟩ (fun i hle8 ih7 H locs ls hinv => ?_)
    obtain ⟨hP, hD, hS, hl⟩ := hinv
    refine lv_iload_n hx hb dX4_saves_11 rfl (lv_at hl 0 rfl) ?_
    refine lv_sipush (v := (nI 600)) hx hb dX4_saves_12 (by decide) ?_
    refine k_geN (tgt := 39) hx hb (by omega) (by decide) dX4_saves_15 (by decide) (fun c9 => ?_) (fun c9 => ?_)
    ·
      obtain rfl : 600 = i := by omega
      refine lv_aload_n hx hb dX4_saves_39 rfl (lv_at hl 1 rfl) ?_
      refine lv_dup hx hb dX4_saves_40 rfl ?_
      refine va_get (D := g.1) (ci := 4) (v := .int (msm m9)) (C := RX4) (T := TX4) (N := 12) hx hb hts hiX4 hown hE.1 hP 0 rfl rfl 4 (by decide) f33 (fun _ h9 => h9) rfl dX4_saves_41 ?_
      refine k_top hjm ?_
      refine lv_iconst (v := (nI 1)) hx hb dX4_saves_44 (by decide) ?_
      refine lv_isub hx hb dX4_saves_45 ?_
      refine k_top (by rw [show j = 6 from by omega]; try decide) ?_
      refine va_put (D := g.1) (ci := 4) (v := .int (nI 5)) (ty := .int) (C := RX4) (T := TX4) (N := 12) hx hb hts hiX4 tyX4 tyX4_ok nmX4 hown hE.1 hP hD hS 0 rfl rfl 4 (by decide) f33 (fun _ h9 => h9) rfl (tyX4_ok 4 (by decide)) rfl rfl (Nat.le_of_ble_eq_true rfl) dX4_saves_46 (fun H locs hP hD hS => ?_)
      have hP : va_P g.1 vwCl (wM g a (sMsm (sMsv m9 (shN (msv m9) 600)) (nI 5))) _ := hP
      have hD : va_D A (wM g a (sMsm (sMsv m9 (shN (msv m9) 600)) (nI 5))) := hD
      refine lv_iconst (v := (nI 0)) hx hb dX4_saves_49 (by decide) ?_
      refine lv_istore_n (lv' := [(1, .int (nI 0)), (0, .ref (a 0))]) hx hb dX4_saves_50 rfl hl (by decide) rfl (fun ls hl => ?_)
      refine k_loop (N := 120) (Inv := fun (i2 : Nat) (H : Heap) (locs : List Loc) (ls : Array Slot) => va_P g.1 vwCl (wM g a (sMsv (sMsm m9 (nI 5)) (cpB (ms m9) (shN (msv m9) 600) 5 i2))) H ∧ va_D A (wM g a (sMsv (sMsm m9 (nI 5)) (cpB (ms m9) (shN (msv m9) 600) 5 i2))) ∧ va_S A s.heap H locs ∧ lv_has ls 2 [(1, .int (nI i2)), (0, .ref (a 0))]) 0 (Nat.zero_le _) ⟨hP, hD, hS, lv_sub hl [0, 1] rfl⟩ (fun i2 hle11 ih10 H locs ls hinv => ?_)
      obtain ⟨hP, hD, hS, hl⟩ := hinv
      refine lv_iload_n hx hb dX4_saves_51 rfl (lv_at hl 0 rfl) ?_
      refine lv_bipush (v := (nI 120)) hx hb dX4_saves_52 (by decide) ?_
      refine k_geN (tgt := 83) hx hb (by omega) (by decide) dX4_saves_54 (by decide) (fun c12 => ?_) (fun c12 => ?_)
      ·
        obtain rfl : 120 = i2 := by omega
        refine lv_aload_n hx hb dX4_saves_83 rfl (lv_at hl 1 rfl) ?_
        refine lv_dup hx hb dX4_saves_84 rfl ?_
        refine va_get (D := g.1) (ci := 4) (v := .int (nI 5)) (C := RX4) (T := TX4) (N := 12) hx hb hts hiX4 hown hE.1 hP 0 rfl rfl 4 (by decide) f33 (fun _ h9 => h9) rfl dX4_saves_85 ?_
        refine lv_iconst (v := (nI 1)) hx hb dX4_saves_88 (by decide) ?_
        refine lv_iadd hx hb dX4_saves_89 ?_
        refine k_top (nI_add _ _) ?_
        refine va_put (D := g.1) (ci := 4) (v := .int (nI (5 + 1))) (ty := .int) (C := RX4) (T := TX4) (N := 12) hx hb hts hiX4 tyX4 tyX4_ok nmX4 hown hE.1 hP hD hS 0 rfl rfl 4 (by decide) f33 (fun _ h9 => h9) rfl (tyX4_ok 4 (by decide)) rfl rfl (Nat.le_of_ble_eq_true rfl) dX4_saves_90 (fun H locs hP hD hS => ?_)
        have hP : va_P g.1 vwCl (wM g a (sMsm (sMsv m9 (cpB (ms m9) (shN (msv m9) 600) 5 120)) (nI (5 + 1)))) _ := hP
        have hD : va_D A (wM g a (sMsm (sMsv m9 (cpB (ms m9) (shN (msv m9) 600) 5 120)) (nI (5 + 1)))) := hD
        have e13 : (sMsm (sMsv m9 (Msv (ms m9) (msv m9) j)) (nI (kSz j))) = (sMsm (sMsv m9 (cpB (ms m9) (shN (msv m9) 600) 5 120)) (nI (5 + 1))) := (by first | (simp only [Msv, kSz, if_pos c1, if_neg (not_not_intro c1), if_pos c9, if_neg (not_not_intro c9), if_pos c12, if_neg (not_not_intro c12)]; done) | (simp only [Msv, kSz, if_pos c1, if_neg (not_not_intro c1), if_pos c9, if_neg (not_not_intro c9), if_pos c12, if_neg (not_not_intro c12)]; rfl) | rfl | (simp [Msv, kSz, if_pos c1, if_neg (not_not_intro c1), if_pos c9, if_neg (not_not_intro c9), if_pos c12, if_neg (not_not_intro c12)]; done))
        have hP : va_P g.1 vwCl (wM g a (sMsm (sMsv m9 (Msv (ms m9) (msv m9) j)) (nI (kSz j)))) H := by rw [e13]; exact hP
        have hD : va_D A (wM g a (sMsm (sMsv m9 (Msv (ms m9) (msv m9) j)) (nI (kSz j)))) := by rw [e13]; exact hD
        exact k_vret hx hb hr hlocks hP hD hS (Nat.le_of_ble_eq_true rfl) (Nat.le_of_ble_eq_true rfl) dX4_saves_93
      ·
        refine lv_aload_n hx hb dX4_saves_57 rfl (lv_at hl 1 rfl) ?_
        refine va_get (D := g.1) (ci := 4) (v := .ref (a 3)) (C := RX4) (T := TX4) (N := 12) hx hb hts hiX4 hown hE.1 hP 0 rfl rfl 3 (by decide) f16 (fun _ h9 => h9) rfl dX4_saves_58 ?_
        refine lv_bipush (v := (nI 120)) hx hb dX4_saves_61 (by decide) ?_
        refine lv_aload_n hx hb dX4_saves_63 rfl (lv_at hl 1 rfl) ?_
        refine va_get (D := g.1) (ci := 4) (v := .int (nI 5)) (C := RX4) (T := TX4) (N := 12) hx hb hts hiX4 hown hE.1 hP 0 rfl rfl 4 (by decide) f33 (fun _ h9 => h9) rfl dX4_saves_64 ?_
        refine lv_imul hx hb dX4_saves_67 ?_
        refine k_top (pk_mul _ _) ?_
        refine lv_iload_n hx hb dX4_saves_68 rfl (lv_at hl 0 rfl) ?_
        refine lv_iadd hx hb dX4_saves_69 ?_
        refine k_top (nI_add _ _) ?_
        refine lv_aload_n hx hb dX4_saves_70 rfl (lv_at hl 1 rfl) ?_
        refine va_get (D := g.1) (ci := 4) (v := .ref (a 1)) (C := RX4) (T := TX4) (N := 12) hx hb hts hiX4 hown hE.1 hP 0 rfl rfl 1 (by decide) f7 (fun _ h9 => h9) rfl dX4_saves_71 ?_
        refine lv_iload_n hx hb dX4_saves_74 rfl (lv_at hl 0 rfl) ?_
        refine k_iald (f := (ms m9)) hx hb hE hP 1 rfl i2 rfl (by omega) (by decide) dX4_saves_75 ?_
        refine k_iast (f := (cpB (ms m9) (shN (msv m9) 600) 5 i2)) (ws1 := (wM g a (sMsv (sMsm m9 (nI 5)) (upd (cpB (ms m9) (shN (msv m9) 600) 5 i2) ((120 * 5) + i2) ((ms m9) i2))))) hx hb hE hP hD hS 3 rfl ((120 * 5) + i2) rfl (by omega) (by decide) rfl dX4_saves_76 (fun H locs hP hD hS => ?_)
        refine lv_iinc (v := (nI (i2 + 1))) (lv' := [(1, .int (nI (i2 + 1))), (0, .ref (a 0))]) hx hb dX4_saves_77 hl (k := 0) rfl (k_inc1 _) (by decide) rfl (fun ls hl => ?_)
        refine lv_goto (tgt := 51) hx hb dX4_saves_80 (by decide) ?_
        have e14 : (sMsv (sMsm m9 (nI 5)) (cpB (ms m9) (shN (msv m9) 600) 5 (i2 + 1))) = (sMsv (sMsm m9 (nI 5)) (upd (cpB (ms m9) (shN (msv m9) 600) 5 i2) ((120 * 5) + i2) ((ms m9) i2))) := (by first | (simp only [Msv, kSz, cpB, if_pos c1, if_neg (not_not_intro c1), if_pos c9, if_neg (not_not_intro c9), if_neg (Nat.not_le.mpr c12), if_pos (Nat.not_le.mpr c12)]; done) | (simp only [Msv, kSz, cpB, if_pos c1, if_neg (not_not_intro c1), if_pos c9, if_neg (not_not_intro c9), if_neg (Nat.not_le.mpr c12), if_pos (Nat.not_le.mpr c12)]; rfl) | rfl | (simp [Msv, kSz, cpB, if_pos c1, if_neg (not_not_intro c1), if_pos c9, if_neg (not_not_intro c9), if_neg (Nat.not_le.mpr c12), if_pos (Nat.not_le.mpr c12)]; done))
        exact ih10 _ _ _ (by omega) ⟨(by rw [e14]; exact hP), (by rw [e14]; exact hD), hS, lv_sub hl [0, 1] rfl⟩
    ·
      refine lv_aload_n hx hb dX4_saves_18 rfl (lv_at hl 1 rfl) ?_
      refine va_get (D := g.1) (ci := 4) (v := .ref (a 3)) (C := RX4) (T := TX4) (N := 12) hx hb hts hiX4 hown hE.1 hP 0 rfl rfl 3 (by decide) f16 (fun _ h9 => h9) rfl dX4_saves_19 ?_
      refine lv_iload_n hx hb dX4_saves_22 rfl (lv_at hl 0 rfl) ?_
      refine lv_aload_n hx hb dX4_saves_23 rfl (lv_at hl 1 rfl) ?_
      refine va_get (D := g.1) (ci := 4) (v := .ref (a 3)) (C := RX4) (T := TX4) (N := 12) hx hb hts hiX4 hown hE.1 hP 0 rfl rfl 3 (by decide) f16 (fun _ h9 => h9) rfl dX4_saves_24 ?_
      refine lv_iload_n hx hb dX4_saves_27 rfl (lv_at hl 0 rfl) ?_
      refine lv_bipush (v := (nI 120)) hx hb dX4_saves_28 (by decide) ?_
      refine lv_iadd hx hb dX4_saves_30 ?_
      refine k_top (nI_add _ _) ?_
      refine k_iald (f := (shN (msv m9) i)) hx hb hE hP 3 rfl (i + 120) rfl (by omega) (by decide) dX4_saves_31 ?_
      refine k_iast (f := (shN (msv m9) i)) (ws1 := (wM g a (sMsv m9 (upd (shN (msv m9) i) i ((shN (msv m9) i) (i + 120)))))) hx hb hE hP hD hS 3 rfl i rfl (by omega) (by decide) rfl dX4_saves_32 (fun H locs hP hD hS => ?_)
      refine lv_iinc (v := (nI (i + 1))) (lv' := [(1, .int (nI (i + 1))), (0, .ref (a 0))]) hx hb dX4_saves_33 hl (k := 0) rfl (k_inc1 _) (by decide) rfl (fun ls hl => ?_)
      refine lv_goto (tgt := 11) hx hb dX4_saves_36 (by decide) ?_
      have e15 : (sMsv m9 (shN (msv m9) (i + 1))) = (sMsv m9 (upd (shN (msv m9) i) i ((shN (msv m9) i) (i + 120)))) := (by first | (simp only [Msv, kSz, shN, if_pos c1, if_neg (not_not_intro c1), if_neg (Nat.not_le.mpr c9), if_pos (Nat.not_le.mpr c9)]; done) | (simp only [Msv, kSz, shN, if_pos c1, if_neg (not_not_intro c1), if_neg (Nat.not_le.mpr c9), if_pos (Nat.not_le.mpr c9)]; rfl) | rfl | (simp [Msv, kSz, shN, if_pos c1, if_neg (not_not_intro c1), if_neg (Nat.not_le.mpr c9), if_pos (Nat.not_le.mpr c9)]; done))
      exact ih7 _ _ _ (by omega) ⟨(by rw [e15]; exact hP), (by rw [e15]; exact hD), hS, lv_sub hl [0, 1] rfl⟩
