set_option maxHeartbeats 4000000 in
set_option maxRecDepth 100000 in
theorem c_X4_goesBy (l : Launch) (g : kG) (a : Nat → Nat) (m9 : MSt) : KI l yX4_goesBy wsX4_goesBy ({ frames := 2, cells := 0, slots := 0, locals := 40 }) g [.ref (a 0)] (wM g a m9) (bI (Masks (ms m9))) (wM g a (sMs m9 (Mgo (ms m9)))) 0 0 := by
  refine k_begin (cc := cX4_goesBy) (maxL := 3) (ret := (some .boolean)) (Qc := fun A => kQi g (bI (Masks (ms m9))) (wM g a (sMs m9 (Mgo (ms m9)))) A) (by decide) rfl (Nat.le_of_ble_eq_true rfl) ?_
  intro p e s m below meth c A ls hF hr hlocks hin hE hP hD hS hA hl
  obtain ⟨hx, hb, hml, hown, hts⟩ := id hF
  have hown : s.vm.findClass RX4 = some m.cls := hown
  have hl : lv_has ls 3 [(0, .ref (a 0))] := hl
  have hiX4 : ∀ w ∈ wsX40, w ∈ wsX4_goesBy := fun _ h => List.mem_cons_of_mem _ (List.mem_append_right _ (h))
  have f7 : (Cond.fieldLink RX4 7 "ConcertUsherModel" "s" "[I").before _ s = true := hts _ (List.mem_of_getElem? (i := 1) rfl)
  refine lv_iconst (v := (nI 0)) hx hb dX4_goesBy_0 (by decide) ?_
  refine lv_istore_n (lv' := [(1, .int (nI 0)), (0, .ref (a 0))]) hx hb dX4_goesBy_1 rfl hl (by decide) rfl (fun ls hl => ?_)
  refine k_loop (N := 48) (Inv := fun (i : Nat) (H : Heap) (locs : List Loc) (ls : Array Slot) => va_P g.1 vwCl (wM g a (sMs m9 (MfadeN (ms m9) i))) H ∧ va_D A (wM g a (sMs m9 (MfadeN (ms m9) i))) ∧ va_S A s.heap H locs ∧ lv_has ls 3 [(1, .int (nI i)), (0, .ref (a 0))]) 0 (Nat.zero_le _) ⟨hP, hD, hS, lv_sub hl [0, 1] rfl⟩ (fun i hle2 ih1 H locs ls hinv => ?_)
  obtain ⟨hP, hD, hS, hl⟩ := hinv
  refine lv_iload_n hx hb dX4_goesBy_2 rfl (lv_at hl 0 rfl) ?_
  refine lv_bipush (v := (nI 48)) hx hb dX4_goesBy_3 (by decide) ?_
  refine k_geN (tgt := 43) hx hb (by omega) (by decide) dX4_goesBy_5 (by decide) (fun c3 => ?_) (fun c3 => ?_)
  ·
    obtain rfl : 48 = i := by omega
    obtain ⟨z4, ez4⟩ : ∃ x : Nat → Int32, (MfadeN (ms m9) 48) = x := ⟨_, rfl⟩
    rw [ez4] at hP hD
    refine lv_aload_n hx hb dX4_goesBy_43 rfl (lv_at hl 1 rfl) ?_
    refine va_get (D := g.1) (ci := 4) (v := .ref (a 1)) (C := RX4) (T := TX4) (N := 12) hx hb hts hiX4 hown hE.1 hP 0 rfl rfl 1 (by decide) f7 (fun _ h9 => h9) rfl dX4_goesBy_44 ?_
    refine lv_iconst (v := (nI 5)) hx hb dX4_goesBy_47 (by decide) ?_
    refine lv_dup2_11 hx hb dX4_goesBy_48 rfl rfl ?_
    refine k_iald (f := z4) hx hb hE hP 1 rfl 5 rfl (by decide) (by decide) dX4_goesBy_49 ?_
    refine lv_iconst (v := (nI 1)) hx hb dX4_goesBy_50 (by decide) ?_
    refine lv_iadd hx hb dX4_goesBy_51 ?_
    refine k_iast (f := z4) (ws1 := (wM g a (sMs m9 (upd z4 5 ((z4 5) + (nI 1)))))) hx hb hE hP hD hS 1 rfl 5 rfl (by decide) (by decide) rfl dX4_goesBy_52 (fun H locs hP hD hS => ?_)
    refine lv_aload_n hx hb dX4_goesBy_53 rfl (lv_at hl 1 rfl) ?_
    refine va_get (D := g.1) (ci := 4) (v := .ref (a 1)) (C := RX4) (T := TX4) (N := 12) hx hb hts hiX4 hown hE.1 hP 0 rfl rfl 1 (by decide) f7 (fun _ h9 => h9) rfl dX4_goesBy_54 ?_
    refine lv_bipush (v := (nI 6)) hx hb dX4_goesBy_57 (by decide) ?_
    refine lv_dup2_11 hx hb dX4_goesBy_59 rfl rfl ?_
    refine k_iald (f := (upd z4 5 ((z4 5) + (nI 1)))) hx hb hE hP 1 rfl 6 rfl (by decide) (by decide) dX4_goesBy_60 ?_
    refine lv_iconst (v := (nI 1)) hx hb dX4_goesBy_61 (by decide) ?_
    refine lv_iadd hx hb dX4_goesBy_62 ?_
    refine k_iast (f := (upd z4 5 ((z4 5) + (nI 1)))) (ws1 := (wM g a (sMs m9 (upd (upd z4 5 ((z4 5) + (nI 1))) 6 (((upd z4 5 ((z4 5) + (nI 1))) 6) + (nI 1)))))) hx hb hE hP hD hS 1 rfl 6 rfl (by decide) (by decide) rfl dX4_goesBy_63 (fun H locs hP hD hS => ?_)
    have hMt : (upd (upd z4 5 ((z4 5) + (nI 1))) 6 (((upd z4 5 ((z4 5) + (nI 1))) 6) + (nI 1))) = Mtk (ms m9) := by subst ez4; unfold Mtk Mt1; rfl
    rw [hMt] at hP hD
    obtain ⟨z5, ez5⟩ : ∃ x : Nat → Int32, (Mtk (ms m9)) = x := ⟨_, rfl⟩
    rw [ez5] at hP hD
    refine lv_aload_n hx hb dX4_goesBy_64 rfl (lv_at hl 1 rfl) ?_
    refine va_get (D := g.1) (ci := 4) (v := .ref (a 1)) (C := RX4) (T := TX4) (N := 12) hx hb hts hiX4 hown hE.1 hP 0 rfl rfl 1 (by decide) f7 (fun _ h9 => h9) rfl dX4_goesBy_65 ?_
    refine lv_bipush (v := (nI 6)) hx hb dX4_goesBy_68 (by decide) ?_
    refine k_iald (f := z5) hx hb hE hP 1 rfl 6 rfl (by decide) (by decide) dX4_goesBy_70 ?_
    refine lv_aload_n hx hb dX4_goesBy_71 rfl (lv_at hl 1 rfl) ?_
    refine k_Vi (As := []) (r := (Mdue z5)) hF (c_X4_due l g a (sMs m9 z5)) (cwV 0 hts gX4_goesBy_X4_due rfl rfl rfl (by decide +kernel) ⟨Nat.le_of_ble_eq_true rfl, Nat.le_of_ble_eq_true rfl⟩) hE hP hD hS hA (k_pall _) ((k_pall _).symm) 0 rfl rfl rfl rfl hl.1 rfl (Nat.le_of_ble_eq_true rfl) dX4_goesBy_72 ⟨Nat.le_of_ble_eq_true rfl, Nat.le_of_ble_eq_true rfl⟩ (fun H locs hP hD hS => ?_)
    have hP : va_P g.1 vwCl (wM g a (sMs m9 z5)) _ := hP
    have hD : va_D A (wM g a (sMs m9 z5)) := hD
    refine k_meet (x := .int (bI (¬ z5 6 < (Mdue z5)))) (pj := 83) (rest := []) (fun J6 => ?_) ?_
    ·
      refine lv_icmp_lt (tgt := 82) hx hb dX4_goesBy_75 (by decide) (fun c7 => ?_) (fun c7 => ?_)
      ·
        refine lv_iconst (v := (nI 0)) hx hb dX4_goesBy_82 (by decide) ?_
        exact k_top (by subst ez5; subst ez4; first | (simp only [Mgo, Mq1, bI, if_pos c3, if_neg (not_not_intro c3), if_pos c7, if_neg (not_not_intro c7)]; done) | (simp only [Mgo, Mq1, bI, if_pos c3, if_neg (not_not_intro c3), if_pos c7, if_neg (not_not_intro c7)]; with_reducible rfl) | with_reducible rfl | (simp [Mgo, Mq1, bI, if_pos c3, if_neg (not_not_intro c3), if_pos c7, if_neg (not_not_intro c7)]; done)) J6
      ·
        refine lv_iconst (v := (nI 1)) hx hb dX4_goesBy_78 (by decide) ?_
        refine lv_goto (tgt := 83) hx hb dX4_goesBy_79 (by decide) ?_
        exact k_top (by subst ez5; subst ez4; first | (simp only [Mgo, Mq1, bI, if_pos c3, if_neg (not_not_intro c3), if_neg c7, if_pos c7]; done) | (simp only [Mgo, Mq1, bI, if_pos c3, if_neg (not_not_intro c3), if_neg c7, if_pos c7]; with_reducible rfl) | with_reducible rfl | (simp [Mgo, Mq1, bI, if_pos c3, if_neg (not_not_intro c3), if_neg c7, if_pos c7]; done)) J6
    ·
      refine lv_istore_n (lv' := [(1, .int (bI (¬ z5 6 < (Mdue z5)))), (0, .ref (a 0))]) hx hb dX4_goesBy_83 rfl hl (by decide) rfl (fun ls hl => ?_)
      refine lv_iload_n hx hb dX4_goesBy_84 rfl (lv_at hl 0 rfl) ?_
      refine k_ifeqB (tgt := 138) hx hb dX4_goesBy_85 (by decide) (fun c8 => ?_) (fun c8 => ?_)
      ·
        refine lv_iload_n hx hb dX4_goesBy_138 rfl (lv_at hl 0 rfl) ?_
        have e9 : (sMs m9 (Mgo (ms m9))) = (sMs m9 z5) := (by subst ez5; subst ez4; first | (simp only [Mgo, Mq1, if_pos c3, if_neg (not_not_intro c3), if_neg c8, if_pos c8]; done) | (simp only [Mgo, Mq1, if_pos c3, if_neg (not_not_intro c3), if_neg c8, if_pos c8]; with_reducible rfl) | with_reducible rfl | (simp [Mgo, Mq1, if_pos c3, if_neg (not_not_intro c3), if_neg c8, if_pos c8]; done))
        have hP : va_P g.1 vwCl (wM g a (sMs m9 (Mgo (ms m9)))) H := by rw [e9]; exact hP
        have hD : va_D A (wM g a (sMs m9 (Mgo (ms m9)))) := by rw [e9]; exact hD
        exact k_iret hx hb hr hlocks bI_nar (by subst ez5; subst ez4; first | (simp only [Mgo, Mq1, bI, if_pos c3, if_neg (not_not_intro c3), if_neg c8, if_pos c8]; done) | (simp only [Mgo, Mq1, bI, if_pos c3, if_neg (not_not_intro c3), if_neg c8, if_pos c8]; with_reducible rfl) | with_reducible rfl | (simp [Mgo, Mq1, bI, if_pos c3, if_neg (not_not_intro c3), if_neg c8, if_pos c8]; done)) hP hD hS (Nat.le_of_ble_eq_true rfl) (Nat.le_of_ble_eq_true rfl) dX4_goesBy_139
      ·
        refine lv_aload_n hx hb dX4_goesBy_88 rfl (lv_at hl 1 rfl) ?_
        refine va_get (D := g.1) (ci := 4) (v := .ref (a 1)) (C := RX4) (T := TX4) (N := 12) hx hb hts hiX4 hown hE.1 hP 0 rfl rfl 1 (by decide) f7 (fun _ h9 => h9) rfl dX4_goesBy_89 ?_
        refine lv_bipush (v := (nI 6)) hx hb dX4_goesBy_92 (by decide) ?_
        refine lv_iconst (v := (nI 0)) hx hb dX4_goesBy_94 (by decide) ?_
        refine k_iast (f := z5) (ws1 := (wM g a (sMs m9 (upd z5 6 (nI 0))))) hx hb hE hP hD hS 1 rfl 6 rfl (by decide) (by decide) rfl dX4_goesBy_95 (fun H locs hP hD hS => ?_)
        refine lv_aload_n hx hb dX4_goesBy_96 rfl (lv_at hl 1 rfl) ?_
        refine va_get (D := g.1) (ci := 4) (v := .ref (a 1)) (C := RX4) (T := TX4) (N := 12) hx hb hts hiX4 hown hE.1 hP 0 rfl rfl 1 (by decide) f7 (fun _ h9 => h9) rfl dX4_goesBy_97 ?_
        refine lv_bipush (v := (nI 10)) hx hb dX4_goesBy_100 (by decide) ?_
        refine lv_dup2_11 hx hb dX4_goesBy_102 rfl rfl ?_
        refine k_iald (f := (upd z5 6 (nI 0))) hx hb hE hP 1 rfl 10 rfl (by decide) (by decide) dX4_goesBy_103 ?_
        refine lv_iconst (v := (nI 1)) hx hb dX4_goesBy_104 (by decide) ?_
        refine lv_iadd hx hb dX4_goesBy_105 ?_
        refine k_iast (f := (upd z5 6 (nI 0))) (ws1 := (wM g a (sMs m9 (upd (upd z5 6 (nI 0)) 10 (((upd z5 6 (nI 0)) 10) + (nI 1)))))) hx hb hE hP hD hS 1 rfl 10 rfl (by decide) (by decide) rfl dX4_goesBy_106 (fun H locs hP hD hS => ?_)
        refine lv_iconst (v := (nI 0)) hx hb dX4_goesBy_107 (by decide) ?_
        refine lv_istore_n (lv' := [(2, .int (nI 0)), (1, .int (bI (¬ z5 6 < (Mdue z5)))), (0, .ref (a 0))]) hx hb dX4_goesBy_108 rfl hl (by decide) rfl (fun ls hl => ?_)
        refine k_loop (N := 48) (Inv := fun (i2 : Nat) (H : Heap) (locs : List Loc) (ls : Array Slot) => va_P g.1 vwCl (wM g a (sMs m9 (MaskN (upd (upd z5 6 (nI 0)) 10 (((upd z5 6 (nI 0)) 10) + (nI 1))) i2))) H ∧ va_D A (wM g a (sMs m9 (MaskN (upd (upd z5 6 (nI 0)) 10 (((upd z5 6 (nI 0)) 10) + (nI 1))) i2))) ∧ va_S A s.heap H locs ∧ lv_has ls 3 [(2, .int (nI i2)), (1, .int (bI (¬ z5 6 < (Mdue z5)))), (0, .ref (a 0))]) 0 (Nat.zero_le _) ⟨hP, hD, hS, lv_sub hl [0, 1, 2] rfl⟩ (fun i2 hle11 ih10 H locs ls hinv => ?_)
        obtain ⟨hP, hD, hS, hl⟩ := hinv
        refine lv_iload_n hx hb dX4_goesBy_109 rfl (lv_at hl 0 rfl) ?_
        refine lv_bipush (v := (nI 48)) hx hb dX4_goesBy_110 (by decide) ?_
        refine k_geN (tgt := 138) hx hb (by omega) (by decide) dX4_goesBy_112 (by decide) (fun c12 => ?_) (fun c12 => ?_)
        ·
          obtain rfl : 48 = i2 := by omega
          refine lv_iload_n hx hb dX4_goesBy_138 rfl (lv_at hl 1 rfl) ?_
          have e13 : (sMs m9 (Mgo (ms m9))) = (sMs m9 (MaskN (upd (upd z5 6 (nI 0)) 10 (((upd z5 6 (nI 0)) 10) + (nI 1))) 48)) := (by subst ez5; subst ez4; first | (simp only [Mgo, Mq1, if_pos c3, if_neg (not_not_intro c3), if_pos c8, if_neg (not_not_intro c8), if_pos c12, if_neg (not_not_intro c12)]; done) | (simp only [Mgo, Mq1, if_pos c3, if_neg (not_not_intro c3), if_pos c8, if_neg (not_not_intro c8), if_pos c12, if_neg (not_not_intro c12)]; with_reducible rfl) | with_reducible rfl | (simp [Mgo, Mq1, if_pos c3, if_neg (not_not_intro c3), if_pos c8, if_neg (not_not_intro c8), if_pos c12, if_neg (not_not_intro c12)]; done))
          have hP : va_P g.1 vwCl (wM g a (sMs m9 (Mgo (ms m9)))) H := by rw [e13]; exact hP
          have hD : va_D A (wM g a (sMs m9 (Mgo (ms m9)))) := by rw [e13]; exact hD
          exact k_iret hx hb hr hlocks bI_nar (by subst ez5; subst ez4; first | (simp only [Mgo, Mq1, bI, if_pos c3, if_neg (not_not_intro c3), if_pos c8, if_neg (not_not_intro c8), if_pos c12, if_neg (not_not_intro c12)]; done) | (simp only [Mgo, Mq1, bI, if_pos c3, if_neg (not_not_intro c3), if_pos c8, if_neg (not_not_intro c8), if_pos c12, if_neg (not_not_intro c12)]; with_reducible rfl) | with_reducible rfl | (simp [Mgo, Mq1, bI, if_pos c3, if_neg (not_not_intro c3), if_pos c8, if_neg (not_not_intro c8), if_pos c12, if_neg (not_not_intro c12)]; done)) hP hD hS (Nat.le_of_ble_eq_true rfl) (Nat.le_of_ble_eq_true rfl) dX4_goesBy_139
        ·
          refine lv_aload_n hx hb dX4_goesBy_115 rfl (lv_at hl 2 rfl) ?_
          refine va_get (D := g.1) (ci := 4) (v := .ref (a 1)) (C := RX4) (T := TX4) (N := 12) hx hb hts hiX4 hown hE.1 hP 0 rfl rfl 1 (by decide) f7 (fun _ h9 => h9) rfl dX4_goesBy_116 ?_
          refine lv_bipush (v := (nI 21)) hx hb dX4_goesBy_119 (by decide) ?_
          refine lv_iload_n hx hb dX4_goesBy_121 rfl (lv_at hl 0 rfl) ?_
          refine lv_iadd hx hb dX4_goesBy_122 ?_
          refine k_top (nI_add _ _) ?_
          refine k_iald (f := (MaskN (upd (upd z5 6 (nI 0)) 10 (((upd z5 6 (nI 0)) 10) + (nI 1))) i2)) hx hb hE hP 1 rfl (21 + i2) rfl (by omega) (by decide) dX4_goesBy_123 ?_
          refine lv_if_le (tgt := 132) hx hb dX4_goesBy_124 (by decide) (fun c14 => ?_) (fun c14 => ?_)
          ·
            refine lv_iinc (v := (nI (i2 + 1))) (lv' := [(2, .int (nI (i2 + 1))), (1, .int (bI (¬ z5 6 < (Mdue z5)))), (0, .ref (a 0))]) hx hb dX4_goesBy_132 hl (k := 0) rfl (k_inc1 _) (by decide) rfl (fun ls hl => ?_)
            refine lv_goto (tgt := 109) hx hb dX4_goesBy_135 (by decide) ?_
            have e15 : (sMs m9 (MaskN (upd (upd z5 6 (nI 0)) 10 (((upd z5 6 (nI 0)) 10) + (nI 1))) (i2 + 1))) = (sMs m9 (MaskN (upd (upd z5 6 (nI 0)) 10 (((upd z5 6 (nI 0)) 10) + (nI 1))) i2)) := (by subst ez5; subst ez4; first | (simp only [Mgo, Mq1, MaskN, if_pos c3, if_neg (not_not_intro c3), if_pos c8, if_neg (not_not_intro c8), if_neg (Nat.not_le.mpr c12), if_pos (Nat.not_le.mpr c12), if_pos c14, if_neg (not_not_intro c14)]; done) | (simp only [Mgo, Mq1, MaskN, if_pos c3, if_neg (not_not_intro c3), if_pos c8, if_neg (not_not_intro c8), if_neg (Nat.not_le.mpr c12), if_pos (Nat.not_le.mpr c12), if_pos c14, if_neg (not_not_intro c14)]; with_reducible rfl) | with_reducible rfl | (simp [Mgo, Mq1, MaskN, if_pos c3, if_neg (not_not_intro c3), if_pos c8, if_neg (not_not_intro c8), if_neg (Nat.not_le.mpr c12), if_pos (Nat.not_le.mpr c12), if_pos c14, if_neg (not_not_intro c14)]; done))
            exact ih10 _ _ _ (by omega) ⟨(by rw [e15]; exact hP), (by rw [e15]; exact hD), hS, lv_sub hl [0, 1, 2] rfl⟩
          ·
            refine lv_aload_n hx hb dX4_goesBy_127 rfl (lv_at hl 2 rfl) ?_
            refine lv_iload_n hx hb dX4_goesBy_128 rfl (lv_at hl 0 rfl) ?_
            refine k_Vv (As := [.int (nI i2)]) hF (c_X4_calls l g a (sMs m9 (MaskN (upd (upd z5 6 (nI 0)) 10 (((upd z5 6 (nI 0)) 10) + (nI 1))) i2)) i2 (by omega)) (cwV 1 hts gX4_goesBy_X4_calls rfl rfl rfl (by decide +kernel) ⟨Nat.le_of_ble_eq_true rfl, Nat.le_of_ble_eq_true rfl⟩) hE hP hD hS hA (k_pall _) ((k_pall _).symm) 0 rfl rfl rfl rfl hl.1 rfl (Nat.le_of_ble_eq_true rfl) dX4_goesBy_129 ⟨Nat.le_of_ble_eq_true rfl, Nat.le_of_ble_eq_true rfl⟩ (fun H locs hP hD hS => ?_)
            have hP : va_P g.1 vwCl (wM g a (sMs m9 (Mcalls i2 (MaskN (upd (upd z5 6 (nI 0)) 10 (((upd z5 6 (nI 0)) 10) + (nI 1))) i2)))) _ := hP
            have hD : va_D A (wM g a (sMs m9 (Mcalls i2 (MaskN (upd (upd z5 6 (nI 0)) 10 (((upd z5 6 (nI 0)) 10) + (nI 1))) i2)))) := hD
            refine lv_iinc (v := (nI (i2 + 1))) (lv' := [(2, .int (nI (i2 + 1))), (1, .int (bI (¬ z5 6 < (Mdue z5)))), (0, .ref (a 0))]) hx hb dX4_goesBy_132 hl (k := 0) rfl (k_inc1 _) (by decide) rfl (fun ls hl => ?_)
            refine lv_goto (tgt := 109) hx hb dX4_goesBy_135 (by decide) ?_
            have e16 : (sMs m9 (MaskN (upd (upd z5 6 (nI 0)) 10 (((upd z5 6 (nI 0)) 10) + (nI 1))) (i2 + 1))) = (sMs m9 (Mcalls i2 (MaskN (upd (upd z5 6 (nI 0)) 10 (((upd z5 6 (nI 0)) 10) + (nI 1))) i2))) := (by subst ez5; subst ez4; first | (simp only [Mgo, Mq1, MaskN, if_pos c3, if_neg (not_not_intro c3), if_pos c8, if_neg (not_not_intro c8), if_neg (Nat.not_le.mpr c12), if_pos (Nat.not_le.mpr c12), if_neg c14, if_pos c14]; done) | (simp only [Mgo, Mq1, MaskN, if_pos c3, if_neg (not_not_intro c3), if_pos c8, if_neg (not_not_intro c8), if_neg (Nat.not_le.mpr c12), if_pos (Nat.not_le.mpr c12), if_neg c14, if_pos c14]; with_reducible rfl) | with_reducible rfl | (simp [Mgo, Mq1, MaskN, if_pos c3, if_neg (not_not_intro c3), if_pos c8, if_neg (not_not_intro c8), if_neg (Nat.not_le.mpr c12), if_pos (Nat.not_le.mpr c12), if_neg c14, if_pos c14]; done))
            exact ih10 _ _ _ (by omega) ⟨(by rw [e16]; exact hP), (by rw [e16]; exact hD), hS, lv_sub hl [0, 1, 2] rfl⟩
  ·
    refine lv_aload_n hx hb dX4_goesBy_8 rfl (lv_at hl 1 rfl) ?_
    refine va_get (D := g.1) (ci := 4) (v := .ref (a 1)) (C := RX4) (T := TX4) (N := 12) hx hb hts hiX4 hown hE.1 hP 0 rfl rfl 1 (by decide) f7 (fun _ h9 => h9) rfl dX4_goesBy_9 ?_
    refine lv_bipush (v := (nI 69)) hx hb dX4_goesBy_12 (by decide) ?_
    refine lv_iload_n hx hb dX4_goesBy_14 rfl (lv_at hl 0 rfl) ?_
    refine lv_iadd hx hb dX4_goesBy_15 ?_
    refine k_top (nI_add _ _) ?_
    refine lv_dup2_11 hx hb dX4_goesBy_16 rfl rfl ?_
    refine k_iald (f := (MfadeN (ms m9) i)) hx hb hE hP 1 rfl (69 + i) rfl (by omega) (by decide) dX4_goesBy_17 ?_
    refine lv_aload_n hx hb dX4_goesBy_18 rfl (lv_at hl 1 rfl) ?_
    refine va_get (D := g.1) (ci := 4) (v := .ref (a 1)) (C := RX4) (T := TX4) (N := 12) hx hb hts hiX4 hown hE.1 hP 0 rfl rfl 1 (by decide) f7 (fun _ h9 => h9) rfl dX4_goesBy_19 ?_
    refine lv_bipush (v := (nI 69)) hx hb dX4_goesBy_22 (by decide) ?_
    refine lv_iload_n hx hb dX4_goesBy_24 rfl (lv_at hl 0 rfl) ?_
    refine lv_iadd hx hb dX4_goesBy_25 ?_
    refine k_top (nI_add _ _) ?_
    refine k_iald (f := (MfadeN (ms m9) i)) hx hb hE hP 1 rfl (69 + i) rfl (by omega) (by decide) dX4_goesBy_26 ?_
    refine k_meet (x := .int (bI (¬ ((MfadeN (ms m9) i) (69 + i)) ≤ 0))) (pj := 35) (rest := [.int ((MfadeN (ms m9) i) (69 + i)), .int (nI (69 + i)), .ref (a 1)]) (fun J17 => ?_) ?_
    ·
      refine lv_if_le (tgt := 34) hx hb dX4_goesBy_27 (by decide) (fun c18 => ?_) (fun c18 => ?_)
      ·
        refine lv_iconst (v := (nI 0)) hx hb dX4_goesBy_34 (by decide) ?_
        exact k_top (by first | (simp only [Mgo, Mq1, bI, if_neg (Nat.not_le.mpr c3), if_pos (Nat.not_le.mpr c3), if_pos c18, if_neg (not_not_intro c18)]; done) | (simp only [Mgo, Mq1, bI, if_neg (Nat.not_le.mpr c3), if_pos (Nat.not_le.mpr c3), if_pos c18, if_neg (not_not_intro c18)]; with_reducible rfl) | with_reducible rfl | (simp [Mgo, Mq1, bI, if_neg (Nat.not_le.mpr c3), if_pos (Nat.not_le.mpr c3), if_pos c18, if_neg (not_not_intro c18)]; done)) J17
      ·
        refine lv_iconst (v := (nI 1)) hx hb dX4_goesBy_30 (by decide) ?_
        refine lv_goto (tgt := 35) hx hb dX4_goesBy_31 (by decide) ?_
        exact k_top (by first | (simp only [Mgo, Mq1, bI, if_neg (Nat.not_le.mpr c3), if_pos (Nat.not_le.mpr c3), if_neg c18, if_pos c18]; done) | (simp only [Mgo, Mq1, bI, if_neg (Nat.not_le.mpr c3), if_pos (Nat.not_le.mpr c3), if_neg c18, if_pos c18]; with_reducible rfl) | with_reducible rfl | (simp [Mgo, Mq1, bI, if_neg (Nat.not_le.mpr c3), if_pos (Nat.not_le.mpr c3), if_neg c18, if_pos c18]; done)) J17
    ·
      refine lv_isub hx hb dX4_goesBy_35 ?_
      refine k_iast (f := (MfadeN (ms m9) i)) (ws1 := (wM g a (sMs m9 (upd (MfadeN (ms m9) i) (69 + i) (((MfadeN (ms m9) i) (69 + i)) - (bI (¬ ((MfadeN (ms m9) i) (69 + i)) ≤ 0))))))) hx hb hE hP hD hS 1 rfl (69 + i) rfl (by omega) (by decide) rfl dX4_goesBy_36 (fun H locs hP hD hS => ?_)
      refine lv_iinc (v := (nI (i + 1))) (lv' := [(1, .int (nI (i + 1))), (0, .ref (a 0))]) hx hb dX4_goesBy_37 hl (k := 0) rfl (k_inc1 _) (by decide) rfl (fun ls hl => ?_)
      refine lv_goto (tgt := 2) hx hb dX4_goesBy_40 (by decide) ?_
      have e19 : (sMs m9 (MfadeN (ms m9) (i + 1))) = (sMs m9 (upd (MfadeN (ms m9) i) (69 + i) (((MfadeN (ms m9) i) (69 + i)) - (bI (¬ ((MfadeN (ms m9) i) (69 + i)) ≤ 0))))) := (by first | (simp only [Mgo, Mq1, MfadeN, if_neg (Nat.not_le.mpr c3), if_pos (Nat.not_le.mpr c3)]; done) | (simp only [Mgo, Mq1, MfadeN, if_neg (Nat.not_le.mpr c3), if_pos (Nat.not_le.mpr c3)]; with_reducible rfl) | with_reducible rfl | (simp [Mgo, Mq1, MfadeN, if_neg (Nat.not_le.mpr c3), if_pos (Nat.not_le.mpr c3)]; done))
      exact ih1 _ _ _ (by omega) ⟨(by rw [e19]; exact hP), (by rw [e19]; exact hD), hS, lv_sub hl [0, 1] rfl⟩
