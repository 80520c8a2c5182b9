set_option maxHeartbeats 4000000 in
set_option maxRecDepth 100000 in
theorem c_X4_fadesIn (l : Launch) (g : kG) (a : Nat → Nat) (m9 : MSt) (k : Nat) (hk : k < 48) : KI l yX4_fadesIn wsX4_fadesIn ({ frames := 3, cells := 0, slots := 0, locals := 62 }) g [.ref (a 0), .int (nI k)] (wM g a m9) (Mfd (ms m9) k) (wM g a (sMas m9 (ms m9))) 0 0 := by
  refine k_begin (cc := cX4_fadesIn) (maxL := 4) (ret := (some .int)) (Qc := fun A => kQi g (Mfd (ms m9) k) (wM g a (sMas m9 (ms m9))) A) (by decide) rfl (Nat.le_of_ble_eq_true rfl) ?_
  intro p e s m below meth c A ls hF hr hlocks hin hE hP hD hS hA hl
  obtain ⟨hx, hb, hml, hown, hts⟩ := id hF
  have hown : s.vm.findClass RX4 = some m.cls := hown
  have hl : lv_has ls 4 [(0, .ref (a 0)), (1, .int (nI k))] := hl
  have hiX4 : ∀ w ∈ wsX40, w ∈ wsX4_fadesIn := fun _ h => List.mem_cons_of_mem _ (List.mem_append_right _ (h))
  have f7 : (Cond.fieldLink RX4 7 "ConcertUsherModel" "s" "[I").before _ s = true := hts _ (List.mem_of_getElem? (i := 1) rfl)
  refine lv_aload_n hx hb dX4_fadesIn_0 rfl (lv_at hl 0 rfl) ?_
  refine k_Vv (As := []) hF (c_X4_putAside l g a m9) (cwV 0 hts gX4_fadesIn_X4_putAside rfl rfl rfl (by decide +kernel) ⟨Nat.le_of_ble_eq_true rfl, Nat.le_of_ble_eq_true rfl⟩) hE hP hD hS hA (k_pall _) ((k_pall _).symm) 0 rfl rfl rfl rfl hl.1 rfl (Nat.le_of_ble_eq_true rfl) dX4_fadesIn_1 ⟨Nat.le_of_ble_eq_true rfl, Nat.le_of_ble_eq_true rfl⟩ (fun H locs hP hD hS => ?_)
  have hP : va_P g.1 vwCl (wM g a (sMas m9 (ms m9))) _ := hP
  have hD : va_D A (wM g a (sMas m9 (ms m9))) := hD
  refine lv_iconst (v := (nI 0)) hx hb dX4_fadesIn_4 (by decide) ?_
  refine lv_istore_n (lv' := [(2, .int (nI 0)), (0, .ref (a 0)), (1, .int (nI k))]) hx hb dX4_fadesIn_5 rfl hl (by decide) rfl (fun ls hl => ?_)
  refine k_loop (N := 150) (Inv := fun (i : Nat) (H : Heap) (locs : List Loc) (ls : Array Slot) => va_P g.1 vwCl (wM g a (sMs (sMas m9 (ms m9)) (MgoN (ms m9) i))) H ∧ va_D A (wM g a (sMs (sMas m9 (ms m9)) (MgoN (ms m9) i))) ∧ va_S A s.heap H locs ∧ lv_has ls 4 [(2, .int (nI i)), (0, .ref (a 0)), (1, .int (nI k))] ∧ Mst (ms m9) k 0 150 = Mst (ms m9) k i (150 - i)) 0 (Nat.zero_le _) ⟨hP, hD, hS, lv_sub hl [0, 1, 2] rfl, rfl⟩ (fun i hle2 ih1 H locs ls hinv => ?_)
  obtain ⟨hP, hD, hS, hl, hMs⟩ := hinv
  refine lv_iload_n hx hb dX4_fadesIn_6 rfl (lv_at hl 0 rfl) ?_
  refine lv_sipush (v := (nI 150)) hx hb dX4_fadesIn_7 (by decide) ?_
  refine k_geN (tgt := 36) hx hb (by omega) (by decide) dX4_fadesIn_10 (by decide) (fun c3 => ?_) (fun c3 => ?_)
  ·
    obtain rfl : 150 = i := by omega
    have hMe : Mst (ms m9) k 0 150 = 150 := hMs
    obtain ⟨z4, ez4⟩ : ∃ x : Nat → Int32, (MgoN (ms m9) 150) = x := ⟨_, rfl⟩
    rw [ez4] at hP hD
    refine lv_aload_n hx hb dX4_fadesIn_36 rfl (lv_at hl 1 rfl) ?_
    refine va_get (D := g.1) (ci := 4) (v := .ref (a 1)) (C := RX4) (T := TX4) (N := 12) hx hb hts hiX4 hown hE.1 hP 0 rfl rfl 1 (by decide) f7 (fun _ h9 => h9) rfl dX4_fadesIn_37 ?_
    refine lv_bipush (v := (nI 69)) hx hb dX4_fadesIn_40 (by decide) ?_
    refine lv_iload_n hx hb dX4_fadesIn_42 rfl (lv_at hl 2 rfl) ?_
    refine lv_iadd hx hb dX4_fadesIn_43 ?_
    refine k_top (nI_add _ _) ?_
    refine k_iald (f := z4) hx hb hE hP 1 rfl (69 + k) rfl (by omega) (by decide) dX4_fadesIn_44 ?_
    refine lv_if_le (tgt := 52) hx hb dX4_fadesIn_45 (by decide) (fun c5 => ?_) (fun c5 => ?_)
    ·
      refine lv_iload_n hx hb dX4_fadesIn_52 rfl (lv_at hl 0 rfl) ?_
      refine lv_istore_n (lv' := [(3, .int (nI 150)), (2, .int (nI 150)), (0, .ref (a 0)), (1, .int (nI k))]) hx hb dX4_fadesIn_53 rfl hl (by decide) rfl (fun ls hl => ?_)
      refine lv_aload_n hx hb dX4_fadesIn_54 rfl (lv_at hl 2 rfl) ?_
      refine k_Vv (As := []) hF (c_X4_takeBack l g a (sMs (sMas m9 (ms m9)) z4)) (cwV 0 hts gX4_fadesIn_X4_takeBack rfl rfl rfl (by decide +kernel) ⟨Nat.le_of_ble_eq_true rfl, Nat.le_of_ble_eq_true rfl⟩) hE hP hD hS hA (k_pall _) ((k_pall _).symm) 0 rfl rfl rfl rfl hl.1 rfl (Nat.le_of_ble_eq_true rfl) dX4_fadesIn_55 ⟨Nat.le_of_ble_eq_true rfl, Nat.le_of_ble_eq_true rfl⟩ (fun H locs hP hD hS => ?_)
      have hP : va_P g.1 vwCl (wM g a (sMs (sMas m9 (ms m9)) (ms m9))) _ := hP
      have hD : va_D A (wM g a (sMs (sMas m9 (ms m9)) (ms m9))) := hD
      refine lv_iload_n hx hb dX4_fadesIn_58 rfl (lv_at hl 0 rfl) ?_
      have e6 : (sMas m9 (ms m9)) = (sMs (sMas m9 (ms m9)) (ms m9)) := (by subst ez4; first | (simp only [Mfd, if_pos c3, if_neg (not_not_intro c3), if_pos c5, if_neg (not_not_intro c5), hMe]; done) | (simp only [Mfd, if_pos c3, if_neg (not_not_intro c3), if_pos c5, if_neg (not_not_intro c5), hMe]; with_reducible rfl) | with_reducible rfl | (simp [Mfd, if_pos c3, if_neg (not_not_intro c3), if_pos c5, if_neg (not_not_intro c5), hMe]; done))
      have hP : va_P g.1 vwCl (wM g a (sMas m9 (ms m9))) H := by rw [e6]; exact hP
      have hD : va_D A (wM g a (sMas m9 (ms m9))) := by rw [e6]; exact hD
      exact k_iret hx hb hr hlocks rfl (by subst ez4; first | (simp only [Mfd, bI, if_pos c3, if_neg (not_not_intro c3), if_pos c5, if_neg (not_not_intro c5), hMe]; done) | (simp only [Mfd, bI, if_pos c3, if_neg (not_not_intro c3), if_pos c5, if_neg (not_not_intro c5), hMe]; with_reducible rfl) | with_reducible rfl | (simp [Mfd, bI, if_pos c3, if_neg (not_not_intro c3), if_pos c5, if_neg (not_not_intro c5), hMe]; done)) hP hD hS (Nat.le_of_ble_eq_true rfl) (Nat.le_of_ble_eq_true rfl) dX4_fadesIn_59
    ·
      refine lv_iconst (v := (-1)) hx hb dX4_fadesIn_48 (by decide) ?_
      refine lv_goto (tgt := 53) hx hb dX4_fadesIn_49 (by decide) ?_
      refine lv_istore_n (lv' := [(3, .int (-1)), (2, .int (nI 150)), (0, .ref (a 0)), (1, .int (nI k))]) hx hb dX4_fadesIn_53 rfl hl (by decide) rfl (fun ls hl => ?_)
      refine lv_aload_n hx hb dX4_fadesIn_54 rfl (lv_at hl 2 rfl) ?_
      refine k_Vv (As := []) hF (c_X4_takeBack l g a (sMs (sMas m9 (ms m9)) z4)) (cwV 0 hts gX4_fadesIn_X4_takeBack rfl rfl rfl (by decide +kernel) ⟨Nat.le_of_ble_eq_true rfl, Nat.le_of_ble_eq_true rfl⟩) hE hP hD hS hA (k_pall _) ((k_pall _).symm) 0 rfl rfl rfl rfl hl.1 rfl (Nat.le_of_ble_eq_true rfl) dX4_fadesIn_55 ⟨Nat.le_of_ble_eq_true rfl, Nat.le_of_ble_eq_true rfl⟩ (fun H locs hP hD hS => ?_)
      have hP : va_P g.1 vwCl (wM g a (sMs (sMas m9 (ms m9)) (ms m9))) _ := hP
      have hD : va_D A (wM g a (sMs (sMas m9 (ms m9)) (ms m9))) := hD
      refine lv_iload_n hx hb dX4_fadesIn_58 rfl (lv_at hl 0 rfl) ?_
      have e7 : (sMas m9 (ms m9)) = (sMs (sMas m9 (ms m9)) (ms m9)) := (by subst ez4; first | (simp only [Mfd, if_pos c3, if_neg (not_not_intro c3), if_neg c5, if_pos c5, hMe]; done) | (simp only [Mfd, if_pos c3, if_neg (not_not_intro c3), if_neg c5, if_pos c5, hMe]; with_reducible rfl) | with_reducible rfl | (simp [Mfd, if_pos c3, if_neg (not_not_intro c3), if_neg c5, if_pos c5, hMe]; done))
      have hP : va_P g.1 vwCl (wM g a (sMas m9 (ms m9))) H := by rw [e7]; exact hP
      have hD : va_D A (wM g a (sMas m9 (ms m9))) := by rw [e7]; exact hD
      exact k_iret hx hb hr hlocks rfl (by subst ez4; first | (simp only [Mfd, bI, if_pos c3, if_neg (not_not_intro c3), if_neg c5, if_pos c5, hMe]; done) | (simp only [Mfd, bI, if_pos c3, if_neg (not_not_intro c3), if_neg c5, if_pos c5, hMe]; with_reducible rfl) | with_reducible rfl | (simp [Mfd, bI, if_pos c3, if_neg (not_not_intro c3), if_neg c5, if_pos c5, hMe]; done)) hP hD hS (Nat.le_of_ble_eq_true rfl) (Nat.le_of_ble_eq_true rfl) dX4_fadesIn_59
  ·
    refine lv_aload_n hx hb dX4_fadesIn_13 rfl (lv_at hl 1 rfl) ?_
    refine va_get (D := g.1) (ci := 4) (v := .ref (a 1)) (C := RX4) (T := TX4) (N := 12) hx hb hts hiX4 hown hE.1 hP 0 rfl rfl 1 (by decide) f7 (fun _ h9 => h9) rfl dX4_fadesIn_14 ?_
    refine lv_bipush (v := (nI 69)) hx hb dX4_fadesIn_17 (by decide) ?_
    refine lv_iload_n hx hb dX4_fadesIn_19 rfl (lv_at hl 2 rfl) ?_
    refine lv_iadd hx hb dX4_fadesIn_20 ?_
    refine k_top (nI_add _ _) ?_
    refine k_iald (f := (MgoN (ms m9) i)) hx hb hE hP 1 rfl (69 + k) rfl (by omega) (by decide) dX4_fadesIn_21 ?_
    refine lv_if_le (tgt := 36) hx hb dX4_fadesIn_22 (by decide) (fun c8 => ?_) (fun c8 => ?_)
    ·
      have hMf : Mst (ms m9) k 0 150 = i := by rw [hMs, Mst_go ‹_›, if_pos c8]
      refine lv_aload_n hx hb dX4_fadesIn_36 rfl (lv_at hl 1 rfl) ?_
      refine va_get (D := g.1) (ci := 4) (v := .ref (a 1)) (C := RX4) (T := TX4) (N := 12) hx hb hts hiX4 hown hE.1 hP 0 rfl rfl 1 (by decide) f7 (fun _ h9 => h9) rfl dX4_fadesIn_37 ?_
      refine lv_bipush (v := (nI 69)) hx hb dX4_fadesIn_40 (by decide) ?_
      refine lv_iload_n hx hb dX4_fadesIn_42 rfl (lv_at hl 2 rfl) ?_
      refine lv_iadd hx hb dX4_fadesIn_43 ?_
      refine k_top (nI_add _ _) ?_
      refine k_iald (f := (MgoN (ms m9) i)) hx hb hE hP 1 rfl (69 + k) rfl (by omega) (by decide) dX4_fadesIn_44 ?_
      refine lv_if_le (tgt := 52) hx hb dX4_fadesIn_45 (by decide) (fun c10 => ?_) (fun c10 => ?_)
      ·
        refine lv_iload_n hx hb dX4_fadesIn_52 rfl (lv_at hl 0 rfl) ?_
        refine lv_istore_n (lv' := [(3, .int (nI i)), (2, .int (nI i)), (0, .ref (a 0)), (1, .int (nI k))]) hx hb dX4_fadesIn_53 rfl hl (by decide) rfl (fun ls hl => ?_)
        refine lv_aload_n hx hb dX4_fadesIn_54 rfl (lv_at hl 2 rfl) ?_
        refine k_Vv (As := []) hF (c_X4_takeBack l g a (sMs (sMas m9 (ms m9)) (MgoN (ms m9) i))) (cwV 0 hts gX4_fadesIn_X4_takeBack rfl rfl rfl (by decide +kernel) ⟨Nat.le_of_ble_eq_true rfl, Nat.le_of_ble_eq_true rfl⟩) hE hP hD hS hA (k_pall _) ((k_pall _).symm) 0 rfl rfl rfl rfl hl.1 rfl (Nat.le_of_ble_eq_true rfl) dX4_fadesIn_55 ⟨Nat.le_of_ble_eq_true rfl, Nat.le_of_ble_eq_true rfl⟩ (fun H locs hP hD hS => ?_)
        have hP : va_P g.1 vwCl (wM g a (sMs (sMas m9 (ms m9)) (ms m9))) _ := hP
        have hD : va_D A (wM g a (sMs (sMas m9 (ms m9)) (ms m9))) := hD
        refine lv_iload_n hx hb dX4_fadesIn_58 rfl (lv_at hl 0 rfl) ?_
        have e11 : (sMas m9 (ms m9)) = (sMs (sMas m9 (ms m9)) (ms m9)) := (by first | (simp only [Mfd, if_neg (Nat.not_le.mpr c3), if_pos (Nat.not_le.mpr c3), if_pos c8, if_neg (not_not_intro c8), if_pos c10, if_neg (not_not_intro c10), hMf]; done) | (simp only [Mfd, if_neg (Nat.not_le.mpr c3), if_pos (Nat.not_le.mpr c3), if_pos c8, if_neg (not_not_intro c8), if_pos c10, if_neg (not_not_intro c10), hMf]; with_reducible rfl) | with_reducible rfl | (simp [Mfd, if_neg (Nat.not_le.mpr c3), if_pos (Nat.not_le.mpr c3), if_pos c8, if_neg (not_not_intro c8), if_pos c10, if_neg (not_not_intro c10), hMf]; done))
        have hP : va_P g.1 vwCl (wM g a (sMas m9 (ms m9))) H := by rw [e11]; exact hP
        have hD : va_D A (wM g a (sMas m9 (ms m9))) := by rw [e11]; exact hD
        exact k_iret hx hb hr hlocks rfl (by first | (simp only [Mfd, bI, if_neg (Nat.not_le.mpr c3), if_pos (Nat.not_le.mpr c3), if_pos c8, if_neg (not_not_intro c8), if_pos c10, if_neg (not_not_intro c10), hMf]; done) | (simp only [Mfd, bI, if_neg (Nat.not_le.mpr c3), if_pos (Nat.not_le.mpr c3), if_pos c8, if_neg (not_not_intro c8), if_pos c10, if_neg (not_not_intro c10), hMf]; with_reducible rfl) | with_reducible rfl | (simp [Mfd, bI, if_neg (Nat.not_le.mpr c3), if_pos (Nat.not_le.mpr c3), if_pos c8, if_neg (not_not_intro c8), if_pos c10, if_neg (not_not_intro c10), hMf]; done)) hP hD hS (Nat.le_of_ble_eq_true rfl) (Nat.le_of_ble_eq_true rfl) dX4_fadesIn_59
      ·
        exact absurd c8 c10
    ·
      refine lv_aload_n hx hb dX4_fadesIn_25 rfl (lv_at hl 1 rfl) ?_
      refine k_Vi (As := []) (r := (bI (Masks (MgoN (ms m9) i)))) hF (c_X4_goesBy l g a (sMs (sMas m9 (ms m9)) (MgoN (ms m9) i))) (cwV 0 hts gX4_fadesIn_X4_goesBy rfl rfl rfl (by decide +kernel) ⟨Nat.le_of_ble_eq_true rfl, Nat.le_of_ble_eq_true rfl⟩) hE hP hD hS hA (k_pall _) ((k_pall _).symm) 0 rfl rfl rfl rfl hl.1 rfl (Nat.le_of_ble_eq_true rfl) dX4_fadesIn_26 ⟨Nat.le_of_ble_eq_true rfl, Nat.le_of_ble_eq_true rfl⟩ (fun H locs hP hD hS => ?_)
      have hP : va_P g.1 vwCl (wM g a (sMs (sMas m9 (ms m9)) (Mgo (MgoN (ms m9) i)))) _ := hP
      have hD : va_D A (wM g a (sMs (sMas m9 (ms m9)) (Mgo (MgoN (ms m9) i)))) := hD
      refine lv_pop hx hb dX4_fadesIn_29 rfl ?_
      refine lv_iinc (v := (nI (i + 1))) (lv' := [(2, .int (nI (i + 1))), (0, .ref (a 0)), (1, .int (nI k))]) hx hb dX4_fadesIn_30 hl (k := 0) rfl (k_inc1 _) (by decide) rfl (fun ls hl => ?_)
      refine lv_goto (tgt := 6) hx hb dX4_fadesIn_33 (by decide) ?_
      have e12 : (sMs (sMas m9 (ms m9)) (MgoN (ms m9) (i + 1))) = (sMs (sMas m9 (ms m9)) (Mgo (MgoN (ms m9) i))) := (by first | (simp only [Mfd, MgoN, if_neg (Nat.not_le.mpr c3), if_pos (Nat.not_le.mpr c3), if_neg c8, if_pos c8]; done) | (simp only [Mfd, MgoN, if_neg (Nat.not_le.mpr c3), if_pos (Nat.not_le.mpr c3), if_neg c8, if_pos c8]; with_reducible rfl) | with_reducible rfl | (simp [Mfd, MgoN, if_neg (Nat.not_le.mpr c3), if_pos (Nat.not_le.mpr c3), if_neg c8, if_pos c8]; done))
      exact ih1 _ _ _ (by omega) ⟨(by rw [e12]; exact hP), (by rw [e12]; exact hD), hS, lv_sub hl [0, 1, 2] rfl, (by rw [hMs, Mst_go ‹_›, if_neg ‹_›])⟩
