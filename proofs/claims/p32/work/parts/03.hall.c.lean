set_option maxHeartbeats 4000000 in
set_option maxRecDepth 100000 in
theorem HpassN_lt {h : HSt} {i : Nat} (c : hsn (Htk (HpassN h i)) < Htbq (Htk (HpassN h i))) : HpassN h (i + 1) = Htk (HpassN h i) := if_pos c
theorem HpassN_ge {h : HSt} {i : Nat} (c : ¬ hsn (Htk (HpassN h i)) < Htbq (Htk (HpassN h i))) : HpassN h (i + 1) = HaskAll (sHsn (Htk (HpassN h i)) (nI 0)) := if_neg c
theorem Htk_sn (h : HSt) (v : Int32) : sHsn (Htk h) v = sHsn (Hfade (sHmn h (hmn h + nI 1))) v := by unfold Htk; generalize Hfade (sHmn h (hmn h + nI 1)) = A; rfl
theorem HpassQ_lt {h : HSt} {i : Nat} (c : hsn (Htk (HpassN h i)) < Htbq (Htk (HpassN h i))) : HpassQ h (i + 1) = HpassQ h i := if_pos c
theorem HpassQ_ge {h : HSt} {i : Nat} (c : ¬ hsn (Htk (HpassN h i)) < Htbq (Htk (HpassN h i))) : HpassQ h (i + 1) = HpassQ h i + 1 := if_neg c
set_option maxHeartbeats 4000000 in
set_option maxRecDepth 100000 in
theorem c_X1_letPass (l : Launch) (g : kG) (a : Nat → Nat) (h : HSt) (sp : Nat) (hsp : sp ≤ 60) : KI l yX1_letPass wsX1_letPass ({ frames := 2, cells := 0, slots := 0, locals := 42 }) g [.ref (a 0), .int (nI sp)] (wH g a h) (nI (HpassQ h sp)) (wH g a (HpassN h sp)) 0 0 := by
  refine k_begin (cc := cX1_letPass) (maxL := 4) (ret := (some .int)) (Qc := fun A => kQi g (nI (HpassQ h sp)) (wH g a (HpassN h sp)) A) (by decide) rfl (Nat.le_of_ble_eq_true rfl) ?_
  intro p e s m below meth c A ls hF hr hlocks hin hE hP hD hS hA hl
  obtain ⟨hx, hb, hml, hown, hts⟩ := id hF
  have hown : s.vm.findClass RX1 = some m.cls := hown
  have hl : lv_has ls 4 [(0, .ref (a 0)), (1, .int (nI sp))] := hl
  have hiX1 : ∀ w ∈ wsX10, w ∈ wsX1_letPass := fun _ h => List.mem_cons_of_mem _ (List.mem_append_right _ (h))
  have f44 : (Cond.fieldLink RX1 44 "ConcertUsher$Hall" "minutes" "I").before _ s = true := hts _ (List.mem_of_getElem? (i := 1) rfl)
  have f47 : (Cond.fieldLink RX1 47 "ConcertUsher$Hall" "sinceQuestion" "I").before _ s = true := hts _ (List.mem_of_getElem? (i := 2) rfl)
  refine lv_iconst (v := (nI 0)) hx hb dX1_letPass_0 (by decide) ?_
  refine lv_istore_n (lv' := [(2, .int (nI 0)), (0, .ref (a 0)), (1, .int (nI sp))]) hx hb dX1_letPass_1 rfl hl (by decide) rfl (fun ls hl => ?_)
  refine lv_iconst (v := (nI 0)) hx hb dX1_letPass_2 (by decide) ?_
  refine lv_istore_n (lv' := [(3, .int (nI 0)), (2, .int (nI 0)), (0, .ref (a 0)), (1, .int (nI sp))]) hx hb dX1_letPass_3 rfl hl (by decide) rfl (fun ls hl => ?_)
  refine k_loop (N := sp) (Inv := fun (i : Nat) (H : Heap) (locs : List Loc) (ls : Array Slot) => va_P g.1 vwCl (wH g a (HpassN h i)) H ∧ va_D A (wH g a (HpassN h i)) ∧ va_S A s.heap H locs ∧ lv_has ls 4 [(3, .int (nI i)), (2, .int (nI (HpassQ h i))), (0, .ref (a 0)), (1, .int (nI sp))]) 0 (Nat.zero_le _) ⟨hP, hD, hS, lv_sub hl [0, 1, 2, 3] rfl⟩ (fun i hle2 ih1 H locs ls hinv => ?_)
  obtain ⟨hP, hD, hS, hl⟩ := hinv
  obtain ⟨z3, ez3⟩ : ∃ x : HSt, (HpassN h i) = x := ⟨_, rfl⟩
  rw [ez3] at hP hD
  refine lv_iload_n hx hb dX1_letPass_4 rfl (lv_at hl 0 rfl) ?_
  refine lv_iload_n hx hb dX1_letPass_5 rfl (lv_at hl 3 rfl) ?_
  refine k_geN (tgt := 62) hx hb (by omega) (by omega) dX1_letPass_6 (by decide) (fun c4 => ?_) (fun c4 => ?_)
  ·
    obtain rfl : sp = i := by omega
    refine lv_iload_n hx hb dX1_letPass_62 rfl (lv_at hl 1 rfl) ?_
    have e5 : (HpassN h sp) = z3 := (by subst ez3; first | (simp only [if_pos c4, if_neg (not_not_intro c4)]; done) | (simp only [if_pos c4, if_neg (not_not_intro c4)]; rfl) | rfl | (simp [if_pos c4, if_neg (not_not_intro c4)]; done))
    have hP : va_P g.1 vwCl (wH g a (HpassN h sp)) H := by rw [e5]; exact hP
    have hD : va_D A (wH g a (HpassN h sp)) := by rw [e5]; exact hD
    exact k_iret hx hb hr hlocks rfl (by subst ez3; first | (simp only [bI, if_pos c4, if_neg (not_not_intro c4)]; done) | (simp only [bI, if_pos c4, if_neg (not_not_intro c4)]; rfl) | rfl | (simp [bI, if_pos c4, if_neg (not_not_intro c4)]; done)) hP hD hS (Nat.le_of_ble_eq_true rfl) (Nat.le_of_ble_eq_true rfl) dX1_letPass_63
  ·
    refine lv_aload_n hx hb dX1_letPass_9 rfl (lv_at hl 2 rfl) ?_
    refine lv_dup hx hb dX1_letPass_10 rfl ?_
    refine va_get (D := g.1) (ci := 1) (v := .int (hmn z3)) (C := RX1) (T := TX1) (N := 12) hx hb hts hiX1 hown hE.1 hP 0 rfl rfl 10 (by decide) f44 (fun _ h9 => h9) rfl dX1_letPass_11 ?_
    refine lv_iconst (v := (nI 1)) hx hb dX1_letPass_14 (by decide) ?_
    refine lv_iadd hx hb dX1_letPass_15 ?_
    refine va_put (D := g.1) (ci := 1) (v := .int ((hmn z3) + (nI 1))) (ty := .int) (C := RX1) (T := TX1) (N := 12) hx hb hts hiX1 tyX1 tyX1_ok nmX1 hown hE.1 hP hD hS 0 rfl rfl 10 (by decide) f44 (fun _ h9 => h9) rfl (tyX1_ok 10 (by decide)) rfl rfl (Nat.le_of_ble_eq_true rfl) dX1_letPass_16 (fun H locs hP hD hS => ?_)
    have hP : va_P g.1 vwCl (wH g a (sHmn z3 ((hmn z3) + (nI 1)))) _ := hP
    have hD : va_D A (wH g a (sHmn z3 ((hmn z3) + (nI 1)))) := hD
    refine lv_aload_n hx hb dX1_letPass_19 rfl (lv_at hl 2 rfl) ?_
    refine k_Vv (As := []) hF (c_X1_fadeEntries l g a (sHmn z3 ((hmn z3) + (nI 1)))) (cwV 0 hts gX1_letPass_X1_fadeEntries rfl rfl rfl (by decide +kernel) ⟨Nat.le_of_ble_eq_true rfl, Nat.le_of_ble_eq_true rfl⟩) hE hP hD hS hA (k_pall _) ((k_pall _).symm) 0 rfl rfl rfl rfl hl.1 rfl (Nat.le_of_ble_eq_true rfl) dX1_letPass_20 ⟨Nat.le_of_ble_eq_true rfl, Nat.le_of_ble_eq_true rfl⟩ (fun H locs hP hD hS => ?_)
    have hP : va_P g.1 vwCl (wH g a (Hfade (sHmn z3 ((hmn z3) + (nI 1))))) _ := hP
    have hD : va_D A (wH g a (Hfade (sHmn z3 ((hmn z3) + (nI 1))))) := hD
    obtain ⟨z6, ez6⟩ : ∃ x : HSt, (Hfade (sHmn z3 ((hmn z3) + (nI 1)))) = x := ⟨_, rfl⟩
    rw [ez6] at hP hD
    refine lv_aload_n hx hb dX1_letPass_23 rfl (lv_at hl 2 rfl) ?_
    refine lv_dup hx hb dX1_letPass_24 rfl ?_
    refine va_get (D := g.1) (ci := 1) (v := .int (hsn z6)) (C := RX1) (T := TX1) (N := 12) hx hb hts hiX1 hown hE.1 hP 0 rfl rfl 11 (by decide) f47 (fun _ h9 => h9) rfl dX1_letPass_25 ?_
    refine lv_iconst (v := (nI 1)) hx hb dX1_letPass_28 (by decide) ?_
    refine lv_iadd hx hb dX1_letPass_29 ?_
    refine va_put (D := g.1) (ci := 1) (v := .int ((hsn z6) + (nI 1))) (ty := .int) (C := RX1) (T := TX1) (N := 12) hx hb hts hiX1 tyX1 tyX1_ok nmX1 hown hE.1 hP hD hS 0 rfl rfl 11 (by decide) f47 (fun _ h9 => h9) rfl (tyX1_ok 11 (by decide)) rfl rfl (Nat.le_of_ble_eq_true rfl) dX1_letPass_30 (fun H locs hP hD hS => ?_)
    have hP : va_P g.1 vwCl (wH g a (sHsn z6 ((hsn z6) + (nI 1)))) _ := hP
    have hD : va_D A (wH g a (sHsn z6 ((hsn z6) + (nI 1)))) := hD
    refine lv_aload_n hx hb dX1_letPass_33 rfl (lv_at hl 2 rfl) ?_
    refine va_get (D := g.1) (ci := 1) (v := .int ((hsn z6) + (nI 1))) (C := RX1) (T := TX1) (N := 12) hx hb hts hiX1 hown hE.1 hP 0 rfl rfl 11 (by decide) f47 (fun _ h9 => h9) rfl dX1_letPass_34 ?_
    refine lv_aload_n hx hb dX1_letPass_37 rfl (lv_at hl 2 rfl) ?_
    refine k_Vi (As := []) (r := (Htbq (sHsn z6 ((hsn z6) + (nI 1))))) hF (c_X1_timeBetweenQuestions l g a (sHsn z6 ((hsn z6) + (nI 1)))) (cwV 0 hts gX1_letPass_X1_timeBetweenQuestions rfl rfl rfl (by decide +kernel) ⟨Nat.le_of_ble_eq_true rfl, Nat.le_of_ble_eq_true rfl⟩) hE hP hD hS hA (k_pall _) ((k_pall _).symm) 0 rfl rfl rfl rfl hl.1 rfl (Nat.le_of_ble_eq_true rfl) dX1_letPass_38 ⟨Nat.le_of_ble_eq_true rfl, Nat.le_of_ble_eq_true rfl⟩ (fun H locs hP hD hS => ?_)
    have hP : va_P g.1 vwCl (wH g a (sHsn z6 ((hsn z6) + (nI 1)))) _ := hP
    have hD : va_D A (wH g a (sHsn z6 ((hsn z6) + (nI 1)))) := hD
    refine lv_icmp_lt (tgt := 56) hx hb dX1_letPass_41 (by decide) (fun c7 => ?_) (fun c7 => ?_)
    ·
      refine lv_iinc (v := (nI (i + 1))) (lv' := [(3, .int (nI (i + 1))), (2, .int (nI (HpassQ h i))), (0, .ref (a 0)), (1, .int (nI sp))]) hx hb dX1_letPass_56 hl (k := 0) rfl (k_inc1 _) (by decide) rfl (fun ls hl => ?_)
      refine lv_goto (tgt := 4) hx hb dX1_letPass_59 (by decide) ?_
      have e8 : (HpassN h (i + 1)) = (sHsn z6 ((hsn z6) + (nI 1))) := (by subst ez6; subst ez3; exact HpassN_lt c7)
      have e9 : (nI (HpassQ h (i + 1))) = (nI (HpassQ h i)) := (by subst ez6; subst ez3; exact congrArg nI (HpassQ_lt c7))
      exact ih1 _ _ _ (by omega) ⟨(by rw [e8]; exact hP), (by rw [e8]; exact hD), hS, (by rw [e9]; exact lv_sub hl [0, 1, 2, 3] rfl)⟩
    ·
      refine lv_aload_n hx hb dX1_letPass_44 rfl (lv_at hl 2 rfl) ?_
      refine lv_iconst (v := (nI 0)) hx hb dX1_letPass_45 (by decide) ?_
      refine va_put (D := g.1) (ci := 1) (v := .int (nI 0)) (ty := .int) (C := RX1) (T := TX1) (N := 12) hx hb hts hiX1 tyX1 tyX1_ok nmX1 hown hE.1 hP hD hS 0 rfl rfl 11 (by decide) f47 (fun _ h9 => h9) rfl (tyX1_ok 11 (by decide)) rfl rfl (Nat.le_of_ble_eq_true rfl) dX1_letPass_46 (fun H locs hP hD hS => ?_)
      have hP : va_P g.1 vwCl (wH g a (sHsn z6 (nI 0))) _ := hP
      have hD : va_D A (wH g a (sHsn z6 (nI 0))) := hD
      refine lv_aload_n hx hb dX1_letPass_49 rfl (lv_at hl 2 rfl) ?_
      refine k_Vv (As := []) hF (c_X1_askAllRows l g a (sHsn z6 (nI 0))) (cwV 0 hts gX1_letPass_X1_askAllRows rfl rfl rfl (by decide +kernel) ⟨Nat.le_of_ble_eq_true rfl, Nat.le_of_ble_eq_true rfl⟩) hE hP hD hS hA (k_pall _) ((k_pall _).symm) 0 rfl rfl rfl rfl hl.1 rfl (Nat.le_of_ble_eq_true rfl) dX1_letPass_50 ⟨Nat.le_of_ble_eq_true rfl, Nat.le_of_ble_eq_true rfl⟩ (fun H locs hP hD hS => ?_)
      have hP : va_P g.1 vwCl (wH g a (HaskAll (sHsn z6 (nI 0)))) _ := hP
      have hD : va_D A (wH g a (HaskAll (sHsn z6 (nI 0)))) := hD
      obtain ⟨z10, ez10⟩ : ∃ x : HSt, (HaskAll (sHsn z6 (nI 0))) = x := ⟨_, rfl⟩
      rw [ez10] at hP hD
      refine lv_iinc (v := (nI ((HpassQ h i) + 1))) (lv' := [(2, .int (nI ((HpassQ h i) + 1))), (3, .int (nI i)), (0, .ref (a 0)), (1, .int (nI sp))]) hx hb dX1_letPass_53 hl (k := 1) rfl (k_inc1 _) (by decide) rfl (fun ls hl => ?_)
      refine lv_iinc (v := (nI (i + 1))) (lv' := [(3, .int (nI (i + 1))), (2, .int (nI ((HpassQ h i) + 1))), (0, .ref (a 0)), (1, .int (nI sp))]) hx hb dX1_letPass_56 hl (k := 1) rfl (k_inc1 _) (by decide) rfl (fun ls hl => ?_)
      refine lv_goto (tgt := 4) hx hb dX1_letPass_59 (by decide) ?_
      have e11 : (HpassN h (i + 1)) = z10 := (by subst ez10; subst ez6; subst ez3; exact (HpassN_ge c7).trans (congrArg HaskAll (Htk_sn _ _)))
      have e12 : (nI (HpassQ h (i + 1))) = (nI ((HpassQ h i) + 1)) := (by subst ez10; subst ez6; subst ez3; exact congrArg nI (HpassQ_ge c7))
      exact ih1 _ _ _ (by omega) ⟨(by rw [e11]; exact hP), (by rw [e11]; exact hD), hS, (by rw [e12]; exact lv_sub hl [0, 1, 2, 3] rfl)⟩
