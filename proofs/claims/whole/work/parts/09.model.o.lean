set_option maxHeartbeats 4000000 in
set_option maxRecDepth 100000 in
theorem c_X4_digest (l : Launch) (g : kG) (a : Nat → Nat) (m9 : MSt) (j : Nat) (hj : j ≤ 6) (hjm : msm m9 = nI j) : KL l yX4_digest wsX4_digest ({ frames := 4, cells := 0, slots := 0, locals := 85 }) g [.ref (a 0)] (wM g a m9) (Mdig (ms m9)) (wM g a (MdigS m9)) 0 0 := by
  refine k_begin (cc := cX4_digest) (maxL := 2) (ret := (some .long)) (Qc := fun A => kQl g (Mdig (ms m9)) (wM g a (MdigS m9)) A) (by decide) rfl (Nat.le_of_ble_eq_true rfl) ?_
  intro p e s m below meth c A ls hF hr hlocks hin hE hP hD hS hA hl
  obtain ⟨hx, hb, hml, hown, hts⟩ := id hF
  have hown : s.vm.findClass RX4 = some m.cls := hown
  have hl : lv_has ls 2 [(0, .ref (a 0))] := hl
  have hiX4 : ∀ w ∈ wsX40, w ∈ wsX4_digest := fun _ h => List.mem_cons_of_mem _ (List.mem_append_right _ (h))
  have f25 : (Cond.fieldLink RX4 25 "ConcertUsherModel" "thrown" "I").before _ s = true := hts _ (List.mem_of_getElem? (i := 1) rfl)
  have cst150 : (Cond.constantLong RX4 150 (4701)).before _ s = true := hts _ (List.mem_of_getElem? (i := 2) rfl)
  have f146 : (Cond.fieldLink RX4 146 "ConcertUsherModel" "hash" "J").before _ s = true := hts _ (List.mem_of_getElem? (i := 3) rfl)
  have f7 : (Cond.fieldLink RX4 7 "ConcertUsherModel" "s" "[I").before _ s = true := hts _ (List.mem_of_getElem? (i := 4) rfl)
  refine lv_aload_n hx hb dX4_digest_0 rfl (lv_at hl 0 rfl) ?_
  refine lv_iconst (v := (nI 0)) hx hb dX4_digest_1 (by decide) ?_
  refine va_put (D := g.1) (ci := 4) (v := .int (nI 0)) (ty := .int) (C := RX4) (T := TX4) (N := 12) hx hb hts hiX4 tyX4 tyX4_ok nmX4 hown hE.1 hP hD hS 0 rfl rfl 0 (by decide) f25 (fun _ h9 => h9) rfl (tyX4_ok 0 (by decide)) rfl rfl (Nat.le_of_ble_eq_true rfl) dX4_digest_2 (fun H locs hP hD hS => ?_)
  have hP : va_P g.1 vwCl (wM g a (sMth m9 (nI 0))) _ := hP
  have hD : va_D A (wM g a (sMth m9 (nI 0))) := hD
  refine lv_aload_n hx hb dX4_digest_5 rfl (lv_at hl 0 rfl) ?_
  refine lv_ldc2 hx hb hown cst150 dX4_digest_6 ?_
  refine va_put (D := g.1) (ci := 4) (v := .long 4701) (ty := .long) (C := RX4) (T := TX4) (N := 12) hx hb hts hiX4 tyX4 tyX4_ok nmX4 hown hE.1 hP hD hS 0 rfl rfl 11 (by decide) f146 (fun _ h9 => h9) rfl (tyX4_ok 11 (by decide)) rfl rfl (Nat.le_of_ble_eq_true rfl) dX4_digest_9 (fun H locs hP hD hS => ?_)
  have hP : va_P g.1 vwCl (wM g a (sMhs (sMth m9 (nI 0)) 4701)) _ := hP
  have hD : va_D A (wM g a (sMhs (sMth m9 (nI 0)) 4701)) := hD
  refine lv_aload_n hx hb dX4_digest_12 rfl (lv_at hl 0 rfl) ?_
  refine lv_aload_n hx hb dX4_digest_13 rfl (lv_at hl 0 rfl) ?_
  refine va_get (D := g.1) (ci := 4) (v := .ref (a 1)) (C := RX4) (T := TX4) (N := 12) hx hb hts hiX4 hown hE.1 hP 0 rfl rfl 1 (by decide) f7 (fun _ h9 => h9) rfl dX4_digest_14 ?_
  refine lv_iconst (v := (nI 5)) hx hb dX4_digest_17 (by decide) ?_
  refine k_iald (f := (ms m9)) hx hb hE hP 1 rfl 5 rfl (by decide) (by decide) dX4_digest_18 ?_
  refine k_Vv (As := [.int ((ms m9) 5)]) hF (c_X4_hashes l g a (sMhs (sMth m9 (nI 0)) 4701) ((ms m9) 5)) (cwV 1 hts gX4_digest_X4_hashes rfl rfl rfl (by decide +kernel) ⟨Nat.le_of_ble_eq_true rfl, Nat.le_of_ble_eq_true rfl⟩) hE hP hD hS hA (k_pall _) ((k_pall _).symm) 0 rfl rfl rfl rfl hl.1 rfl (Nat.le_of_ble_eq_true rfl) dX4_digest_19 ⟨Nat.le_of_ble_eq_true rfl, Nat.le_of_ble_eq_true rfl⟩ (fun H locs hP hD hS => ?_)
  have hP : va_P g.1 vwCl (wM g a (sMhs (sMth m9 (nI 0)) (mixI 4701 ((ms m9) 5)))) _ := hP
  have hD : va_D A (wM g a (sMhs (sMth m9 (nI 0)) (mixI 4701 ((ms m9) 5)))) := hD
  refine lv_aload_n hx hb dX4_digest_22 rfl (lv_at hl 0 rfl) ?_
  refine lv_aload_n hx hb dX4_digest_23 rfl (lv_at hl 0 rfl) ?_
  refine va_get (D := g.1) (ci := 4) (v := .ref (a 1)) (C := RX4) (T := TX4) (N := 12) hx hb hts hiX4 hown hE.1 hP 0 rfl rfl 1 (by decide) f7 (fun _ h9 => h9) rfl dX4_digest_24 ?_
  refine lv_bipush (v := (nI 6)) hx hb dX4_digest_27 (by decide) ?_
  refine k_iald (f := (ms m9)) hx hb hE hP 1 rfl 6 rfl (by decide) (by decide) dX4_digest_29 ?_
  refine k_Vv (As := [.int ((ms m9) 6)]) hF (c_X4_hashes l g a (sMhs (sMth m9 (nI 0)) (mixI 4701 ((ms m9) 5))) ((ms m9) 6)) (cwV 1 hts gX4_digest_X4_hashes rfl rfl rfl (by decide +kernel) ⟨Nat.le_of_ble_eq_true rfl, Nat.le_of_ble_eq_true rfl⟩) hE hP hD hS hA (k_pall _) ((k_pall _).symm) 0 rfl rfl rfl rfl hl.1 rfl (Nat.le_of_ble_eq_true rfl) dX4_digest_30 ⟨Nat.le_of_ble_eq_true rfl, Nat.le_of_ble_eq_true rfl⟩ (fun H locs hP hD hS => ?_)
  have hP : va_P g.1 vwCl (wM g a (sMhs (sMth m9 (nI 0)) (mixI (mixI 4701 ((ms m9) 5)) ((ms m9) 6)))) _ := hP
  have hD : va_D A (wM g a (sMhs (sMth m9 (nI 0)) (mixI (mixI 4701 ((ms m9) 5)) ((ms m9) 6)))) := hD
  refine lv_aload_n hx hb dX4_digest_33 rfl (lv_at hl 0 rfl) ?_
  refine lv_aload_n hx hb dX4_digest_34 rfl (lv_at hl 0 rfl) ?_
  refine k_Vi (As := []) (r := (Mchief (ms m9))) hF (c_X4_chiefNow l g a (sMhs (sMth m9 (nI 0)) (mixI (mixI 4701 ((ms m9) 5)) ((ms m9) 6)))) (cwV 0 hts gX4_digest_X4_chiefNow rfl rfl rfl (by decide +kernel) ⟨Nat.le_of_ble_eq_true rfl, Nat.le_of_ble_eq_true rfl⟩) hE hP hD hS hA (k_pall _) ((k_pall _).symm) 0 rfl rfl rfl rfl hl.1 rfl (Nat.le_of_ble_eq_true rfl) dX4_digest_35 ⟨Nat.le_of_ble_eq_true rfl, Nat.le_of_ble_eq_true rfl⟩ (fun H locs hP hD hS => ?_)
  have hP : va_P g.1 vwCl (wM g a (sMhs (sMth m9 (nI 0)) (mixI (mixI 4701 ((ms m9) 5)) ((ms m9) 6)))) _ := hP
  have hD : va_D A (wM g a (sMhs (sMth m9 (nI 0)) (mixI (mixI 4701 ((ms m9) 5)) ((ms m9) 6)))) := hD
  refine k_Vv (As := [.int (Mchief (ms m9))]) hF (c_X4_hashes l g a (sMhs (sMth m9 (nI 0)) (mixI (mixI 4701 ((ms m9) 5)) ((ms m9) 6))) (Mchief (ms m9))) (cwV 1 hts gX4_digest_X4_hashes rfl rfl rfl (by decide +kernel) ⟨Nat.le_of_ble_eq_true rfl, Nat.le_of_ble_eq_true rfl⟩) hE hP hD hS hA (k_pall _) ((k_pall _).symm) 0 rfl rfl rfl rfl hl.1 rfl (Nat.le_of_ble_eq_true rfl) dX4_digest_38 ⟨Nat.le_of_ble_eq_true rfl, Nat.le_of_ble_eq_true rfl⟩ (fun H locs hP hD hS => ?_)
  have hP : va_P g.1 vwCl (wM g a (sMhs (sMth m9 (nI 0)) (mixI (mixI (mixI 4701 ((ms m9) 5)) ((ms m9) 6)) (Mchief (ms m9))))) _ := hP
  have hD : va_D A (wM g a (sMhs (sMth m9 (nI 0)) (mixI (mixI (mixI 4701 ((ms m9) 5)) ((ms m9) 6)) (Mchief (ms m9))))) := hD
  refine lv_aload_n hx hb dX4_digest_41 rfl (lv_at hl 0 rfl) ?_
  refine lv_aload_n hx hb dX4_digest_42 rfl (lv_at hl 0 rfl) ?_
  refine k_Vi (As := []) (r := (Ment (ms m9) 48)) hF (c_X4_entriesNow l g a (sMhs (sMth m9 (nI 0)) (mixI (mixI (mixI 4701 ((ms m9) 5)) ((ms m9) 6)) (Mchief (ms m9))))) (cwV 0 hts gX4_digest_X4_entriesNow rfl rfl rfl (by decide +kernel) ⟨Nat.le_of_ble_eq_true rfl, Nat.le_of_ble_eq_true rfl⟩) hE hP hD hS hA (k_pall _) ((k_pall _).symm) 0 rfl rfl rfl rfl hl.1 rfl (Nat.le_of_ble_eq_true rfl) dX4_digest_43 ⟨Nat.le_of_ble_eq_true rfl, Nat.le_of_ble_eq_true rfl⟩ (fun H locs hP hD hS => ?_)
  have hP : va_P g.1 vwCl (wM g a (sMhs (sMth m9 (nI 0)) (mixI (mixI (mixI 4701 ((ms m9) 5)) ((ms m9) 6)) (Mchief (ms m9))))) _ := hP
  have hD : va_D A (wM g a (sMhs (sMth m9 (nI 0)) (mixI (mixI (mixI 4701 ((ms m9) 5)) ((ms m9) 6)) (Mchief (ms m9))))) := hD
  refine k_Vv (As := [.int (Ment (ms m9) 48)]) hF (c_X4_hashes l g a (sMhs (sMth m9 (nI 0)) (mixI (mixI (mixI 4701 ((ms m9) 5)) ((ms m9) 6)) (Mchief (ms m9)))) (Ment (ms m9) 48)) (cwV 1 hts gX4_digest_X4_hashes rfl rfl rfl (by decide +kernel) ⟨Nat.le_of_ble_eq_true rfl, Nat.le_of_ble_eq_true rfl⟩) hE hP hD hS hA (k_pall _) ((k_pall _).symm) 0 rfl rfl rfl rfl hl.1 rfl (Nat.le_of_ble_eq_true rfl) dX4_digest_46 ⟨Nat.le_of_ble_eq_true rfl, Nat.le_of_ble_eq_true rfl⟩ (fun H locs hP hD hS => ?_)
  have hP : va_P g.1 vwCl (wM g a (sMhs (sMth m9 (nI 0)) (mixI (mixI (mixI (mixI 4701 ((ms m9) 5)) ((ms m9) 6)) (Mchief (ms m9))) (Ment (ms m9) 48)))) _ := hP
  have hD : va_D A (wM g a (sMhs (sMth m9 (nI 0)) (mixI (mixI (mixI (mixI 4701 ((ms m9) 5)) ((ms m9) 6)) (Mchief (ms m9))) (Ment (ms m9) 48)))) := hD
  refine lv_aload_n hx hb dX4_digest_49 rfl (lv_at hl 0 rfl) ?_
  refine lv_aload_n hx hb dX4_digest_50 rfl (lv_at hl 0 rfl) ?_
  refine k_Vi (As := []) (r := (MasksIn (ms m9))) hF (c_X4_asksIn l g a (sMhs (sMth m9 (nI 0)) (mixI (mixI (mixI (mixI 4701 ((ms m9) 5)) ((ms m9) 6)) (Mchief (ms m9))) (Ment (ms m9) 48)))) (cwV 0 hts gX4_digest_X4_asksIn rfl rfl rfl (by decide +kernel) ⟨Nat.le_of_ble_eq_true rfl, Nat.le_of_ble_eq_true rfl⟩) hE hP hD hS hA (k_pall _) ((k_pall _).symm) 0 rfl rfl rfl rfl hl.1 rfl (Nat.le_of_ble_eq_true rfl) dX4_digest_51 ⟨Nat.le_of_ble_eq_true rfl, Nat.le_of_ble_eq_true rfl⟩ (fun H locs hP hD hS => ?_)
  have hP : va_P g.1 vwCl (wM g a (sMhs (sMth m9 (nI 0)) (mixI (mixI (mixI (mixI 4701 ((ms m9) 5)) ((ms m9) 6)) (Mchief (ms m9))) (Ment (ms m9) 48)))) _ := hP
  have hD : va_D A (wM g a (sMhs (sMth m9 (nI 0)) (mixI (mixI (mixI (mixI 4701 ((ms m9) 5)) ((ms m9) 6)) (Mchief (ms m9))) (Ment (ms m9) 48)))) := hD
  refine k_Vv (As := [.int (MasksIn (ms m9))]) hF (c_X4_hashes l g a (sMhs (sMth m9 (nI 0)) (mixI (mixI (mixI (mixI 4701 ((ms m9) 5)) ((ms m9) 6)) (Mchief (ms m9))) (Ment (ms m9) 48))) (MasksIn (ms m9))) (cwV 1 hts gX4_digest_X4_hashes rfl rfl rfl (by decide +kernel) ⟨Nat.le_of_ble_eq_true rfl, Nat.le_of_ble_eq_true rfl⟩) hE hP hD hS hA (k_pall _) ((k_pall _).symm) 0 rfl rfl rfl rfl hl.1 rfl (Nat.le_of_ble_eq_true rfl) dX4_digest_54 ⟨Nat.le_of_ble_eq_true rfl, Nat.le_of_ble_eq_true rfl⟩ (fun H locs hP hD hS => ?_)
  have hP : va_P g.1 vwCl (wM g a (sMhs (sMth m9 (nI 0)) (mixI (mixI (mixI (mixI (mixI 4701 ((ms m9) 5)) ((ms m9) 6)) (Mchief (ms m9))) (Ment (ms m9) 48)) (MasksIn (ms m9))))) _ := hP
  have hD : va_D A (wM g a (sMhs (sMth m9 (nI 0)) (mixI (mixI (mixI (mixI (mixI 4701 ((ms m9) 5)) ((ms m9) 6)) (Mchief (ms m9))) (Ment (ms m9) 48)) (MasksIn (ms m9))))) := hD
  refine lv_iconst (v := (nI 0)) hx hb dX4_digest_57 (by decide) ?_
  refine lv_istore_n (lv' := [(1, .int (nI 0)), (0, .ref (a 0))]) hx hb dX4_digest_58 rfl hl (by decide) rfl (fun ls hl => ?_)
  refine k_loop (N := 6) (Inv := fun (i : Nat) (H : Heap) (locs : List Loc) (ls : Array Slot) => va_P g.1 vwCl (wM g a (sMhs (sMth m9 (nI 0)) (MdgC (ms m9) (mixI (mixI (mixI (mixI (mixI 4701 (ms m9 5)) (ms m9 6)) (Mchief (ms m9))) (Ment (ms m9) 48)) (MasksIn (ms m9))) i))) H ∧ va_D A (wM g a (sMhs (sMth m9 (nI 0)) (MdgC (ms m9) (mixI (mixI (mixI (mixI (mixI 4701 (ms m9 5)) (ms m9 6)) (Mchief (ms m9))) (Ment (ms m9) 48)) (MasksIn (ms m9))) i))) ∧ va_S A s.heap H locs ∧ lv_has ls 2 [(1, .int (nI i)), (0, .ref (a 0))]) 0 (Nat.zero_le _) ⟨hP, hD, hS, lv_sub hl [0, 1] rfl⟩ (fun i hle2 ih1 H locs ls hinv => ?_)
  obtain ⟨hP, hD, hS, hl⟩ := hinv
  refine lv_iload_n hx hb dX4_digest_59 rfl (lv_at hl 0 rfl) ?_
  refine lv_bipush (v := (nI 6)) hx hb dX4_digest_60 (by decide) ?_
  refine k_geN (tgt := 84) hx hb (by omega) (by decide) dX4_digest_62 (by decide) (fun c3 => ?_) (fun c3 => ?_)
  ·
    obtain rfl : 6 = i := by omega
    refine lv_iconst (v := (nI 0)) hx hb dX4_digest_84 (by decide) ?_
    refine lv_istore_n (lv' := [(1, .int (nI 0)), (0, .ref (a 0))]) hx hb dX4_digest_85 rfl hl (by decide) rfl (fun ls hl => ?_)
    refine k_loop (N := 6) (Inv := fun (i2 : Nat) (H : Heap) (locs : List Loc) (ls : Array Slot) => va_P g.1 vwCl (wM g a (sMhs (sMth m9 (nI 0)) (MdgM (ms m9) (MdgC (ms m9) (mixI (mixI (mixI (mixI (mixI 4701 (ms m9 5)) (ms m9 6)) (Mchief (ms m9))) (Ment (ms m9) 48)) (MasksIn (ms m9))) 6) i2))) H ∧ va_D A (wM g a (sMhs (sMth m9 (nI 0)) (MdgM (ms m9) (MdgC (ms m9) (mixI (mixI (mixI (mixI (mixI 4701 (ms m9 5)) (ms m9 6)) (Mchief (ms m9))) (Ment (ms m9) 48)) (MasksIn (ms m9))) 6) i2))) ∧ va_S A s.heap H locs ∧ lv_has ls 2 [(1, .int (nI i2)), (0, .ref (a 0))]) 0 (Nat.zero_le _) ⟨hP, hD, hS, lv_sub hl [0, 1] rfl⟩ (fun i2 hle5 ih4 H locs ls hinv => ?_)
    obtain ⟨hP, hD, hS, hl⟩ := hinv
    refine lv_iload_n hx hb dX4_digest_86 rfl (lv_at hl 0 rfl) ?_
    refine lv_bipush (v := (nI 6)) hx hb dX4_digest_87 (by decide) ?_
    refine k_geN (tgt := 116) hx hb (by omega) (by decide) dX4_digest_89 (by decide) (fun c6 => ?_) (fun c6 => ?_)
    ·
      obtain rfl : 6 = i2 := by omega
      refine lv_iconst (v := (nI 0)) hx hb dX4_digest_116 (by decide) ?_
      refine lv_istore_n (lv' := [(1, .int (nI 0)), (0, .ref (a 0))]) hx hb dX4_digest_117 rfl hl (by decide) rfl (fun ls hl => ?_)
      refine k_loop (N := 48) (Inv := fun (i3 : Nat) (H : Heap) (locs : List Loc) (ls : Array Slot) => va_P g.1 vwCl (wM g a (sMas (sMhs (sMth m9 (nI 0)) (MdgK (ms m9) (MdgM (ms m9) (MdgC (ms m9) (mixI (mixI (mixI (mixI (mixI 4701 (ms m9 5)) (ms m9 6)) (Mchief (ms m9))) (Ment (ms m9) 48)) (MasksIn (ms m9))) 6) 6) i3)) (if i3 = 0 then (mas m9) else (ms m9)))) H ∧ va_D A (wM g a (sMas (sMhs (sMth m9 (nI 0)) (MdgK (ms m9) (MdgM (ms m9) (MdgC (ms m9) (mixI (mixI (mixI (mixI (mixI 4701 (ms m9 5)) (ms m9 6)) (Mchief (ms m9))) (Ment (ms m9) 48)) (MasksIn (ms m9))) 6) 6) i3)) (if i3 = 0 then (mas m9) else (ms m9)))) ∧ va_S A s.heap H locs ∧ lv_has ls 2 [(1, .int (nI i3)), (0, .ref (a 0))]) 0 (Nat.zero_le _) ⟨hP, hD, hS, lv_sub hl [0, 1] rfl⟩ (fun i3 hle8 ih7 H locs ls hinv => ?_)
      obtain ⟨hP, hD, hS, hl⟩ := hinv
      refine lv_iload_n hx hb dX4_digest_118 rfl (lv_at hl 0 rfl) ?_
      refine lv_bipush (v := (nI 48)) hx hb dX4_digest_119 (by decide) ?_
      refine k_geN (tgt := 188) hx hb (by omega) (by decide) dX4_digest_121 (by decide) (fun c10 => ?_) (fun c10 => ?_)
      ·
        obtain rfl : 48 = i3 := by omega
        refine lv_aload_n hx hb dX4_digest_188 rfl (lv_at hl 1 rfl) ?_
        refine va_get (D := g.1) (ci := 4) (v := .long (MdgK (ms m9) (MdgM (ms m9) (MdgC (ms m9) (mixI (mixI (mixI (mixI (mixI 4701 (ms m9 5)) (ms m9 6)) (Mchief (ms m9))) (Ment (ms m9) 48)) (MasksIn (ms m9))) 6) 6) 48)) (C := RX4) (T := TX4) (N := 12) hx hb hts hiX4 hown hE.1 hP 0 rfl rfl 11 (by decide) f146 (fun _ h9 => h9) rfl dX4_digest_189 ?_
        have e11 : (MdigS m9) = (sMas (sMhs (sMth m9 (nI 0)) (MdgK (ms m9) (MdgM (ms m9) (MdgC (ms m9) (mixI (mixI (mixI (mixI (mixI 4701 (ms m9 5)) (ms m9 6)) (Mchief (ms m9))) (Ment (ms m9) 48)) (MasksIn (ms m9))) 6) 6) 48)) (if 48 = 0 then (mas m9) else (ms m9))) := (by first | (simp only [Mdig, MdigS, if_pos c3, if_neg (not_not_intro c3), if_pos c6, if_neg (not_not_intro c6), if_pos c10, if_neg (not_not_intro c10)]; done) | (simp only [Mdig, MdigS, if_pos c3, if_neg (not_not_intro c3), if_pos c6, if_neg (not_not_intro c6), if_pos c10, if_neg (not_not_intro c10)]; with_reducible rfl) | with_reducible rfl | (simp [Mdig, MdigS, if_pos c3, if_neg (not_not_intro c3), if_pos c6, if_neg (not_not_intro c6), if_pos c10, if_neg (not_not_intro c10)]; done))
        have hP : va_P g.1 vwCl (wM g a (MdigS m9)) H := by rw [e11]; exact hP
        have hD : va_D A (wM g a (MdigS m9)) := by rw [e11]; exact hD
        exact k_lret hx hb hr hlocks (by first | (simp only [Mdig, MdigS, bI, if_pos c3, if_neg (not_not_intro c3), if_pos c6, if_neg (not_not_intro c6), if_pos c10, if_neg (not_not_intro c10)]; done) | (simp only [Mdig, MdigS, bI, if_pos c3, if_neg (not_not_intro c3), if_pos c6, if_neg (not_not_intro c6), if_pos c10, if_neg (not_not_intro c10)]; with_reducible rfl) | with_reducible rfl | (simp [Mdig, MdigS, bI, if_pos c3, if_neg (not_not_intro c3), if_pos c6, if_neg (not_not_intro c6), if_pos c10, if_neg (not_not_intro c10)]; done)) hP hD hS (Nat.le_of_ble_eq_true rfl) (Nat.le_of_ble_eq_true rfl) dX4_digest_192
      ·
        refine lv_iload_n hx hb dX4_digest_124 rfl (lv_at hl 0 rfl) ?_
        refine lv_bipush (v := (nI 6)) hx hb dX4_digest_125 (by decide) ?_
        refine lv_irem hx hb dX4_digest_127 (by decide) ?_
        refine k_top (pk_rem (by omega) (by decide) (by decide)) ?_
        refine k_ifn0 (tgt := 147) hx hb (by omega) dX4_digest_128 (by decide) (fun c12 => ?_) (fun c12 => ?_)
        ·
          refine lv_aload_n hx hb dX4_digest_147 rfl (lv_at hl 1 rfl) ?_
          refine lv_aload_n hx hb dX4_digest_148 rfl (lv_at hl 1 rfl) ?_
          refine va_get (D := g.1) (ci := 4) (v := .ref (a 1)) (C := RX4) (T := TX4) (N := 12) hx hb hts hiX4 hown hE.1 hP 0 rfl rfl 1 (by decide) f7 (fun _ h9 => h9) rfl dX4_digest_149 ?_
          refine lv_bipush (v := (nI 21)) hx hb dX4_digest_152 (by decide) ?_
          refine lv_iload_n hx hb dX4_digest_154 rfl (lv_at hl 0 rfl) ?_
          refine lv_iadd hx hb dX4_digest_155 ?_
          refine k_top (nI_add _ _) ?_
          refine k_iald (f := (ms m9)) hx hb hE hP 1 rfl (21 + i3) rfl (by omega) (by decide) dX4_digest_156 ?_
          refine k_Vv (As := [.int ((ms m9) (21 + i3))]) hF (c_X4_hashes l g a (sMas (sMhs (sMth m9 (nI 0)) (MdgK (ms m9) (MdgM (ms m9) (MdgC (ms m9) (mixI (mixI (mixI (mixI (mixI 4701 (ms m9 5)) (ms m9 6)) (Mchief (ms m9))) (Ment (ms m9) 48)) (MasksIn (ms m9))) 6) 6) i3)) (if i3 = 0 then (mas m9) else (ms m9))) ((ms m9) (21 + i3))) (cwV 1 hts gX4_digest_X4_hashes rfl rfl rfl (by decide +kernel) ⟨Nat.le_of_ble_eq_true rfl, Nat.le_of_ble_eq_true rfl⟩) hE hP hD hS hA (k_pall _) ((k_pall _).symm) 0 rfl rfl rfl rfl hl.1 rfl (Nat.le_of_ble_eq_true rfl) dX4_digest_157 ⟨Nat.le_of_ble_eq_true rfl, Nat.le_of_ble_eq_true rfl⟩ (fun H locs hP hD hS => ?_)
          have hP : va_P g.1 vwCl (wM g a (sMhs (sMas (sMth m9 (nI 0)) (if i3 = 0 then (mas m9) else (ms m9))) (mixI (MdgK (ms m9) (MdgM (ms m9) (MdgC (ms m9) (mixI (mixI (mixI (mixI (mixI 4701 (ms m9 5)) (ms m9 6)) (Mchief (ms m9))) (Ment (ms m9) 48)) (MasksIn (ms m9))) 6) 6) i3) ((ms m9) (21 + i3))))) _ := hP
          have hD : va_D A (wM g a (sMhs (sMas (sMth m9 (nI 0)) (if i3 = 0 then (mas m9) else (ms m9))) (mixI (MdgK (ms m9) (MdgM (ms m9) (MdgC (ms m9) (mixI (mixI (mixI (mixI (mixI 4701 (ms m9 5)) (ms m9 6)) (Mchief (ms m9))) (Ment (ms m9) 48)) (MasksIn (ms m9))) 6) 6) i3) ((ms m9) (21 + i3))))) := hD
          refine lv_aload_n hx hb dX4_digest_160 rfl (lv_at hl 1 rfl) ?_
          refine lv_aload_n hx hb dX4_digest_161 rfl (lv_at hl 1 rfl) ?_
          refine va_get (D := g.1) (ci := 4) (v := .ref (a 1)) (C := RX4) (T := TX4) (N := 12) hx hb hts hiX4 hown hE.1 hP 0 rfl rfl 1 (by decide) f7 (fun _ h9 => h9) rfl dX4_digest_162 ?_
          refine lv_bipush (v := (nI 69)) hx hb dX4_digest_165 (by decide) ?_
          refine lv_iload_n hx hb dX4_digest_167 rfl (lv_at hl 0 rfl) ?_
          refine lv_iadd hx hb dX4_digest_168 ?_
          refine k_top (nI_add _ _) ?_
          refine k_iald (f := (ms m9)) hx hb hE hP 1 rfl (69 + i3) rfl (by omega) (by decide) dX4_digest_169 ?_
          refine k_Vv (As := [.int ((ms m9) (69 + i3))]) hF (c_X4_hashes l g a (sMhs (sMas (sMth m9 (nI 0)) (if i3 = 0 then (mas m9) else (ms m9))) (mixI (MdgK (ms m9) (MdgM (ms m9) (MdgC (ms m9) (mixI (mixI (mixI (mixI (mixI 4701 (ms m9 5)) (ms m9 6)) (Mchief (ms m9))) (Ment (ms m9) 48)) (MasksIn (ms m9))) 6) 6) i3) ((ms m9) (21 + i3)))) ((ms m9) (69 + i3))) (cwV 1 hts gX4_digest_X4_hashes rfl rfl rfl (by decide +kernel) ⟨Nat.le_of_ble_eq_true rfl, Nat.le_of_ble_eq_true rfl⟩) hE hP hD hS hA (k_pall _) ((k_pall _).symm) 0 rfl rfl rfl rfl hl.1 rfl (Nat.le_of_ble_eq_true rfl) dX4_digest_170 ⟨Nat.le_of_ble_eq_true rfl, Nat.le_of_ble_eq_true rfl⟩ (fun H locs hP hD hS => ?_)
          have hP : va_P g.1 vwCl (wM g a (sMhs (sMas (sMth m9 (nI 0)) (if i3 = 0 then (mas m9) else (ms m9))) (mixI (mixI (MdgK (ms m9) (MdgM (ms m9) (MdgC (ms m9) (mixI (mixI (mixI (mixI (mixI 4701 (ms m9 5)) (ms m9 6)) (Mchief (ms m9))) (Ment (ms m9) 48)) (MasksIn (ms m9))) 6) 6) i3) ((ms m9) (21 + i3))) ((ms m9) (69 + i3))))) _ := hP
          have hD : va_D A (wM g a (sMhs (sMas (sMth m9 (nI 0)) (if i3 = 0 then (mas m9) else (ms m9))) (mixI (mixI (MdgK (ms m9) (MdgM (ms m9) (MdgC (ms m9) (mixI (mixI (mixI (mixI (mixI 4701 (ms m9 5)) (ms m9 6)) (Mchief (ms m9))) (Ment (ms m9) 48)) (MasksIn (ms m9))) 6) 6) i3) ((ms m9) (21 + i3))) ((ms m9) (69 + i3))))) := hD
          refine lv_aload_n hx hb dX4_digest_173 rfl (lv_at hl 1 rfl) ?_
          refine lv_aload_n hx hb dX4_digest_174 rfl (lv_at hl 1 rfl) ?_
          refine lv_iload_n hx hb dX4_digest_175 rfl (lv_at hl 0 rfl) ?_
          refine k_Vi (As := [.int (nI i3)]) (r := (Mfd (ms m9) i3)) hF (c_X4_fadesIn l g a (sMhs (sMas (sMth m9 (nI 0)) (if i3 = 0 then (mas m9) else (ms m9))) (mixI (mixI (MdgK (ms m9) (MdgM (ms m9) (MdgC (ms m9) (mixI (mixI (mixI (mixI (mixI 4701 (ms m9 5)) (ms m9 6)) (Mchief (ms m9))) (Ment (ms m9) 48)) (MasksIn (ms m9))) 6) 6) i3) ((ms m9) (21 + i3))) ((ms m9) (69 + i3)))) i3 (by omega)) (cwV 1 hts gX4_digest_X4_fadesIn rfl rfl rfl (by decide +kernel) ⟨Nat.le_of_ble_eq_true rfl, Nat.le_of_ble_eq_true rfl⟩) hE hP hD hS hA (k_pall _) ((k_pall _).symm) 0 rfl rfl rfl rfl hl.1 rfl (Nat.le_of_ble_eq_true rfl) dX4_digest_176 ⟨Nat.le_of_ble_eq_true rfl, Nat.le_of_ble_eq_true rfl⟩ (fun H locs hP hD hS => ?_)
          have hP : va_P g.1 vwCl (wM g a (sMas (sMhs (sMth m9 (nI 0)) (mixI (mixI (MdgK (ms m9) (MdgM (ms m9) (MdgC (ms m9) (mixI (mixI (mixI (mixI (mixI 4701 (ms m9 5)) (ms m9 6)) (Mchief (ms m9))) (Ment (ms m9) 48)) (MasksIn (ms m9))) 6) 6) i3) ((ms m9) (21 + i3))) ((ms m9) (69 + i3)))) (ms m9))) _ := hP
          have hD : va_D A (wM g a (sMas (sMhs (sMth m9 (nI 0)) (mixI (mixI (MdgK (ms m9) (MdgM (ms m9) (MdgC (ms m9) (mixI (mixI (mixI (mixI (mixI 4701 (ms m9 5)) (ms m9 6)) (Mchief (ms m9))) (Ment (ms m9) 48)) (MasksIn (ms m9))) 6) 6) i3) ((ms m9) (21 + i3))) ((ms m9) (69 + i3)))) (ms m9))) := hD
          refine k_Vv (As := [.int (Mfd (ms m9) i3)]) hF (c_X4_hashes l g a (sMas (sMhs (sMth m9 (nI 0)) (mixI (mixI (MdgK (ms m9) (MdgM (ms m9) (MdgC (ms m9) (mixI (mixI (mixI (mixI (mixI 4701 (ms m9 5)) (ms m9 6)) (Mchief (ms m9))) (Ment (ms m9) 48)) (MasksIn (ms m9))) 6) 6) i3) ((ms m9) (21 + i3))) ((ms m9) (69 + i3)))) (ms m9)) (Mfd (ms m9) i3)) (cwV 1 hts gX4_digest_X4_hashes rfl rfl rfl (by decide +kernel) ⟨Nat.le_of_ble_eq_true rfl, Nat.le_of_ble_eq_true rfl⟩) hE hP hD hS hA (k_pall _) ((k_pall _).symm) 0 rfl rfl rfl rfl hl.1 rfl (Nat.le_of_ble_eq_true rfl) dX4_digest_179 ⟨Nat.le_of_ble_eq_true rfl, Nat.le_of_ble_eq_true rfl⟩ (fun H locs hP hD hS => ?_)
          have hP : va_P g.1 vwCl (wM g a (sMhs (sMas (sMth m9 (nI 0)) (ms m9)) (mixI (mixI (mixI (MdgK (ms m9) (MdgM (ms m9) (MdgC (ms m9) (mixI (mixI (mixI (mixI (mixI 4701 (ms m9 5)) (ms m9 6)) (Mchief (ms m9))) (Ment (ms m9) 48)) (MasksIn (ms m9))) 6) 6) i3) ((ms m9) (21 + i3))) ((ms m9) (69 + i3))) (Mfd (ms m9) i3)))) _ := hP
          have hD : va_D A (wM g a (sMhs (sMas (sMth m9 (nI 0)) (ms m9)) (mixI (mixI (mixI (MdgK (ms m9) (MdgM (ms m9) (MdgC (ms m9) (mixI (mixI (mixI (mixI (mixI 4701 (ms m9 5)) (ms m9 6)) (Mchief (ms m9))) (Ment (ms m9) 48)) (MasksIn (ms m9))) 6) 6) i3) ((ms m9) (21 + i3))) ((ms m9) (69 + i3))) (Mfd (ms m9) i3)))) := hD
          refine lv_iinc (v := (nI (i3 + 1))) (lv' := [(1, .int (nI (i3 + 1))), (0, .ref (a 0))]) hx hb dX4_digest_182 hl (k := 0) rfl (k_inc1 _) (by decide) rfl (fun ls hl => ?_)
          refine lv_goto (tgt := 118) hx hb dX4_digest_185 (by decide) ?_
          have e13 : (sMas (sMhs (sMth m9 (nI 0)) (MdgK (ms m9) (MdgM (ms m9) (MdgC (ms m9) (mixI (mixI (mixI (mixI (mixI 4701 (ms m9 5)) (ms m9 6)) (Mchief (ms m9))) (Ment (ms m9) 48)) (MasksIn (ms m9))) 6) 6) (i3 + 1))) (if (i3 + 1) = 0 then (mas m9) else (ms m9))) = (sMhs (sMas (sMth m9 (nI 0)) (ms m9)) (mixI (mixI (mixI (MdgK (ms m9) (MdgM (ms m9) (MdgC (ms m9) (mixI (mixI (mixI (mixI (mixI 4701 (ms m9 5)) (ms m9 6)) (Mchief (ms m9))) (Ment (ms m9) 48)) (MasksIn (ms m9))) 6) 6) i3) ((ms m9) (21 + i3))) ((ms m9) (69 + i3))) (Mfd (ms m9) i3))) := (by first | (simp only [Mdig, MdigS, MdgK, MdgK1, if_neg (Nat.succ_ne_zero i3), if_pos c3, if_neg (not_not_intro c3), if_pos c6, if_neg (not_not_intro c6), if_neg (Nat.not_le.mpr c10), if_pos (Nat.not_le.mpr c10), if_neg c12, if_pos c12]; done) | (simp only [Mdig, MdigS, MdgK, MdgK1, if_neg (Nat.succ_ne_zero i3), if_pos c3, if_neg (not_not_intro c3), if_pos c6, if_neg (not_not_intro c6), if_neg (Nat.not_le.mpr c10), if_pos (Nat.not_le.mpr c10), if_neg c12, if_pos c12]; with_reducible rfl) | with_reducible rfl | (simp [Mdig, MdigS, MdgK, MdgK1, if_neg (Nat.succ_ne_zero i3), if_pos c3, if_neg (not_not_intro c3), if_pos c6, if_neg (not_not_intro c6), if_neg (Nat.not_le.mpr c10), if_pos (Nat.not_le.mpr c10), if_neg c12, if_pos c12]; done))
          exact ih7 _ _ _ (by omega) ⟨(by rw [e13]; exact hP), (by rw [e13]; exact hD), hS, lv_sub hl [0, 1] rfl⟩
        ·
          refine lv_aload_n hx hb dX4_digest_131 rfl (lv_at hl 1 rfl) ?_
          refine lv_aload_n hx hb dX4_digest_132 rfl (lv_at hl 1 rfl) ?_
          refine va_get (D := g.1) (ci := 4) (v := .ref (a 1)) (C := RX4) (T := TX4) (N := 12) hx hb hts hiX4 hown hE.1 hP 0 rfl rfl 1 (by decide) f7 (fun _ h9 => h9) rfl dX4_digest_133 ?_
          refine lv_bipush (v := (nI 13)) hx hb dX4_digest_136 (by decide) ?_
          refine lv_iload_n hx hb dX4_digest_138 rfl (lv_at hl 0 rfl) ?_
          refine lv_bipush (v := (nI 6)) hx hb dX4_digest_139 (by decide) ?_
          refine lv_idiv hx hb dX4_digest_141 (by decide) ?_
          refine k_top (pk_div (by omega) (by decide) (by decide)) ?_
          refine lv_iadd hx hb dX4_digest_142 ?_
          refine k_top (nI_add _ _) ?_
          refine k_iald (f := (ms m9)) hx hb hE hP 1 rfl (13 + (i3 / 6)) rfl (by omega) (by decide) dX4_digest_143 ?_
          refine k_Vv (As := [.int ((ms m9) (13 + (i3 / 6)))]) hF (c_X4_hashes l g a (sMas (sMhs (sMth m9 (nI 0)) (MdgK (ms m9) (MdgM (ms m9) (MdgC (ms m9) (mixI (mixI (mixI (mixI (mixI 4701 (ms m9 5)) (ms m9 6)) (Mchief (ms m9))) (Ment (ms m9) 48)) (MasksIn (ms m9))) 6) 6) i3)) (if i3 = 0 then (mas m9) else (ms m9))) ((ms m9) (13 + (i3 / 6)))) (cwV 1 hts gX4_digest_X4_hashes rfl rfl rfl (by decide +kernel) ⟨Nat.le_of_ble_eq_true rfl, Nat.le_of_ble_eq_true rfl⟩) hE hP hD hS hA (k_pall _) ((k_pall _).symm) 0 rfl rfl rfl rfl hl.1 rfl (Nat.le_of_ble_eq_true rfl) dX4_digest_144 ⟨Nat.le_of_ble_eq_true rfl, Nat.le_of_ble_eq_true rfl⟩ (fun H locs hP hD hS => ?_)
          have hP : va_P g.1 vwCl (wM g a (sMhs (sMas (sMth m9 (nI 0)) (if i3 = 0 then (mas m9) else (ms m9))) (mixI (MdgK (ms m9) (MdgM (ms m9) (MdgC (ms m9) (mixI (mixI (mixI (mixI (mixI 4701 (ms m9 5)) (ms m9 6)) (Mchief (ms m9))) (Ment (ms m9) 48)) (MasksIn (ms m9))) 6) 6) i3) ((ms m9) (13 + (i3 / 6)))))) _ := hP
          have hD : va_D A (wM g a (sMhs (sMas (sMth m9 (nI 0)) (if i3 = 0 then (mas m9) else (ms m9))) (mixI (MdgK (ms m9) (MdgM (ms m9) (MdgC (ms m9) (mixI (mixI (mixI (mixI (mixI 4701 (ms m9 5)) (ms m9 6)) (Mchief (ms m9))) (Ment (ms m9) 48)) (MasksIn (ms m9))) 6) 6) i3) ((ms m9) (13 + (i3 / 6)))))) := hD
          refine lv_aload_n hx hb dX4_digest_147 rfl (lv_at hl 1 rfl) ?_
          refine lv_aload_n hx hb dX4_digest_148 rfl (lv_at hl 1 rfl) ?_
          refine va_get (D := g.1) (ci := 4) (v := .ref (a 1)) (C := RX4) (T := TX4) (N := 12) hx hb hts hiX4 hown hE.1 hP 0 rfl rfl 1 (by decide) f7 (fun _ h9 => h9) rfl dX4_digest_149 ?_
          refine lv_bipush (v := (nI 21)) hx hb dX4_digest_152 (by decide) ?_
          refine lv_iload_n hx hb dX4_digest_154 rfl (lv_at hl 0 rfl) ?_
          refine lv_iadd hx hb dX4_digest_155 ?_
          refine k_top (nI_add _ _) ?_
          refine k_iald (f := (ms m9)) hx hb hE hP 1 rfl (21 + i3) rfl (by omega) (by decide) dX4_digest_156 ?_
          refine k_Vv (As := [.int ((ms m9) (21 + i3))]) hF (c_X4_hashes l g a (sMhs (sMas (sMth m9 (nI 0)) (if i3 = 0 then (mas m9) else (ms m9))) (mixI (MdgK (ms m9) (MdgM (ms m9) (MdgC (ms m9) (mixI (mixI (mixI (mixI (mixI 4701 (ms m9 5)) (ms m9 6)) (Mchief (ms m9))) (Ment (ms m9) 48)) (MasksIn (ms m9))) 6) 6) i3) ((ms m9) (13 + (i3 / 6))))) ((ms m9) (21 + i3))) (cwV 1 hts gX4_digest_X4_hashes rfl rfl rfl (by decide +kernel) ⟨Nat.le_of_ble_eq_true rfl, Nat.le_of_ble_eq_true rfl⟩) hE hP hD hS hA (k_pall _) ((k_pall _).symm) 0 rfl rfl rfl rfl hl.1 rfl (Nat.le_of_ble_eq_true rfl) dX4_digest_157 ⟨Nat.le_of_ble_eq_true rfl, Nat.le_of_ble_eq_true rfl⟩ (fun H locs hP hD hS => ?_)
          have hP : va_P g.1 vwCl (wM g a (sMhs (sMas (sMth m9 (nI 0)) (if i3 = 0 then (mas m9) else (ms m9))) (mixI (mixI (MdgK (ms m9) (MdgM (ms m9) (MdgC (ms m9) (mixI (mixI (mixI (mixI (mixI 4701 (ms m9 5)) (ms m9 6)) (Mchief (ms m9))) (Ment (ms m9) 48)) (MasksIn (ms m9))) 6) 6) i3) ((ms m9) (13 + (i3 / 6)))) ((ms m9) (21 + i3))))) _ := hP
          have hD : va_D A (wM g a (sMhs (sMas (sMth m9 (nI 0)) (if i3 = 0 then (mas m9) else (ms m9))) (mixI (mixI (MdgK (ms m9) (MdgM (ms m9) (MdgC (ms m9) (mixI (mixI (mixI (mixI (mixI 4701 (ms m9 5)) (ms m9 6)) (Mchief (ms m9))) (Ment (ms m9) 48)) (MasksIn (ms m9))) 6) 6) i3) ((ms m9) (13 + (i3 / 6)))) ((ms m9) (21 + i3))))) := hD
          refine lv_aload_n hx hb dX4_digest_160 rfl (lv_at hl 1 rfl) ?_
          refine lv_aload_n hx hb dX4_digest_161 rfl (lv_at hl 1 rfl) ?_
          refine va_get (D := g.1) (ci := 4) (v := .ref (a 1)) (C := RX4) (T := TX4) (N := 12) hx hb hts hiX4 hown hE.1 hP 0 rfl rfl 1 (by decide) f7 (fun _ h9 => h9) rfl dX4_digest_162 ?_
          refine lv_bipush (v := (nI 69)) hx hb dX4_digest_165 (by decide) ?_
          refine lv_iload_n hx hb dX4_digest_167 rfl (lv_at hl 0 rfl) ?_
          refine lv_iadd hx hb dX4_digest_168 ?_
          refine k_top (nI_add _ _) ?_
          refine k_iald (f := (ms m9)) hx hb hE hP 1 rfl (69 + i3) rfl (by omega) (by decide) dX4_digest_169 ?_
          refine k_Vv (As := [.int ((ms m9) (69 + i3))]) hF (c_X4_hashes l g a (sMhs (sMas (sMth m9 (nI 0)) (if i3 = 0 then (mas m9) else (ms m9))) (mixI (mixI (MdgK (ms m9) (MdgM (ms m9) (MdgC (ms m9) (mixI (mixI (mixI (mixI (mixI 4701 (ms m9 5)) (ms m9 6)) (Mchief (ms m9))) (Ment (ms m9) 48)) (MasksIn (ms m9))) 6) 6) i3) ((ms m9) (13 + (i3 / 6)))) ((ms m9) (21 + i3)))) ((ms m9) (69 + i3))) (cwV 1 hts gX4_digest_X4_hashes rfl rfl rfl (by decide +kernel) ⟨Nat.le_of_ble_eq_true rfl, Nat.le_of_ble_eq_true rfl⟩) hE hP hD hS hA (k_pall _) ((k_pall _).symm) 0 rfl rfl rfl rfl hl.1 rfl (Nat.le_of_ble_eq_true rfl) dX4_digest_170 ⟨Nat.le_of_ble_eq_true rfl, Nat.le_of_ble_eq_true rfl⟩ (fun H locs hP hD hS => ?_)
          have hP : va_P g.1 vwCl (wM g a (sMhs (sMas (sMth m9 (nI 0)) (if i3 = 0 then (mas m9) else (ms m9))) (mixI (mixI (mixI (MdgK (ms m9) (MdgM (ms m9) (MdgC (ms m9) (mixI (mixI (mixI (mixI (mixI 4701 (ms m9 5)) (ms m9 6)) (Mchief (ms m9))) (Ment (ms m9) 48)) (MasksIn (ms m9))) 6) 6) i3) ((ms m9) (13 + (i3 / 6)))) ((ms m9) (21 + i3))) ((ms m9) (69 + i3))))) _ := hP
          have hD : va_D A (wM g a (sMhs (sMas (sMth m9 (nI 0)) (if i3 = 0 then (mas m9) else (ms m9))) (mixI (mixI (mixI (MdgK (ms m9) (MdgM (ms m9) (MdgC (ms m9) (mixI (mixI (mixI (mixI (mixI 4701 (ms m9 5)) (ms m9 6)) (Mchief (ms m9))) (Ment (ms m9) 48)) (MasksIn (ms m9))) 6) 6) i3) ((ms m9) (13 + (i3 / 6)))) ((ms m9) (21 + i3))) ((ms m9) (69 + i3))))) := hD
          refine lv_aload_n hx hb dX4_digest_173 rfl (lv_at hl 1 rfl) ?_
          refine lv_aload_n hx hb dX4_digest_174 rfl (lv_at hl 1 rfl) ?_
          refine lv_iload_n hx hb dX4_digest_175 rfl (lv_at hl 0 rfl) ?_
          refine k_Vi (As := [.int (nI i3)]) (r := (Mfd (ms m9) i3)) hF (c_X4_fadesIn l g a (sMhs (sMas (sMth m9 (nI 0)) (if i3 = 0 then (mas m9) else (ms m9))) (mixI (mixI (mixI (MdgK (ms m9) (MdgM (ms m9) (MdgC (ms m9) (mixI (mixI (mixI (mixI (mixI 4701 (ms m9 5)) (ms m9 6)) (Mchief (ms m9))) (Ment (ms m9) 48)) (MasksIn (ms m9))) 6) 6) i3) ((ms m9) (13 + (i3 / 6)))) ((ms m9) (21 + i3))) ((ms m9) (69 + i3)))) i3 (by omega)) (cwV 1 hts gX4_digest_X4_fadesIn rfl rfl rfl (by decide +kernel) ⟨Nat.le_of_ble_eq_true rfl, Nat.le_of_ble_eq_true rfl⟩) hE hP hD hS hA (k_pall _) ((k_pall _).symm) 0 rfl rfl rfl rfl hl.1 rfl (Nat.le_of_ble_eq_true rfl) dX4_digest_176 ⟨Nat.le_of_ble_eq_true rfl, Nat.le_of_ble_eq_true rfl⟩ (fun H locs hP hD hS => ?_)
          have hP : va_P g.1 vwCl (wM g a (sMas (sMhs (sMth m9 (nI 0)) (mixI (mixI (mixI (MdgK (ms m9) (MdgM (ms m9) (MdgC (ms m9) (mixI (mixI (mixI (mixI (mixI 4701 (ms m9 5)) (ms m9 6)) (Mchief (ms m9))) (Ment (ms m9) 48)) (MasksIn (ms m9))) 6) 6) i3) ((ms m9) (13 + (i3 / 6)))) ((ms m9) (21 + i3))) ((ms m9) (69 + i3)))) (ms m9))) _ := hP
          have hD : va_D A (wM g a (sMas (sMhs (sMth m9 (nI 0)) (mixI (mixI (mixI (MdgK (ms m9) (MdgM (ms m9) (MdgC (ms m9) (mixI (mixI (mixI (mixI (mixI 4701 (ms m9 5)) (ms m9 6)) (Mchief (ms m9))) (Ment (ms m9) 48)) (MasksIn (ms m9))) 6) 6) i3) ((ms m9) (13 + (i3 / 6)))) ((ms m9) (21 + i3))) ((ms m9) (69 + i3)))) (ms m9))) := hD
          refine k_Vv (As := [.int (Mfd (ms m9) i3)]) hF (c_X4_hashes l g a (sMas (sMhs (sMth m9 (nI 0)) (mixI (mixI (mixI (MdgK (ms m9) (MdgM (ms m9) (MdgC (ms m9) (mixI (mixI (mixI (mixI (mixI 4701 (ms m9 5)) (ms m9 6)) (Mchief (ms m9))) (Ment (ms m9) 48)) (MasksIn (ms m9))) 6) 6) i3) ((ms m9) (13 + (i3 / 6)))) ((ms m9) (21 + i3))) ((ms m9) (69 + i3)))) (ms m9)) (Mfd (ms m9) i3)) (cwV 1 hts gX4_digest_X4_hashes rfl rfl rfl (by decide +kernel) ⟨Nat.le_of_ble_eq_true rfl, Nat.le_of_ble_eq_true rfl⟩) hE hP hD hS hA (k_pall _) ((k_pall _).symm) 0 rfl rfl rfl rfl hl.1 rfl (Nat.le_of_ble_eq_true rfl) dX4_digest_179 ⟨Nat.le_of_ble_eq_true rfl, Nat.le_of_ble_eq_true rfl⟩ (fun H locs hP hD hS => ?_)
          have hP : va_P g.1 vwCl (wM g a (sMhs (sMas (sMth m9 (nI 0)) (ms m9)) (mixI (mixI (mixI (mixI (MdgK (ms m9) (MdgM (ms m9) (MdgC (ms m9) (mixI (mixI (mixI (mixI (mixI 4701 (ms m9 5)) (ms m9 6)) (Mchief (ms m9))) (Ment (ms m9) 48)) (MasksIn (ms m9))) 6) 6) i3) ((ms m9) (13 + (i3 / 6)))) ((ms m9) (21 + i3))) ((ms m9) (69 + i3))) (Mfd (ms m9) i3)))) _ := hP
          have hD : va_D A (wM g a (sMhs (sMas (sMth m9 (nI 0)) (ms m9)) (mixI (mixI (mixI (mixI (MdgK (ms m9) (MdgM (ms m9) (MdgC (ms m9) (mixI (mixI (mixI (mixI (mixI 4701 (ms m9 5)) (ms m9 6)) (Mchief (ms m9))) (Ment (ms m9) 48)) (MasksIn (ms m9))) 6) 6) i3) ((ms m9) (13 + (i3 / 6)))) ((ms m9) (21 + i3))) ((ms m9) (69 + i3))) (Mfd (ms m9) i3)))) := hD
          refine lv_iinc (v := (nI (i3 + 1))) (lv' := [(1, .int (nI (i3 + 1))), (0, .ref (a 0))]) hx hb dX4_digest_182 hl (k := 0) rfl (k_inc1 _) (by decide) rfl (fun ls hl => ?_)
          refine lv_goto (tgt := 118) hx hb dX4_digest_185 (by decide) ?_
          have e14 : (sMas (sMhs (sMth m9 (nI 0)) (MdgK (ms m9) (MdgM (ms m9) (MdgC (ms m9) (mixI (mixI (mixI (mixI (mixI 4701 (ms m9 5)) (ms m9 6)) (Mchief (ms m9))) (Ment (ms m9) 48)) (MasksIn (ms m9))) 6) 6) (i3 + 1))) (if (i3 + 1) = 0 then (mas m9) else (ms m9))) = (sMhs (sMas (sMth m9 (nI 0)) (ms m9)) (mixI (mixI (mixI (mixI (MdgK (ms m9) (MdgM (ms m9) (MdgC (ms m9) (mixI (mixI (mixI (mixI (mixI 4701 (ms m9 5)) (ms m9 6)) (Mchief (ms m9))) (Ment (ms m9) 48)) (MasksIn (ms m9))) 6) 6) i3) ((ms m9) (13 + (i3 / 6)))) ((ms m9) (21 + i3))) ((ms m9) (69 + i3))) (Mfd (ms m9) i3))) := (by first | (simp only [Mdig, MdigS, MdgK, MdgK1, if_neg (Nat.succ_ne_zero i3), if_pos c3, if_neg (not_not_intro c3), if_pos c6, if_neg (not_not_intro c6), if_neg (Nat.not_le.mpr c10), if_pos (Nat.not_le.mpr c10), if_pos c12, if_neg (not_not_intro c12)]; done) | (simp only [Mdig, MdigS, MdgK, MdgK1, if_neg (Nat.succ_ne_zero i3), if_pos c3, if_neg (not_not_intro c3), if_pos c6, if_neg (not_not_intro c6), if_neg (Nat.not_le.mpr c10), if_pos (Nat.not_le.mpr c10), if_pos c12, if_neg (not_not_intro c12)]; with_reducible rfl) | with_reducible rfl | (simp [Mdig, MdigS, MdgK, MdgK1, if_neg (Nat.succ_ne_zero i3), if_pos c3, if_neg (not_not_intro c3), if_pos c6, if_neg (not_not_intro c6), if_neg (Nat.not_le.mpr c10), if_pos (Nat.not_le.mpr c10), if_pos c12, if_neg (not_not_intro c12)]; done))
          exact ih7 _ _ _ (by omega) ⟨(by rw [e14]; exact hP), (by rw [e14]; exact hD), hS, lv_sub hl [0, 1] rfl⟩
    ·
      refine lv_aload_n hx hb dX4_digest_92 rfl (lv_at hl 1 rfl) ?_
      refine lv_aload_n hx hb dX4_digest_93 rfl (lv_at hl 1 rfl) ?_
      refine lv_iload_n hx hb dX4_digest_94 rfl (lv_at hl 0 rfl) ?_
      refine k_Vi (As := [.int (nI i2)]) (r := (Mrow (ms m9) i2 8)) hF (c_X4_rowsOf l g a (sMhs (sMth m9 (nI 0)) (MdgM (ms m9) (MdgC (ms m9) (mixI (mixI (mixI (mixI (mixI 4701 (ms m9 5)) (ms m9 6)) (Mchief (ms m9))) (Ment (ms m9) 48)) (MasksIn (ms m9))) 6) i2)) i2 (by omega)) (cwV 1 hts gX4_digest_X4_rowsOf rfl rfl rfl (by decide +kernel) ⟨Nat.le_of_ble_eq_true rfl, Nat.le_of_ble_eq_true rfl⟩) hE hP hD hS hA (k_pall _) ((k_pall _).symm) 0 rfl rfl rfl rfl hl.1 rfl (Nat.le_of_ble_eq_true rfl) dX4_digest_95 ⟨Nat.le_of_ble_eq_true rfl, Nat.le_of_ble_eq_true rfl⟩ (fun H locs hP hD hS => ?_)
      have hP : va_P g.1 vwCl (wM g a (sMhs (sMth m9 (nI 0)) (MdgM (ms m9) (MdgC (ms m9) (mixI (mixI (mixI (mixI (mixI 4701 (ms m9 5)) (ms m9 6)) (Mchief (ms m9))) (Ment (ms m9) 48)) (MasksIn (ms m9))) 6) i2))) _ := hP
      have hD : va_D A (wM g a (sMhs (sMth m9 (nI 0)) (MdgM (ms m9) (MdgC (ms m9) (mixI (mixI (mixI (mixI (mixI 4701 (ms m9 5)) (ms m9 6)) (Mchief (ms m9))) (Ment (ms m9) 48)) (MasksIn (ms m9))) 6) i2))) := hD
      refine k_Vv (As := [.int (Mrow (ms m9) i2 8)]) hF (c_X4_hashes l g a (sMhs (sMth m9 (nI 0)) (MdgM (ms m9) (MdgC (ms m9) (mixI (mixI (mixI (mixI (mixI 4701 (ms m9 5)) (ms m9 6)) (Mchief (ms m9))) (Ment (ms m9) 48)) (MasksIn (ms m9))) 6) i2)) (Mrow (ms m9) i2 8)) (cwV 1 hts gX4_digest_X4_hashes rfl rfl rfl (by decide +kernel) ⟨Nat.le_of_ble_eq_true rfl, Nat.le_of_ble_eq_true rfl⟩) hE hP hD hS hA (k_pall _) ((k_pall _).symm) 0 rfl rfl rfl rfl hl.1 rfl (Nat.le_of_ble_eq_true rfl) dX4_digest_98 ⟨Nat.le_of_ble_eq_true rfl, Nat.le_of_ble_eq_true rfl⟩ (fun H locs hP hD hS => ?_)
      have hP : va_P g.1 vwCl (wM g a (sMhs (sMth m9 (nI 0)) (mixI (MdgM (ms m9) (MdgC (ms m9) (mixI (mixI (mixI (mixI (mixI 4701 (ms m9 5)) (ms m9 6)) (Mchief (ms m9))) (Ment (ms m9) 48)) (MasksIn (ms m9))) 6) i2) (Mrow (ms m9) i2 8)))) _ := hP
      have hD : va_D A (wM g a (sMhs (sMth m9 (nI 0)) (mixI (MdgM (ms m9) (MdgC (ms m9) (mixI (mixI (mixI (mixI (mixI 4701 (ms m9 5)) (ms m9 6)) (Mchief (ms m9))) (Ment (ms m9) 48)) (MasksIn (ms m9))) 6) i2) (Mrow (ms m9) i2 8)))) := hD
      refine lv_aload_n hx hb dX4_digest_101 rfl (lv_at hl 1 rfl) ?_
      refine lv_aload_n hx hb dX4_digest_102 rfl (lv_at hl 1 rfl) ?_
      refine lv_iload_n hx hb dX4_digest_103 rfl (lv_at hl 0 rfl) ?_
      refine k_Vi (As := [.int (nI i2)]) (r := (Mwan (ms m9) i2 8)) hF (c_X4_wantedOf l g a (sMhs (sMth m9 (nI 0)) (mixI (MdgM (ms m9) (MdgC (ms m9) (mixI (mixI (mixI (mixI (mixI 4701 (ms m9 5)) (ms m9 6)) (Mchief (ms m9))) (Ment (ms m9) 48)) (MasksIn (ms m9))) 6) i2) (Mrow (ms m9) i2 8))) i2 (by omega)) (cwV 1 hts gX4_digest_X4_wantedOf rfl rfl rfl (by decide +kernel) ⟨Nat.le_of_ble_eq_true rfl, Nat.le_of_ble_eq_true rfl⟩) hE hP hD hS hA (k_pall _) ((k_pall _).symm) 0 rfl rfl rfl rfl hl.1 rfl (Nat.le_of_ble_eq_true rfl) dX4_digest_104 ⟨Nat.le_of_ble_eq_true rfl, Nat.le_of_ble_eq_true rfl⟩ (fun H locs hP hD hS => ?_)
      have hP : va_P g.1 vwCl (wM g a (sMhs (sMth m9 (nI 0)) (mixI (MdgM (ms m9) (MdgC (ms m9) (mixI (mixI (mixI (mixI (mixI 4701 (ms m9 5)) (ms m9 6)) (Mchief (ms m9))) (Ment (ms m9) 48)) (MasksIn (ms m9))) 6) i2) (Mrow (ms m9) i2 8)))) _ := hP
      have hD : va_D A (wM g a (sMhs (sMth m9 (nI 0)) (mixI (MdgM (ms m9) (MdgC (ms m9) (mixI (mixI (mixI (mixI (mixI 4701 (ms m9 5)) (ms m9 6)) (Mchief (ms m9))) (Ment (ms m9) 48)) (MasksIn (ms m9))) 6) i2) (Mrow (ms m9) i2 8)))) := hD
      refine k_Vv (As := [.int (Mwan (ms m9) i2 8)]) hF (c_X4_hashes l g a (sMhs (sMth m9 (nI 0)) (mixI (MdgM (ms m9) (MdgC (ms m9) (mixI (mixI (mixI (mixI (mixI 4701 (ms m9 5)) (ms m9 6)) (Mchief (ms m9))) (Ment (ms m9) 48)) (MasksIn (ms m9))) 6) i2) (Mrow (ms m9) i2 8))) (Mwan (ms m9) i2 8)) (cwV 1 hts gX4_digest_X4_hashes rfl rfl rfl (by decide +kernel) ⟨Nat.le_of_ble_eq_true rfl, Nat.le_of_ble_eq_true rfl⟩) hE hP hD hS hA (k_pall _) ((k_pall _).symm) 0 rfl rfl rfl rfl hl.1 rfl (Nat.le_of_ble_eq_true rfl) dX4_digest_107 ⟨Nat.le_of_ble_eq_true rfl, Nat.le_of_ble_eq_true rfl⟩ (fun H locs hP hD hS => ?_)
      have hP : va_P g.1 vwCl (wM g a (sMhs (sMth m9 (nI 0)) (mixI (mixI (MdgM (ms m9) (MdgC (ms m9) (mixI (mixI (mixI (mixI (mixI 4701 (ms m9 5)) (ms m9 6)) (Mchief (ms m9))) (Ment (ms m9) 48)) (MasksIn (ms m9))) 6) i2) (Mrow (ms m9) i2 8)) (Mwan (ms m9) i2 8)))) _ := hP
      have hD : va_D A (wM g a (sMhs (sMth m9 (nI 0)) (mixI (mixI (MdgM (ms m9) (MdgC (ms m9) (mixI (mixI (mixI (mixI (mixI 4701 (ms m9 5)) (ms m9 6)) (Mchief (ms m9))) (Ment (ms m9) 48)) (MasksIn (ms m9))) 6) i2) (Mrow (ms m9) i2 8)) (Mwan (ms m9) i2 8)))) := hD
      refine lv_iinc (v := (nI (i2 + 1))) (lv' := [(1, .int (nI (i2 + 1))), (0, .ref (a 0))]) hx hb dX4_digest_110 hl (k := 0) rfl (k_inc1 _) (by decide) rfl (fun ls hl => ?_)
      refine lv_goto (tgt := 86) hx hb dX4_digest_113 (by decide) ?_
      have e15 : (sMhs (sMth m9 (nI 0)) (MdgM (ms m9) (MdgC (ms m9) (mixI (mixI (mixI (mixI (mixI 4701 (ms m9 5)) (ms m9 6)) (Mchief (ms m9))) (Ment (ms m9) 48)) (MasksIn (ms m9))) 6) (i2 + 1))) = (sMhs (sMth m9 (nI 0)) (mixI (mixI (MdgM (ms m9) (MdgC (ms m9) (mixI (mixI (mixI (mixI (mixI 4701 (ms m9 5)) (ms m9 6)) (Mchief (ms m9))) (Ment (ms m9) 48)) (MasksIn (ms m9))) 6) i2) (Mrow (ms m9) i2 8)) (Mwan (ms m9) i2 8))) := (by first | (simp only [Mdig, MdigS, MdgM, if_pos c3, if_neg (not_not_intro c3), if_neg (Nat.not_le.mpr c6), if_pos (Nat.not_le.mpr c6)]; done) | (simp only [Mdig, MdigS, MdgM, if_pos c3, if_neg (not_not_intro c3), if_neg (Nat.not_le.mpr c6), if_pos (Nat.not_le.mpr c6)]; with_reducible rfl) | with_reducible rfl | (simp [Mdig, MdigS, MdgM, if_pos c3, if_neg (not_not_intro c3), if_neg (Nat.not_le.mpr c6), if_pos (Nat.not_le.mpr c6)]; done))
      exact ih4 _ _ _ (by omega) ⟨(by rw [e15]; exact hP), (by rw [e15]; exact hD), hS, lv_sub hl [0, 1] rfl⟩
  ·
    refine lv_aload_n hx hb dX4_digest_65 rfl (lv_at hl 1 rfl) ?_
    refine lv_aload_n hx hb dX4_digest_66 rfl (lv_at hl 1 rfl) ?_
    refine va_get (D := g.1) (ci := 4) (v := .ref (a 1)) (C := RX4) (T := TX4) (N := 12) hx hb hts hiX4 hown hE.1 hP 0 rfl rfl 1 (by decide) f7 (fun _ h9 => h9) rfl dX4_digest_67 ?_
    refine lv_bipush (v := (nI 7)) hx hb dX4_digest_70 (by decide) ?_
    refine lv_iload_n hx hb dX4_digest_72 rfl (lv_at hl 0 rfl) ?_
    refine lv_iadd hx hb dX4_digest_73 ?_
    refine k_top (nI_add _ _) ?_
    refine k_iald (f := (ms m9)) hx hb hE hP 1 rfl (7 + i) rfl (by omega) (by decide) dX4_digest_74 ?_
    refine k_Vv (As := [.int ((ms m9) (7 + i))]) hF (c_X4_hashes l g a (sMhs (sMth m9 (nI 0)) (MdgC (ms m9) (mixI (mixI (mixI (mixI (mixI 4701 (ms m9 5)) (ms m9 6)) (Mchief (ms m9))) (Ment (ms m9) 48)) (MasksIn (ms m9))) i)) ((ms m9) (7 + i))) (cwV 1 hts gX4_digest_X4_hashes rfl rfl rfl (by decide +kernel) ⟨Nat.le_of_ble_eq_true rfl, Nat.le_of_ble_eq_true rfl⟩) hE hP hD hS hA (k_pall _) ((k_pall _).symm) 0 rfl rfl rfl rfl hl.1 rfl (Nat.le_of_ble_eq_true rfl) dX4_digest_75 ⟨Nat.le_of_ble_eq_true rfl, Nat.le_of_ble_eq_true rfl⟩ (fun H locs hP hD hS => ?_)
    have hP : va_P g.1 vwCl (wM g a (sMhs (sMth m9 (nI 0)) (mixI (MdgC (ms m9) (mixI (mixI (mixI (mixI (mixI 4701 (ms m9 5)) (ms m9 6)) (Mchief (ms m9))) (Ment (ms m9) 48)) (MasksIn (ms m9))) i) ((ms m9) (7 + i))))) _ := hP
    have hD : va_D A (wM g a (sMhs (sMth m9 (nI 0)) (mixI (MdgC (ms m9) (mixI (mixI (mixI (mixI (mixI 4701 (ms m9 5)) (ms m9 6)) (Mchief (ms m9))) (Ment (ms m9) 48)) (MasksIn (ms m9))) i) ((ms m9) (7 + i))))) := hD
    refine lv_iinc (v := (nI (i + 1))) (lv' := [(1, .int (nI (i + 1))), (0, .ref (a 0))]) hx hb dX4_digest_78 hl (k := 0) rfl (k_inc1 _) (by decide) rfl (fun ls hl => ?_)
    refine lv_goto (tgt := 59) hx hb dX4_digest_81 (by decide) ?_
    have e16 : (sMhs (sMth m9 (nI 0)) (MdgC (ms m9) (mixI (mixI (mixI (mixI (mixI 4701 (ms m9 5)) (ms m9 6)) (Mchief (ms m9))) (Ment (ms m9) 48)) (MasksIn (ms m9))) (i + 1))) = (sMhs (sMth m9 (nI 0)) (mixI (MdgC (ms m9) (mixI (mixI (mixI (mixI (mixI 4701 (ms m9 5)) (ms m9 6)) (Mchief (ms m9))) (Ment (ms m9) 48)) (MasksIn (ms m9))) i) ((ms m9) (7 + i)))) := (by first | (simp only [Mdig, MdigS, MdgC, if_neg (Nat.not_le.mpr c3), if_pos (Nat.not_le.mpr c3)]; done) | (simp only [Mdig, MdigS, MdgC, if_neg (Nat.not_le.mpr c3), if_pos (Nat.not_le.mpr c3)]; with_reducible rfl) | with_reducible rfl | (simp [Mdig, MdigS, MdgC, if_neg (Nat.not_le.mpr c3), if_pos (Nat.not_le.mpr c3)]; done))
    exact ih1 _ _ _ (by omega) ⟨(by rw [e16]; exact hP), (by rw [e16]; exact hD), hS, lv_sub hl [0, 1] rfl⟩
