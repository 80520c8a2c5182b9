set_option maxHeartbeats 4000000 in
set_option maxRecDepth 100000 in
theorem c_X4_readsEvent (l : Launch) (g : kG) (a : Nat → Nat) (m9 : MSt) (n a9 : Nat) (hn : n ≤ 60) (hln : mln m9 = nI n) (hat : mat m9 = nI a9) (ha9 : a9 ≤ 100) (hbf : Tok (mbf m9) n) (ha60 : a9 ≤ 60) (r : Nat) (hrm : mrm m9 = nI r) (hr30 : r ≤ 30) : KV l yX4_readsEvent wsX4_readsEvent ({ frames := 3, cells := 0, slots := 0, locals := 66 }) g [.ref (a 0)] (wM g a m9) (wM g a (MR m9 (rEv (mbf m9) n a9 r (mrd m9)))) 0 0 := by
  refine k_begin (cc := cX4_readsEvent) (maxL := 3) (ret := none) (Qc := fun A => kQv g (wM g a (MR m9 (rEv (mbf m9) n a9 r (mrd m9)))) A) (by decide) rfl (Nat.le_of_ble_eq_true rfl) ?_
  intro p e s m below meth c A ls hF hr hlocks hin hE hP hD hS hA hl
  obtain ⟨hx, hb, hml, hown, hts⟩ := id hF
  have hown : s.vm.findClass RX4 = some m.cls := hown
  have hl : lv_has ls 3 [(0, .ref (a 0))] := hl
  have hiX4 : ∀ w ∈ wsX40, w ∈ wsX4_readsEvent := fun _ h => List.mem_cons_of_mem _ (List.mem_append_right _ (h))
  have f129 : (Cond.fieldLink RX4 129 "ConcertUsherModel" "readMany" "I").before _ s = true := hts _ (List.mem_of_getElem? (i := 1) rfl)
  have f119 : (Cond.fieldLink RX4 119 "ConcertUsherModel" "isWell" "Z").before _ s = true := hts _ (List.mem_of_getElem? (i := 2) rfl)
  have f116 : (Cond.fieldLink RX4 116 "ConcertUsherModel" "at" "I").before _ s = true := hts _ (List.mem_of_getElem? (i := 3) rfl)
  have f22 : (Cond.fieldLink RX4 22 "ConcertUsherModel" "read" "[I").before _ s = true := hts _ (List.mem_of_getElem? (i := 4) rfl)
  refine lv_iconst (v := (nI 3)) hx hb dX4_readsEvent_0 (by decide) ?_
  refine lv_aload_n hx hb dX4_readsEvent_1 rfl (lv_at hl 0 rfl) ?_
  refine va_get (D := g.1) (ci := 4) (v := .int (mrm m9)) (C := RX4) (T := TX4) (N := 12) hx hb hts hiX4 hown hE.1 hP 0 rfl rfl 10 (by decide) f129 (fun _ h9 => h9) rfl dX4_readsEvent_2 ?_
  refine k_top hrm ?_
  refine lv_imul hx hb dX4_readsEvent_5 ?_
  refine k_top (pk_mul _ _) ?_
  refine lv_istore_n (lv' := [(1, .int (nI (3 * r))), (0, .ref (a 0))]) hx hb dX4_readsEvent_6 rfl hl (by decide) rfl (fun ls hl => ?_)
  refine lv_aload_n hx hb dX4_readsEvent_7 rfl (lv_at hl 1 rfl) ?_
  refine k_Vi (As := []) (r := (nI (Bq (mbf m9) n a9))) hF (c_X4_sign l g a m9 n a9 hn hln hat (by omega) hbf) (cwV 0 hts gX4_readsEvent_X4_sign rfl rfl rfl (by decide +kernel) ⟨Nat.le_of_ble_eq_true rfl, Nat.le_of_ble_eq_true rfl⟩) hE hP hD hS hA (k_pall _) ((k_pall _).symm) 0 rfl rfl rfl rfl hl.1 rfl (Nat.le_of_ble_eq_true rfl) dX4_readsEvent_8 ⟨Nat.le_of_ble_eq_true rfl, Nat.le_of_ble_eq_true rfl⟩ (fun H locs hP hD hS => ?_)
  have hP : va_P g.1 vwCl (wM g a m9) _ := hP
  have hD : va_D A (wM g a m9) := hD
  refine lv_istore_n (lv' := [(2, .int (nI (Bq (mbf m9) n a9))), (1, .int (nI (3 * r))), (0, .ref (a 0))]) hx hb dX4_readsEvent_11 rfl hl (by decide) rfl (fun ls hl => ?_)
  refine lv_aload_n hx hb dX4_readsEvent_12 rfl (lv_at hl 2 rfl) ?_
  refine k_meet (x := .int (nI (evW (Bq (mbf m9) n a9)))) (pj := 54) (rest := [.ref (a 0)]) (fun J1 => ?_) ?_
  ·
    refine lv_iload_n hx hb dX4_readsEvent_13 rfl (lv_at hl 0 rfl) ?_
    refine lv_bipush (v := (nI 99)) hx hb dX4_readsEvent_14 (by decide) ?_
    refine k_eqN (tgt := 49) hx hb (Bq_lt31 hbf _) (by decide) dX4_readsEvent_16 (by decide) (fun c2 => ?_) (fun c2 => ?_)
    ·
      refine lv_iconst (v := (nI 1)) hx hb dX4_readsEvent_49 (by decide) ?_
      refine lv_goto (tgt := 54) hx hb dX4_readsEvent_50 (by decide) ?_
      exact k_top (by simp only [evW, if_pos c2]) J1
    ·
      refine lv_iload_n hx hb dX4_readsEvent_19 rfl (lv_at hl 0 rfl) ?_
      refine lv_bipush (v := (nI 108)) hx hb dX4_readsEvent_20 (by decide) ?_
      refine k_eqN (tgt := 49) hx hb (Bq_lt31 hbf _) (by decide) dX4_readsEvent_22 (by decide) (fun c3 => ?_) (fun c3 => ?_)
      ·
        refine lv_iconst (v := (nI 1)) hx hb dX4_readsEvent_49 (by decide) ?_
        refine lv_goto (tgt := 54) hx hb dX4_readsEvent_50 (by decide) ?_
        exact k_top (by simp only [evW, if_neg c2, if_pos c3]) J1
      ·
        refine lv_iload_n hx hb dX4_readsEvent_25 rfl (lv_at hl 0 rfl) ?_
        refine lv_bipush (v := (nI 115)) hx hb dX4_readsEvent_26 (by decide) ?_
        refine k_eqN (tgt := 49) hx hb (Bq_lt31 hbf _) (by decide) dX4_readsEvent_28 (by decide) (fun c4 => ?_) (fun c4 => ?_)
        ·
          refine lv_iconst (v := (nI 1)) hx hb dX4_readsEvent_49 (by decide) ?_
          refine lv_goto (tgt := 54) hx hb dX4_readsEvent_50 (by decide) ?_
          exact k_top (by simp only [evW, if_neg c2, if_neg c3, if_pos c4]) J1
        ·
          refine lv_iload_n hx hb dX4_readsEvent_31 rfl (lv_at hl 0 rfl) ?_
          refine lv_bipush (v := (nI 112)) hx hb dX4_readsEvent_32 (by decide) ?_
          refine k_eqN (tgt := 49) hx hb (Bq_lt31 hbf _) (by decide) dX4_readsEvent_34 (by decide) (fun c5 => ?_) (fun c5 => ?_)
          ·
            refine lv_iconst (v := (nI 1)) hx hb dX4_readsEvent_49 (by decide) ?_
            refine lv_goto (tgt := 54) hx hb dX4_readsEvent_50 (by decide) ?_
            exact k_top (by simp only [evW, if_neg c2, if_neg c3, if_neg c4, if_pos c5]) J1
          ·
            refine lv_iload_n hx hb dX4_readsEvent_37 rfl (lv_at hl 0 rfl) ?_
            refine lv_bipush (v := (nI 116)) hx hb dX4_readsEvent_38 (by decide) ?_
            refine k_eqN (tgt := 49) hx hb (Bq_lt31 hbf _) (by decide) dX4_readsEvent_40 (by decide) (fun c6 => ?_) (fun c6 => ?_)
            ·
              refine lv_iconst (v := (nI 1)) hx hb dX4_readsEvent_49 (by decide) ?_
              refine lv_goto (tgt := 54) hx hb dX4_readsEvent_50 (by decide) ?_
              exact k_top (by simp only [evW, if_neg c2, if_neg c3, if_neg c4, if_neg c5, if_pos c6]) J1
            ·
              refine lv_iload_n hx hb dX4_readsEvent_43 rfl (lv_at hl 0 rfl) ?_
              refine lv_bipush (v := (nI 111)) hx hb dX4_readsEvent_44 (by decide) ?_
              refine k_neN (tgt := 53) hx hb (Bq_lt31 hbf _) (by decide) dX4_readsEvent_46 (by decide) (fun c7 => ?_) (fun c7 => ?_)
              ·
                refine lv_iconst (v := (nI 0)) hx hb dX4_readsEvent_53 (by decide) ?_
                exact k_top (by simp only [evW, if_neg c2, if_neg c3, if_neg c4, if_neg c5, if_neg c6, if_neg c7]) J1
              ·
                refine lv_iconst (v := (nI 1)) hx hb dX4_readsEvent_49 (by decide) ?_
                refine lv_goto (tgt := 54) hx hb dX4_readsEvent_50 (by decide) ?_
                exact k_top (by simp only [evW, if_neg c2, if_neg c3, if_neg c4, if_neg c5, if_neg c6, if_pos c7]) J1
  ·
    refine va_put (D := g.1) (ci := 4) (v := .int (nI (evW (Bq (mbf m9) n a9)))) (ty := .boolean) (C := RX4) (T := TX4) (N := 12) hx hb hts hiX4 tyX4 tyX4_ok nmX4 hown hE.1 hP hD hS 0 rfl rfl 8 (by decide) f119 (fun _ h9 => h9) rfl (tyX4_ok 8 (by decide)) (bo_nar (k_b2 (evW_lt _))) (bo_fits (k_b2 (evW_lt _))) (Nat.le_of_ble_eq_true rfl) dX4_readsEvent_54 (fun H locs hP hD hS => ?_)
    have hP : va_P g.1 vwCl (wM g a (sMiw m9 (nI (evW (Bq (mbf m9) n a9))))) _ := hP
    have hD : va_D A (wM g a (sMiw m9 (nI (evW (Bq (mbf m9) n a9))))) := hD
    obtain ⟨z8, ez8⟩ : ∃ x : Nat, evW (Bq (mbf m9) n a9) = x := ⟨_, rfl⟩
    rw [ez8] at hP hD
    have hz8 : z8 < 2 := by rw [← ez8]; exact (evW_lt _)
    refine lv_aload_n hx hb dX4_readsEvent_57 rfl (lv_at hl 2 rfl) ?_
    refine lv_dup hx hb dX4_readsEvent_58 rfl ?_
    refine va_get (D := g.1) (ci := 4) (v := .int (mat m9)) (C := RX4) (T := TX4) (N := 12) hx hb hts hiX4 hown hE.1 hP 0 rfl rfl 7 (by decide) f116 (fun _ h9 => h9) rfl dX4_readsEvent_59 ?_
    refine k_top hat ?_
    refine lv_aload_n hx hb dX4_readsEvent_62 rfl (lv_at hl 2 rfl) ?_
    refine va_get (D := g.1) (ci := 4) (v := .int (nI z8)) (C := RX4) (T := TX4) (N := 12) hx hb hts hiX4 hown hE.1 hP 0 rfl rfl 8 (by decide) f119 (fun _ h9 => h9) rfl dX4_readsEvent_63 ?_
    refine k_meet (x := .int (nI z8)) (pj := 74) (rest := [.int (nI a9), .ref (a 0)]) (fun J9 => ?_) ?_
    ·
      refine k_if0 (tgt := 73) hx hb (Nat.lt_trans hz8 (by decide)) dX4_readsEvent_66 (by decide) (fun c10 => ?_) (fun c10 => ?_)
      ·
        refine lv_iconst (v := (nI 0)) hx hb dX4_readsEvent_73 (by decide) ?_
        exact k_top (congrArg nI (by have h8 : z8 < 2 := hz8; omega)) J9
      ·
        refine lv_iconst (v := (nI 1)) hx hb dX4_readsEvent_69 (by decide) ?_
        refine lv_goto (tgt := 74) hx hb dX4_readsEvent_70 (by decide) ?_
        exact k_top (congrArg nI (by have h8 : z8 < 2 := hz8; omega)) J9
    ·
      refine lv_iadd hx hb dX4_readsEvent_74 ?_
      refine k_top (nI_add _ _) ?_
      refine va_put (D := g.1) (ci := 4) (v := .int (nI (a9 + z8))) (ty := .int) (C := RX4) (T := TX4) (N := 12) hx hb hts hiX4 tyX4 tyX4_ok nmX4 hown hE.1 hP hD hS 0 rfl rfl 7 (by decide) f116 (fun _ h9 => h9) rfl (tyX4_ok 7 (by decide)) rfl rfl (Nat.le_of_ble_eq_true rfl) dX4_readsEvent_75 (fun H locs hP hD hS => ?_)
      have hP : va_P g.1 vwCl (wM g a (sMat (sMiw m9 (nI z8)) (nI (a9 + z8)))) _ := hP
      have hD : va_D A (wM g a (sMat (sMiw m9 (nI z8)) (nI (a9 + z8)))) := hD
      obtain ⟨z11, ez11⟩ : ∃ x : Nat, a9 + z8 = x := ⟨_, rfl⟩
      rw [ez11] at hP hD
      refine lv_aload_n hx hb dX4_readsEvent_78 rfl (lv_at hl 2 rfl) ?_
      refine va_get (D := g.1) (ci := 4) (v := .ref (a 5)) (C := RX4) (T := TX4) (N := 12) hx hb hts hiX4 hown hE.1 hP 0 rfl rfl 9 (by decide) f22 (fun _ h9 => h9) rfl dX4_readsEvent_79 ?_
      refine lv_iload_n hx hb dX4_readsEvent_82 rfl (lv_at hl 1 rfl) ?_
      refine lv_iload_n hx hb dX4_readsEvent_83 rfl (lv_at hl 0 rfl) ?_
      refine k_iast (f := (mrd m9)) (ws1 := (wM g a (sMrd (sMat (sMiw m9 (nI z8)) (nI z11)) (upd (mrd m9) (3 * r) (nI (Bq (mbf m9) n a9)))))) hx hb hE hP hD hS 5 rfl (3 * r) rfl (by omega) (by decide) rfl dX4_readsEvent_84 (fun H locs hP hD hS => ?_)
      obtain ⟨z12, ez12⟩ : ∃ x : Nat → Int32, (upd (mrd m9) (3 * r) (nI (Bq (mbf m9) n a9))) = x := ⟨_, rfl⟩
      rw [ez12] at hP hD
      refine lv_iload_n hx hb dX4_readsEvent_85 rfl (lv_at hl 0 rfl) ?_
      refine lv_bipush (v := (nI 116)) hx hb dX4_readsEvent_86 (by decide) ?_
      refine k_neN (tgt := 106) hx hb (Bq_lt31 hbf _) (by decide) dX4_readsEvent_88 (by decide) (fun c13 => ?_) (fun c13 => ?_)
      ·
        refine lv_iload_n hx hb dX4_readsEvent_106 rfl (lv_at hl 0 rfl) ?_
        refine lv_bipush (v := (nI 112)) hx hb dX4_readsEvent_107 (by decide) ?_
        refine k_neN (tgt := 129) hx hb (Bq_lt31 hbf _) (by decide) dX4_readsEvent_109 (by decide) (fun c14 => ?_) (fun c14 => ?_)
        ·
          refine lv_aload_n hx hb dX4_readsEvent_129 rfl (lv_at hl 2 rfl) ?_
          refine va_get (D := g.1) (ci := 4) (v := .ref (a 5)) (C := RX4) (T := TX4) (N := 12) hx hb hts hiX4 hown hE.1 hP 0 rfl rfl 9 (by decide) f22 (fun _ h9 => h9) rfl dX4_readsEvent_130 ?_
          refine lv_iload_n hx hb dX4_readsEvent_133 rfl (lv_at hl 1 rfl) ?_
          refine lv_iconst (v := (nI 1)) hx hb dX4_readsEvent_134 (by decide) ?_
          refine lv_iadd hx hb dX4_readsEvent_135 ?_
          refine k_top (nI_add _ _) ?_
          refine lv_aload_n hx hb dX4_readsEvent_136 rfl (lv_at hl 2 rfl) ?_
          refine lv_iconst (v := (nI 0)) hx hb dX4_readsEvent_137 (by decide) ?_
          refine lv_bipush (v := (nI 7)) hx hb dX4_readsEvent_138 (by decide) ?_
          refine k_Vi (As := [.int (nI 0), .int (nI 7)]) (r := ((nI (Bq (mbf m9) n z11)) - (nI 48))) hF (c_X4_figure l g a (sMrd (sMat (sMiw m9 (nI z8)) (nI z11)) z12) n z11 hn hln rfl (by omega) hbf z8 rfl hz8 0 (by decide) 7 (by decide)) (cwV 2 hts gX4_readsEvent_X4_figure rfl rfl rfl (by decide +kernel) ⟨Nat.le_of_ble_eq_true rfl, Nat.le_of_ble_eq_true rfl⟩) hE hP hD hS hA (k_pall _) ((k_pall _).symm) 0 rfl rfl rfl rfl hl.1 rfl (Nat.le_of_ble_eq_true rfl) dX4_readsEvent_140 ⟨Nat.le_of_ble_eq_true rfl, Nat.le_of_ble_eq_true rfl⟩ (fun H locs hP hD hS => ?_)
          have hP : va_P g.1 vwCl (wM g a (sMat (sMiw (sMrd m9 z12) (nI (figW z8 (Bq (mbf m9) n z11) 0 7))) (nI (z11 + (figW z8 (Bq (mbf m9) n z11) 0 7))))) _ := hP
          have hD : va_D A (wM g a (sMat (sMiw (sMrd m9 z12) (nI (figW z8 (Bq (mbf m9) n z11) 0 7))) (nI (z11 + (figW z8 (Bq (mbf m9) n z11) 0 7))))) := hD
          obtain ⟨z15, ez15⟩ : ∃ x : Nat, figW z8 (Bq (mbf m9) n z11) 0 7 = x := ⟨_, rfl⟩
          rw [ez15] at hP hD
          have hz15 : z15 < 2 := by rw [← ez15]; exact (figW_lt _ _ _ _)
          obtain ⟨z16, ez16⟩ : ∃ x : Nat, z11 + z15 = x := ⟨_, rfl⟩
          rw [ez16] at hP hD
          refine k_iast (f := z12) (ws1 := (wM g a (sMrd (sMat (sMiw m9 (nI z15)) (nI z16)) (upd z12 ((3 * r) + 1) ((nI (Bq (mbf m9) n z11)) - (nI 48)))))) hx hb hE hP hD hS 5 rfl ((3 * r) + 1) rfl (by omega) (by decide) rfl dX4_readsEvent_143 (fun H locs hP hD hS => ?_)
          obtain ⟨z17, ez17⟩ : ∃ x : Nat → Int32, (upd z12 ((3 * r) + 1) ((nI (Bq (mbf m9) n z11)) - (nI 48))) = x := ⟨_, rfl⟩
          rw [ez17] at hP hD
          refine lv_iload_n hx hb dX4_readsEvent_144 rfl (lv_at hl 0 rfl) ?_
          refine lv_bipush (v := (nI 99)) hx hb dX4_readsEvent_145 (by decide) ?_
          refine k_eqN (tgt := 162) hx hb (Bq_lt31 hbf _) (by decide) dX4_readsEvent_147 (by decide) (fun c18 => ?_) (fun c18 => ?_)
          ·
            refine lv_aload_n hx hb dX4_readsEvent_162 rfl (lv_at hl 2 rfl) ?_
            refine va_get (D := g.1) (ci := 4) (v := .ref (a 5)) (C := RX4) (T := TX4) (N := 12) hx hb hts hiX4 hown hE.1 hP 0 rfl rfl 9 (by decide) f22 (fun _ h9 => h9) rfl dX4_readsEvent_163 ?_
            refine lv_iload_n hx hb dX4_readsEvent_166 rfl (lv_at hl 1 rfl) ?_
            refine lv_iconst (v := (nI 2)) hx hb dX4_readsEvent_167 (by decide) ?_
            refine lv_iadd hx hb dX4_readsEvent_168 ?_
            refine k_top (nI_add _ _) ?_
            refine lv_aload_n hx hb dX4_readsEvent_169 rfl (lv_at hl 2 rfl) ?_
            refine lv_iconst (v := (nI 0)) hx hb dX4_readsEvent_170 (by decide) ?_
            refine lv_iconst (v := (nI 5)) hx hb dX4_readsEvent_171 (by decide) ?_
            refine k_Vi (As := [.int (nI 0), .int (nI 5)]) (r := ((nI (Bq (mbf m9) n z16)) - (nI 48))) hF (c_X4_figure l g a (sMrd (sMat (sMiw m9 (nI z15)) (nI z16)) z17) n z16 hn hln rfl (by omega) hbf z15 rfl hz15 0 (by decide) 5 (by decide)) (cwV 2 hts gX4_readsEvent_X4_figure rfl rfl rfl (by decide +kernel) ⟨Nat.le_of_ble_eq_true rfl, Nat.le_of_ble_eq_true rfl⟩) hE hP hD hS hA (k_pall _) ((k_pall _).symm) 0 rfl rfl rfl rfl hl.1 rfl (Nat.le_of_ble_eq_true rfl) dX4_readsEvent_172 ⟨Nat.le_of_ble_eq_true rfl, Nat.le_of_ble_eq_true rfl⟩ (fun H locs hP hD hS => ?_)
            have hP : va_P g.1 vwCl (wM g a (sMat (sMiw (sMrd m9 z17) (nI (figW z15 (Bq (mbf m9) n z16) 0 5))) (nI (z16 + (figW z15 (Bq (mbf m9) n z16) 0 5))))) _ := hP
            have hD : va_D A (wM g a (sMat (sMiw (sMrd m9 z17) (nI (figW z15 (Bq (mbf m9) n z16) 0 5))) (nI (z16 + (figW z15 (Bq (mbf m9) n z16) 0 5))))) := hD
            obtain ⟨z19, ez19⟩ : ∃ x : Nat, figW z15 (Bq (mbf m9) n z16) 0 5 = x := ⟨_, rfl⟩
            rw [ez19] at hP hD
            have hz19 : z19 < 2 := by rw [← ez19]; exact (figW_lt _ _ _ _)
            obtain ⟨z20, ez20⟩ : ∃ x : Nat, z16 + z19 = x := ⟨_, rfl⟩
            rw [ez20] at hP hD
            refine k_iast (f := z17) (ws1 := (wM g a (sMrd (sMat (sMiw m9 (nI z19)) (nI z20)) (upd z17 ((3 * r) + 2) ((nI (Bq (mbf m9) n z16)) - (nI 48)))))) hx hb hE hP hD hS 5 rfl ((3 * r) + 2) rfl (by omega) (by decide) rfl dX4_readsEvent_175 (fun H locs hP hD hS => ?_)
            obtain ⟨z21, ez21⟩ : ∃ x : Nat → Int32, (upd z17 ((3 * r) + 2) ((nI (Bq (mbf m9) n z16)) - (nI 48))) = x := ⟨_, rfl⟩
            rw [ez21] at hP hD
            refine lv_aload_n hx hb dX4_readsEvent_176 rfl (lv_at hl 2 rfl) ?_
            refine lv_dup hx hb dX4_readsEvent_177 rfl ?_
            refine va_get (D := g.1) (ci := 4) (v := .int (mrm m9)) (C := RX4) (T := TX4) (N := 12) hx hb hts hiX4 hown hE.1 hP 0 rfl rfl 10 (by decide) f129 (fun _ h9 => h9) rfl dX4_readsEvent_178 ?_
            refine k_top hrm ?_
            refine lv_aload_n hx hb dX4_readsEvent_181 rfl (lv_at hl 2 rfl) ?_
            refine va_get (D := g.1) (ci := 4) (v := .int (nI z19)) (C := RX4) (T := TX4) (N := 12) hx hb hts hiX4 hown hE.1 hP 0 rfl rfl 8 (by decide) f119 (fun _ h9 => h9) rfl dX4_readsEvent_182 ?_
            refine k_meet (x := .int (nI z19)) (pj := 193) (rest := [.int (nI r), .ref (a 0)]) (fun J22 => ?_) ?_
            ·
              refine k_if0 (tgt := 192) hx hb (Nat.lt_trans hz19 (by decide)) dX4_readsEvent_185 (by decide) (fun c23 => ?_) (fun c23 => ?_)
              ·
                refine lv_iconst (v := (nI 0)) hx hb dX4_readsEvent_192 (by decide) ?_
                exact k_top (congrArg nI (by have h8 : z19 < 2 := hz19; omega)) J22
              ·
                refine lv_iconst (v := (nI 1)) hx hb dX4_readsEvent_188 (by decide) ?_
                refine lv_goto (tgt := 193) hx hb dX4_readsEvent_189 (by decide) ?_
                exact k_top (congrArg nI (by have h8 : z19 < 2 := hz19; omega)) J22
            ·
              refine lv_iadd hx hb dX4_readsEvent_193 ?_
              refine k_top (nI_add _ _) ?_
              refine va_put (D := g.1) (ci := 4) (v := .int (nI (r + z19))) (ty := .int) (C := RX4) (T := TX4) (N := 12) hx hb hts hiX4 tyX4 tyX4_ok nmX4 hown hE.1 hP hD hS 0 rfl rfl 10 (by decide) f129 (fun _ h9 => h9) rfl (tyX4_ok 10 (by decide)) rfl rfl (Nat.le_of_ble_eq_true rfl) dX4_readsEvent_194 (fun H locs hP hD hS => ?_)
              have hP : va_P g.1 vwCl (wM g a (sMrm (sMrd (sMat (sMiw m9 (nI z19)) (nI z20)) z21) (nI (r + z19)))) _ := hP
              have hD : va_D A (wM g a (sMrm (sMrd (sMat (sMiw m9 (nI z19)) (nI z20)) z21) (nI (r + z19)))) := hD
              have e24 : (MR m9 (rEv (mbf m9) n a9 r (mrd m9))) = (sMrm (sMrd (sMat (sMiw m9 (nI z19)) (nI z20)) z21) (nI (r + z19))) := (by subst ez21; subst ez20; subst ez19; subst ez17; subst ez16; subst ez15; subst ez12; subst ez11; subst ez8; first | (simp only [rEv, rT, rO, rC, rC2, MR, if_neg c13, if_pos c13, if_neg c14, if_pos c14, if_pos c18, if_neg (not_not_intro c18)]; done) | (simp only [rEv, rT, rO, rC, rC2, MR, if_neg c13, if_pos c13, if_neg c14, if_pos c14, if_pos c18, if_neg (not_not_intro c18)]; with_reducible rfl) | (simp only [rEv, rT, rO, rC, rC2, MR, if_neg c13, if_pos c13, if_neg c14, if_pos c14, if_pos c18, if_neg (not_not_intro c18)]; (repeat (first | rw [if_neg (not_not_intro c18)] | rw [if_pos c18] | rw [if_neg c14] | rw [if_neg c13])); done) | with_reducible rfl | (simp [rEv, rT, rO, rC, rC2, MR, if_neg c13, if_pos c13, if_neg c14, if_pos c14, if_pos c18, if_neg (not_not_intro c18)]; done))
              have hP : va_P g.1 vwCl (wM g a (MR m9 (rEv (mbf m9) n a9 r (mrd m9)))) H := by rw [e24]; exact hP
              have hD : va_D A (wM g a (MR m9 (rEv (mbf m9) n a9 r (mrd m9)))) := by rw [e24]; exact hD
              exact k_vret hx hb hr hlocks hP hD hS (Nat.le_of_ble_eq_true rfl) (Nat.le_of_ble_eq_true rfl) dX4_readsEvent_197
          ·
            refine lv_iload_n hx hb dX4_readsEvent_150 rfl (lv_at hl 0 rfl) ?_
            refine lv_bipush (v := (nI 108)) hx hb dX4_readsEvent_151 (by decide) ?_
            refine k_eqN (tgt := 162) hx hb (Bq_lt31 hbf _) (by decide) dX4_readsEvent_153 (by decide) (fun c25 => ?_) (fun c25 => ?_)
            ·
              refine lv_aload_n hx hb dX4_readsEvent_162 rfl (lv_at hl 2 rfl) ?_
              refine va_get (D := g.1) (ci := 4) (v := .ref (a 5)) (C := RX4) (T := TX4) (N := 12) hx hb hts hiX4 hown hE.1 hP 0 rfl rfl 9 (by decide) f22 (fun _ h9 => h9) rfl dX4_readsEvent_163 ?_
              refine lv_iload_n hx hb dX4_readsEvent_166 rfl (lv_at hl 1 rfl) ?_
              refine lv_iconst (v := (nI 2)) hx hb dX4_readsEvent_167 (by decide) ?_
              refine lv_iadd hx hb dX4_readsEvent_168 ?_
              refine k_top (nI_add _ _) ?_
              refine lv_aload_n hx hb dX4_readsEvent_169 rfl (lv_at hl 2 rfl) ?_
              refine lv_iconst (v := (nI 0)) hx hb dX4_readsEvent_170 (by decide) ?_
              refine lv_iconst (v := (nI 5)) hx hb dX4_readsEvent_171 (by decide) ?_
              refine k_Vi (As := [.int (nI 0), .int (nI 5)]) (r := ((nI (Bq (mbf m9) n z16)) - (nI 48))) hF (c_X4_figure l g a (sMrd (sMat (sMiw m9 (nI z15)) (nI z16)) z17) n z16 hn hln rfl (by omega) hbf z15 rfl hz15 0 (by decide) 5 (by decide)) (cwV 2 hts gX4_readsEvent_X4_figure rfl rfl rfl (by decide +kernel) ⟨Nat.le_of_ble_eq_true rfl, Nat.le_of_ble_eq_true rfl⟩) hE hP hD hS hA (k_pall _) ((k_pall _).symm) 0 rfl rfl rfl rfl hl.1 rfl (Nat.le_of_ble_eq_true rfl) dX4_readsEvent_172 ⟨Nat.le_of_ble_eq_true rfl, Nat.le_of_ble_eq_true rfl⟩ (fun H locs hP hD hS => ?_)
              have hP : va_P g.1 vwCl (wM g a (sMat (sMiw (sMrd m9 z17) (nI (figW z15 (Bq (mbf m9) n z16) 0 5))) (nI (z16 + (figW z15 (Bq (mbf m9) n z16) 0 5))))) _ := hP
              have hD : va_D A (wM g a (sMat (sMiw (sMrd m9 z17) (nI (figW z15 (Bq (mbf m9) n z16) 0 5))) (nI (z16 + (figW z15 (Bq (mbf m9) n z16) 0 5))))) := hD
              obtain ⟨z26, ez26⟩ : ∃ x : Nat, figW z15 (Bq (mbf m9) n z16) 0 5 = x := ⟨_, rfl⟩
              rw [ez26] at hP hD
              have hz26 : z26 < 2 := by rw [← ez26]; exact (figW_lt _ _ _ _)
              obtain ⟨z27, ez27⟩ : ∃ x : Nat, z16 + z26 = x := ⟨_, rfl⟩
              rw [ez27] at hP hD
              refine k_iast (f := z17) (ws1 := (wM g a (sMrd (sMat (sMiw m9 (nI z26)) (nI z27)) (upd z17 ((3 * r) + 2) ((nI (Bq (mbf m9) n z16)) - (nI 48)))))) hx hb hE hP hD hS 5 rfl ((3 * r) + 2) rfl (by omega) (by decide) rfl dX4_readsEvent_175 (fun H locs hP hD hS => ?_)
              obtain ⟨z28, ez28⟩ : ∃ x : Nat → Int32, (upd z17 ((3 * r) + 2) ((nI (Bq (mbf m9) n z16)) - (nI 48))) = x := ⟨_, rfl⟩
              rw [ez28] at hP hD
              refine lv_aload_n hx hb dX4_readsEvent_176 rfl (lv_at hl 2 rfl) ?_
              refine lv_dup hx hb dX4_readsEvent_177 rfl ?_
              refine va_get (D := g.1) (ci := 4) (v := .int (mrm m9)) (C := RX4) (T := TX4) (N := 12) hx hb hts hiX4 hown hE.1 hP 0 rfl rfl 10 (by decide) f129 (fun _ h9 => h9) rfl dX4_readsEvent_178 ?_
              refine k_top hrm ?_
              refine lv_aload_n hx hb dX4_readsEvent_181 rfl (lv_at hl 2 rfl) ?_
              refine va_get (D := g.1) (ci := 4) (v := .int (nI z26)) (C := RX4) (T := TX4) (N := 12) hx hb hts hiX4 hown hE.1 hP 0 rfl rfl 8 (by decide) f119 (fun _ h9 => h9) rfl dX4_readsEvent_182 ?_
              refine k_meet (x := .int (nI z26)) (pj := 193) (rest := [.int (nI r), .ref (a 0)]) (fun J29 => ?_) ?_
              ·
                refine k_if0 (tgt := 192) hx hb (Nat.lt_trans hz26 (by decide)) dX4_readsEvent_185 (by decide) (fun c30 => ?_) (fun c30 => ?_)
                ·
                  refine lv_iconst (v := (nI 0)) hx hb dX4_readsEvent_192 (by decide) ?_
                  exact k_top (congrArg nI (by have h8 : z26 < 2 := hz26; omega)) J29
                ·
                  refine lv_iconst (v := (nI 1)) hx hb dX4_readsEvent_188 (by decide) ?_
                  refine lv_goto (tgt := 193) hx hb dX4_readsEvent_189 (by decide) ?_
                  exact k_top (congrArg nI (by have h8 : z26 < 2 := hz26; omega)) J29
              ·
                refine lv_iadd hx hb dX4_readsEvent_193 ?_
                refine k_top (nI_add _ _) ?_
                refine va_put (D := g.1) (ci := 4) (v := .int (nI (r + z26))) (ty := .int) (C := RX4) (T := TX4) (N := 12) hx hb hts hiX4 tyX4 tyX4_ok nmX4 hown hE.1 hP hD hS 0 rfl rfl 10 (by decide) f129 (fun _ h9 => h9) rfl (tyX4_ok 10 (by decide)) rfl rfl (Nat.le_of_ble_eq_true rfl) dX4_readsEvent_194 (fun H locs hP hD hS => ?_)
                have hP : va_P g.1 vwCl (wM g a (sMrm (sMrd (sMat (sMiw m9 (nI z26)) (nI z27)) z28) (nI (r + z26)))) _ := hP
                have hD : va_D A (wM g a (sMrm (sMrd (sMat (sMiw m9 (nI z26)) (nI z27)) z28) (nI (r + z26)))) := hD
                have e31 : (MR m9 (rEv (mbf m9) n a9 r (mrd m9))) = (sMrm (sMrd (sMat (sMiw m9 (nI z26)) (nI z27)) z28) (nI (r + z26))) := (by subst ez28; subst ez27; subst ez26; subst ez17; subst ez16; subst ez15; subst ez12; subst ez11; subst ez8; first | (simp only [rEv, rT, rO, rC, rC2, MR, if_neg c13, if_pos c13, if_neg c14, if_pos c14, if_neg c18, if_pos c18, if_pos c25, if_neg (not_not_intro c25)]; done) | (simp only [rEv, rT, rO, rC, rC2, MR, if_neg c13, if_pos c13, if_neg c14, if_pos c14, if_neg c18, if_pos c18, if_pos c25, if_neg (not_not_intro c25)]; with_reducible rfl) | (simp only [rEv, rT, rO, rC, rC2, MR, if_neg c13, if_pos c13, if_neg c14, if_pos c14, if_neg c18, if_pos c18, if_pos c25, if_neg (not_not_intro c25)]; (repeat (first | rw [if_neg (not_not_intro c25)] | rw [if_pos c25] | rw [if_neg c18] | rw [if_neg c14] | rw [if_neg c13])); done) | with_reducible rfl | (simp [rEv, rT, rO, rC, rC2, MR, if_neg c13, if_pos c13, if_neg c14, if_pos c14, if_neg c18, if_pos c18, if_pos c25, if_neg (not_not_intro c25)]; done))
                have hP : va_P g.1 vwCl (wM g a (MR m9 (rEv (mbf m9) n a9 r (mrd m9)))) H := by rw [e31]; exact hP
                have hD : va_D A (wM g a (MR m9 (rEv (mbf m9) n a9 r (mrd m9)))) := by rw [e31]; exact hD
                exact k_vret hx hb hr hlocks hP hD hS (Nat.le_of_ble_eq_true rfl) (Nat.le_of_ble_eq_true rfl) dX4_readsEvent_197
            ·
              refine lv_iload_n hx hb dX4_readsEvent_156 rfl (lv_at hl 0 rfl) ?_
              refine lv_bipush (v := (nI 115)) hx hb dX4_readsEvent_157 (by decide) ?_
              refine k_neN (tgt := 176) hx hb (Bq_lt31 hbf _) (by decide) dX4_readsEvent_159 (by decide) (fun c32 => ?_) (fun c32 => ?_)
              ·
                refine lv_aload_n hx hb dX4_readsEvent_176 rfl (lv_at hl 2 rfl) ?_
                refine lv_dup hx hb dX4_readsEvent_177 rfl ?_
                refine va_get (D := g.1) (ci := 4) (v := .int (mrm m9)) (C := RX4) (T := TX4) (N := 12) hx hb hts hiX4 hown hE.1 hP 0 rfl rfl 10 (by decide) f129 (fun _ h9 => h9) rfl dX4_readsEvent_178 ?_
                refine k_top hrm ?_
                refine lv_aload_n hx hb dX4_readsEvent_181 rfl (lv_at hl 2 rfl) ?_
                refine va_get (D := g.1) (ci := 4) (v := .int (nI z15)) (C := RX4) (T := TX4) (N := 12) hx hb hts hiX4 hown hE.1 hP 0 rfl rfl 8 (by decide) f119 (fun _ h9 => h9) rfl dX4_readsEvent_182 ?_
                refine k_meet (x := .int (nI z15)) (pj := 193) (rest := [.int (nI r), .ref (a 0)]) (fun J33 => ?_) ?_
                ·
                  refine k_if0 (tgt := 192) hx hb (Nat.lt_trans hz15 (by decide)) dX4_readsEvent_185 (by decide) (fun c34 => ?_) (fun c34 => ?_)
                  ·
                    refine lv_iconst (v := (nI 0)) hx hb dX4_readsEvent_192 (by decide) ?_
                    exact k_top (congrArg nI (by have h8 : z15 < 2 := hz15; omega)) J33
                  ·
                    refine lv_iconst (v := (nI 1)) hx hb dX4_readsEvent_188 (by decide) ?_
                    refine lv_goto (tgt := 193) hx hb dX4_readsEvent_189 (by decide) ?_
                    exact k_top (congrArg nI (by have h8 : z15 < 2 := hz15; omega)) J33
                ·
                  refine lv_iadd hx hb dX4_readsEvent_193 ?_
                  refine k_top (nI_add _ _) ?_
                  refine va_put (D := g.1) (ci := 4) (v := .int (nI (r + z15))) (ty := .int) (C := RX4) (T := TX4) (N := 12) hx hb hts hiX4 tyX4 tyX4_ok nmX4 hown hE.1 hP hD hS 0 rfl rfl 10 (by decide) f129 (fun _ h9 => h9) rfl (tyX4_ok 10 (by decide)) rfl rfl (Nat.le_of_ble_eq_true rfl) dX4_readsEvent_194 (fun H locs hP hD hS => ?_)
                  have hP : va_P g.1 vwCl (wM g a (sMrm (sMrd (sMat (sMiw m9 (nI z15)) (nI z16)) z17) (nI (r + z15)))) _ := hP
                  have hD : va_D A (wM g a (sMrm (sMrd (sMat (sMiw m9 (nI z15)) (nI z16)) z17) (nI (r + z15)))) := hD
                  have e35 : (MR m9 (rEv (mbf m9) n a9 r (mrd m9))) = (sMrm (sMrd (sMat (sMiw m9 (nI z15)) (nI z16)) z17) (nI (r + z15))) := (by subst ez17; subst ez16; subst ez15; subst ez12; subst ez11; subst ez8; first | (simp only [rEv, rT, rO, rC, rC2, MR, if_neg c13, if_pos c13, if_neg c14, if_pos c14, if_neg c18, if_pos c18, if_neg c25, if_pos c25, if_neg c32, if_pos c32]; done) | (simp only [rEv, rT, rO, rC, rC2, MR, if_neg c13, if_pos c13, if_neg c14, if_pos c14, if_neg c18, if_pos c18, if_neg c25, if_pos c25, if_neg c32, if_pos c32]; with_reducible rfl) | (simp only [rEv, rT, rO, rC, rC2, MR, if_neg c13, if_pos c13, if_neg c14, if_pos c14, if_neg c18, if_pos c18, if_neg c25, if_pos c25, if_neg c32, if_pos c32]; (repeat (first | rw [if_neg c32] | rw [if_neg c25] | rw [if_neg c18] | rw [if_neg c14] | rw [if_neg c13])); done) | with_reducible rfl | (simp [rEv, rT, rO, rC, rC2, MR, if_neg c13, if_pos c13, if_neg c14, if_pos c14, if_neg c18, if_pos c18, if_neg c25, if_pos c25, if_neg c32, if_pos c32]; done))
                  have hP : va_P g.1 vwCl (wM g a (MR m9 (rEv (mbf m9) n a9 r (mrd m9)))) H := by rw [e35]; exact hP
                  have hD : va_D A (wM g a (MR m9 (rEv (mbf m9) n a9 r (mrd m9)))) := by rw [e35]; exact hD
                  exact k_vret hx hb hr hlocks hP hD hS (Nat.le_of_ble_eq_true rfl) (Nat.le_of_ble_eq_true rfl) dX4_readsEvent_197
              ·
                refine lv_aload_n hx hb dX4_readsEvent_162 rfl (lv_at hl 2 rfl) ?_
                refine va_get (D := g.1) (ci := 4) (v := .ref (a 5)) (C := RX4) (T := TX4) (N := 12) hx hb hts hiX4 hown hE.1 hP 0 rfl rfl 9 (by decide) f22 (fun _ h9 => h9) rfl dX4_readsEvent_163 ?_
                refine lv_iload_n hx hb dX4_readsEvent_166 rfl (lv_at hl 1 rfl) ?_
                refine lv_iconst (v := (nI 2)) hx hb dX4_readsEvent_167 (by decide) ?_
                refine lv_iadd hx hb dX4_readsEvent_168 ?_
                refine k_top (nI_add _ _) ?_
                refine lv_aload_n hx hb dX4_readsEvent_169 rfl (lv_at hl 2 rfl) ?_
                refine lv_iconst (v := (nI 0)) hx hb dX4_readsEvent_170 (by decide) ?_
                refine lv_iconst (v := (nI 5)) hx hb dX4_readsEvent_171 (by decide) ?_
                refine k_Vi (As := [.int (nI 0), .int (nI 5)]) (r := ((nI (Bq (mbf m9) n z16)) - (nI 48))) hF (c_X4_figure l g a (sMrd (sMat (sMiw m9 (nI z15)) (nI z16)) z17) n z16 hn hln rfl (by omega) hbf z15 rfl hz15 0 (by decide) 5 (by decide)) (cwV 2 hts gX4_readsEvent_X4_figure rfl rfl rfl (by decide +kernel) ⟨Nat.le_of_ble_eq_true rfl, Nat.le_of_ble_eq_true rfl⟩) hE hP hD hS hA (k_pall _) ((k_pall _).symm) 0 rfl rfl rfl rfl hl.1 rfl (Nat.le_of_ble_eq_true rfl) dX4_readsEvent_172 ⟨Nat.le_of_ble_eq_true rfl, Nat.le_of_ble_eq_true rfl⟩ (fun H locs hP hD hS => ?_)
                have hP : va_P g.1 vwCl (wM g a (sMat (sMiw (sMrd m9 z17) (nI (figW z15 (Bq (mbf m9) n z16) 0 5))) (nI (z16 + (figW z15 (Bq (mbf m9) n z16) 0 5))))) _ := hP
                have hD : va_D A (wM g a (sMat (sMiw (sMrd m9 z17) (nI (figW z15 (Bq (mbf m9) n z16) 0 5))) (nI (z16 + (figW z15 (Bq (mbf m9) n z16) 0 5))))) := hD
                obtain ⟨z36, ez36⟩ : ∃ x : Nat, figW z15 (Bq (mbf m9) n z16) 0 5 = x := ⟨_, rfl⟩
                rw [ez36] at hP hD
                have hz36 : z36 < 2 := by rw [← ez36]; exact (figW_lt _ _ _ _)
                obtain ⟨z37, ez37⟩ : ∃ x : Nat, z16 + z36 = x := ⟨_, rfl⟩
                rw [ez37] at hP hD
                refine k_iast (f := z17) (ws1 := (wM g a (sMrd (sMat (sMiw m9 (nI z36)) (nI z37)) (upd z17 ((3 * r) + 2) ((nI (Bq (mbf m9) n z16)) - (nI 48)))))) hx hb hE hP hD hS 5 rfl ((3 * r) + 2) rfl (by omega) (by decide) rfl dX4_readsEvent_175 (fun H locs hP hD hS => ?_)
                obtain ⟨z38, ez38⟩ : ∃ x : Nat → Int32, (upd z17 ((3 * r) + 2) ((nI (Bq (mbf m9) n z16)) - (nI 48))) = x := ⟨_, rfl⟩
                rw [ez38] at hP hD
                refine lv_aload_n hx hb dX4_readsEvent_176 rfl (lv_at hl 2 rfl) ?_
                refine lv_dup hx hb dX4_readsEvent_177 rfl ?_
                refine va_get (D := g.1) (ci := 4) (v := .int (mrm m9)) (C := RX4) (T := TX4) (N := 12) hx hb hts hiX4 hown hE.1 hP 0 rfl rfl 10 (by decide) f129 (fun _ h9 => h9) rfl dX4_readsEvent_178 ?_
                refine k_top hrm ?_
                refine lv_aload_n hx hb dX4_readsEvent_181 rfl (lv_at hl 2 rfl) ?_
                refine va_get (D := g.1) (ci := 4) (v := .int (nI z36)) (C := RX4) (T := TX4) (N := 12) hx hb hts hiX4 hown hE.1 hP 0 rfl rfl 8 (by decide) f119 (fun _ h9 => h9) rfl dX4_readsEvent_182 ?_
                refine k_meet (x := .int (nI z36)) (pj := 193) (rest := [.int (nI r), .ref (a 0)]) (fun J39 => ?_) ?_
                ·
                  refine k_if0 (tgt := 192) hx hb (Nat.lt_trans hz36 (by decide)) dX4_readsEvent_185 (by decide) (fun c40 => ?_) (fun c40 => ?_)
                  ·
                    refine lv_iconst (v := (nI 0)) hx hb dX4_readsEvent_192 (by decide) ?_
                    exact k_top (congrArg nI (by have h8 : z36 < 2 := hz36; omega)) J39
                  ·
                    refine lv_iconst (v := (nI 1)) hx hb dX4_readsEvent_188 (by decide) ?_
                    refine lv_goto (tgt := 193) hx hb dX4_readsEvent_189 (by decide) ?_
                    exact k_top (congrArg nI (by have h8 : z36 < 2 := hz36; omega)) J39
                ·
                  refine lv_iadd hx hb dX4_readsEvent_193 ?_
                  refine k_top (nI_add _ _) ?_
                  refine va_put (D := g.1) (ci := 4) (v := .int (nI (r + z36))) (ty := .int) (C := RX4) (T := TX4) (N := 12) hx hb hts hiX4 tyX4 tyX4_ok nmX4 hown hE.1 hP hD hS 0 rfl rfl 10 (by decide) f129 (fun _ h9 => h9) rfl (tyX4_ok 10 (by decide)) rfl rfl (Nat.le_of_ble_eq_true rfl) dX4_readsEvent_194 (fun H locs hP hD hS => ?_)
                  have hP : va_P g.1 vwCl (wM g a (sMrm (sMrd (sMat (sMiw m9 (nI z36)) (nI z37)) z38) (nI (r + z36)))) _ := hP
                  have hD : va_D A (wM g a (sMrm (sMrd (sMat (sMiw m9 (nI z36)) (nI z37)) z38) (nI (r + z36)))) := hD
                  have e41 : (MR m9 (rEv (mbf m9) n a9 r (mrd m9))) = (sMrm (sMrd (sMat (sMiw m9 (nI z36)) (nI z37)) z38) (nI (r + z36))) := (by subst ez38; subst ez37; subst ez36; subst ez17; subst ez16; subst ez15; subst ez12; subst ez11; subst ez8; first | (simp only [rEv, rT, rO, rC, rC2, MR, if_neg c13, if_pos c13, if_neg c14, if_pos c14, if_neg c18, if_pos c18, if_neg c25, if_pos c25, if_pos c32, if_neg (not_not_intro c32)]; done) | (simp only [rEv, rT, rO, rC, rC2, MR, if_neg c13, if_pos c13, if_neg c14, if_pos c14, if_neg c18, if_pos c18, if_neg c25, if_pos c25, if_pos c32, if_neg (not_not_intro c32)]; with_reducible rfl) | (simp only [rEv, rT, rO, rC, rC2, MR, if_neg c13, if_pos c13, if_neg c14, if_pos c14, if_neg c18, if_pos c18, if_neg c25, if_pos c25, if_pos c32, if_neg (not_not_intro c32)]; (repeat (first | rw [if_neg (not_not_intro c32)] | rw [if_pos c32] | rw [if_neg c25] | rw [if_neg c18] | rw [if_neg c14] | rw [if_neg c13])); done) | with_reducible rfl | (simp [rEv, rT, rO, rC, rC2, MR, if_neg c13, if_pos c13, if_neg c14, if_pos c14, if_neg c18, if_pos c18, if_neg c25, if_pos c25, if_pos c32, if_neg (not_not_intro c32)]; done))
                  have hP : va_P g.1 vwCl (wM g a (MR m9 (rEv (mbf m9) n a9 r (mrd m9)))) H := by rw [e41]; exact hP
                  have hD : va_D A (wM g a (MR m9 (rEv (mbf m9) n a9 r (mrd m9)))) := by rw [e41]; exact hD
                  exact k_vret hx hb hr hlocks hP hD hS (Nat.le_of_ble_eq_true rfl) (Nat.le_of_ble_eq_true rfl) dX4_readsEvent_197
        ·
          refine lv_aload_n hx hb dX4_readsEvent_112 rfl (lv_at hl 2 rfl) ?_
          refine va_get (D := g.1) (ci := 4) (v := .ref (a 5)) (C := RX4) (T := TX4) (N := 12) hx hb hts hiX4 hown hE.1 hP 0 rfl rfl 9 (by decide) f22 (fun _ h9 => h9) rfl dX4_readsEvent_113 ?_
          refine lv_iload_n hx hb dX4_readsEvent_116 rfl (lv_at hl 1 rfl) ?_
          refine lv_iconst (v := (nI 1)) hx hb dX4_readsEvent_117 (by decide) ?_
          refine lv_iadd hx hb dX4_readsEvent_118 ?_
          refine k_top (nI_add _ _) ?_
          refine lv_aload_n hx hb dX4_readsEvent_119 rfl (lv_at hl 2 rfl) ?_
          refine lv_iconst (v := (nI 0)) hx hb dX4_readsEvent_120 (by decide) ?_
          refine lv_iconst (v := (nI 5)) hx hb dX4_readsEvent_121 (by decide) ?_
          refine k_Vi (As := [.int (nI 0), .int (nI 5)]) (r := ((nI (Bq (mbf m9) n z11)) - (nI 48))) hF (c_X4_figure l g a (sMrd (sMat (sMiw m9 (nI z8)) (nI z11)) z12) n z11 hn hln rfl (by omega) hbf z8 rfl hz8 0 (by decide) 5 (by decide)) (cwV 2 hts gX4_readsEvent_X4_figure rfl rfl rfl (by decide +kernel) ⟨Nat.le_of_ble_eq_true rfl, Nat.le_of_ble_eq_true rfl⟩) hE hP hD hS hA (k_pall _) ((k_pall _).symm) 0 rfl rfl rfl rfl hl.1 rfl (Nat.le_of_ble_eq_true rfl) dX4_readsEvent_122 ⟨Nat.le_of_ble_eq_true rfl, Nat.le_of_ble_eq_true rfl⟩ (fun H locs hP hD hS => ?_)
          have hP : va_P g.1 vwCl (wM g a (sMat (sMiw (sMrd m9 z12) (nI (figW z8 (Bq (mbf m9) n z11) 0 5))) (nI (z11 + (figW z8 (Bq (mbf m9) n z11) 0 5))))) _ := hP
          have hD : va_D A (wM g a (sMat (sMiw (sMrd m9 z12) (nI (figW z8 (Bq (mbf m9) n z11) 0 5))) (nI (z11 + (figW z8 (Bq (mbf m9) n z11) 0 5))))) := hD
          obtain ⟨z42, ez42⟩ : ∃ x : Nat, figW z8 (Bq (mbf m9) n z11) 0 5 = x := ⟨_, rfl⟩
          rw [ez42] at hP hD
          have hz42 : z42 < 2 := by rw [← ez42]; exact (figW_lt _ _ _ _)
          obtain ⟨z43, ez43⟩ : ∃ x : Nat, z11 + z42 = x := ⟨_, rfl⟩
          rw [ez43] at hP hD
          refine k_iast (f := z12) (ws1 := (wM g a (sMrd (sMat (sMiw m9 (nI z42)) (nI z43)) (upd z12 ((3 * r) + 1) ((nI (Bq (mbf m9) n z11)) - (nI 48)))))) hx hb hE hP hD hS 5 rfl ((3 * r) + 1) rfl (by omega) (by decide) rfl dX4_readsEvent_125 (fun H locs hP hD hS => ?_)
          refine lv_goto (tgt := 144) hx hb dX4_readsEvent_126 (by decide) ?_
          obtain ⟨z44, ez44⟩ : ∃ x : Nat → Int32, (upd z12 ((3 * r) + 1) ((nI (Bq (mbf m9) n z11)) - (nI 48))) = x := ⟨_, rfl⟩
          rw [ez44] at hP hD
          refine lv_iload_n hx hb dX4_readsEvent_144 rfl (lv_at hl 0 rfl) ?_
          refine lv_bipush (v := (nI 99)) hx hb dX4_readsEvent_145 (by decide) ?_
          refine k_eqN (tgt := 162) hx hb (Bq_lt31 hbf _) (by decide) dX4_readsEvent_147 (by decide) (fun c45 => ?_) (fun c45 => ?_)
          ·
            exact absurd c45 (by omega)
          ·
            refine lv_iload_n hx hb dX4_readsEvent_150 rfl (lv_at hl 0 rfl) ?_
            refine lv_bipush (v := (nI 108)) hx hb dX4_readsEvent_151 (by decide) ?_
            refine k_eqN (tgt := 162) hx hb (Bq_lt31 hbf _) (by decide) dX4_readsEvent_153 (by decide) (fun c46 => ?_) (fun c46 => ?_)
            ·
              exact absurd c46 (by omega)
            ·
              refine lv_iload_n hx hb dX4_readsEvent_156 rfl (lv_at hl 0 rfl) ?_
              refine lv_bipush (v := (nI 115)) hx hb dX4_readsEvent_157 (by decide) ?_
              refine k_neN (tgt := 176) hx hb (Bq_lt31 hbf _) (by decide) dX4_readsEvent_159 (by decide) (fun c47 => ?_) (fun c47 => ?_)
              ·
                refine lv_aload_n hx hb dX4_readsEvent_176 rfl (lv_at hl 2 rfl) ?_
                refine lv_dup hx hb dX4_readsEvent_177 rfl ?_
                refine va_get (D := g.1) (ci := 4) (v := .int (mrm m9)) (C := RX4) (T := TX4) (N := 12) hx hb hts hiX4 hown hE.1 hP 0 rfl rfl 10 (by decide) f129 (fun _ h9 => h9) rfl dX4_readsEvent_178 ?_
                refine k_top hrm ?_
                refine lv_aload_n hx hb dX4_readsEvent_181 rfl (lv_at hl 2 rfl) ?_
                refine va_get (D := g.1) (ci := 4) (v := .int (nI z42)) (C := RX4) (T := TX4) (N := 12) hx hb hts hiX4 hown hE.1 hP 0 rfl rfl 8 (by decide) f119 (fun _ h9 => h9) rfl dX4_readsEvent_182 ?_
                refine k_meet (x := .int (nI z42)) (pj := 193) (rest := [.int (nI r), .ref (a 0)]) (fun J48 => ?_) ?_
                ·
                  refine k_if0 (tgt := 192) hx hb (Nat.lt_trans hz42 (by decide)) dX4_readsEvent_185 (by decide) (fun c49 => ?_) (fun c49 => ?_)
                  ·
                    refine lv_iconst (v := (nI 0)) hx hb dX4_readsEvent_192 (by decide) ?_
                    exact k_top (congrArg nI (by have h8 : z42 < 2 := hz42; omega)) J48
                  ·
                    refine lv_iconst (v := (nI 1)) hx hb dX4_readsEvent_188 (by decide) ?_
                    refine lv_goto (tgt := 193) hx hb dX4_readsEvent_189 (by decide) ?_
                    exact k_top (congrArg nI (by have h8 : z42 < 2 := hz42; omega)) J48
                ·
                  refine lv_iadd hx hb dX4_readsEvent_193 ?_
                  refine k_top (nI_add _ _) ?_
                  refine va_put (D := g.1) (ci := 4) (v := .int (nI (r + z42))) (ty := .int) (C := RX4) (T := TX4) (N := 12) hx hb hts hiX4 tyX4 tyX4_ok nmX4 hown hE.1 hP hD hS 0 rfl rfl 10 (by decide) f129 (fun _ h9 => h9) rfl (tyX4_ok 10 (by decide)) rfl rfl (Nat.le_of_ble_eq_true rfl) dX4_readsEvent_194 (fun H locs hP hD hS => ?_)
                  have hP : va_P g.1 vwCl (wM g a (sMrm (sMrd (sMat (sMiw m9 (nI z42)) (nI z43)) z44) (nI (r + z42)))) _ := hP
                  have hD : va_D A (wM g a (sMrm (sMrd (sMat (sMiw m9 (nI z42)) (nI z43)) z44) (nI (r + z42)))) := hD
                  have e50 : (MR m9 (rEv (mbf m9) n a9 r (mrd m9))) = (sMrm (sMrd (sMat (sMiw m9 (nI z42)) (nI z43)) z44) (nI (r + z42))) := (by subst ez44; subst ez43; subst ez42; subst ez12; subst ez11; subst ez8; first | (simp only [rEv, rT, rO, rC, rC2, MR, if_neg c13, if_pos c13, if_pos c14, if_neg (not_not_intro c14), if_neg c45, if_pos c45, if_neg c46, if_pos c46, if_neg c47, if_pos c47]; done) | (simp only [rEv, rT, rO, rC, rC2, MR, if_neg c13, if_pos c13, if_pos c14, if_neg (not_not_intro c14), if_neg c45, if_pos c45, if_neg c46, if_pos c46, if_neg c47, if_pos c47]; with_reducible rfl) | (simp only [rEv, rT, rO, rC, rC2, MR, if_neg c13, if_pos c13, if_pos c14, if_neg (not_not_intro c14), if_neg c45, if_pos c45, if_neg c46, if_pos c46, if_neg c47, if_pos c47]; (repeat (first | rw [if_neg c47] | rw [if_neg c46] | rw [if_neg c45] | rw [if_neg (not_not_intro c14)] | rw [if_pos c14] | rw [if_neg c13])); done) | with_reducible rfl | (simp [rEv, rT, rO, rC, rC2, MR, if_neg c13, if_pos c13, if_pos c14, if_neg (not_not_intro c14), if_neg c45, if_pos c45, if_neg c46, if_pos c46, if_neg c47, if_pos c47]; done))
                  have hP : va_P g.1 vwCl (wM g a (MR m9 (rEv (mbf m9) n a9 r (mrd m9)))) H := by rw [e50]; exact hP
                  have hD : va_D A (wM g a (MR m9 (rEv (mbf m9) n a9 r (mrd m9)))) := by rw [e50]; exact hD
                  exact k_vret hx hb hr hlocks hP hD hS (Nat.le_of_ble_eq_true rfl) (Nat.le_of_ble_eq_true rfl) dX4_readsEvent_197
              ·
                exact absurd c47 (by omega)
      ·
        refine lv_aload_n hx hb dX4_readsEvent_91 rfl (lv_at hl 2 rfl) ?_
        refine va_get (D := g.1) (ci := 4) (v := .ref (a 5)) (C := RX4) (T := TX4) (N := 12) hx hb hts hiX4 hown hE.1 hP 0 rfl rfl 9 (by decide) f22 (fun _ h9 => h9) rfl dX4_readsEvent_92 ?_
        refine lv_iload_n hx hb dX4_readsEvent_95 rfl (lv_at hl 1 rfl) ?_
        refine lv_iconst (v := (nI 1)) hx hb dX4_readsEvent_96 (by decide) ?_
        refine lv_iadd hx hb dX4_readsEvent_97 ?_
        refine k_top (nI_add _ _) ?_
        refine lv_aload_n hx hb dX4_readsEvent_98 rfl (lv_at hl 2 rfl) ?_
        refine k_Vi (As := []) (r := (numV (mbf m9) n z11 z8)) hF (c_X4_number l g a (sMrd (sMat (sMiw m9 (nI z8)) (nI z11)) z12) n z11 hn hln rfl (by omega) hbf (by omega) z8 rfl hz8) (cwV 0 hts gX4_readsEvent_X4_number rfl rfl rfl (by decide +kernel) ⟨Nat.le_of_ble_eq_true rfl, Nat.le_of_ble_eq_true rfl⟩) hE hP hD hS hA (k_pall _) ((k_pall _).symm) 0 rfl rfl rfl rfl hl.1 rfl (Nat.le_of_ble_eq_true rfl) dX4_readsEvent_99 ⟨Nat.le_of_ble_eq_true rfl, Nat.le_of_ble_eq_true rfl⟩ (fun H locs hP hD hS => ?_)
        have hP : va_P g.1 vwCl (wM g a (sMat (sMiw (sMrd m9 z12) (nI (figW z8 (Bq (mbf m9) n z11) 1 9))) (nI (numA (mbf m9) n z11 z8)))) _ := hP
        have hD : va_D A (wM g a (sMat (sMiw (sMrd m9 z12) (nI (figW z8 (Bq (mbf m9) n z11) 1 9))) (nI (numA (mbf m9) n z11 z8)))) := hD
        obtain ⟨z51, ez51⟩ : ∃ x : Nat, figW z8 (Bq (mbf m9) n z11) 1 9 = x := ⟨_, rfl⟩
        rw [ez51] at hP hD
        have hz51 : z51 < 2 := by rw [← ez51]; exact (figW_lt _ _ _ _)
        have hn52 := numA_le (mbf m9) n z11 z8
        obtain ⟨z53, ez53⟩ : ∃ x : Nat, numA (mbf m9) n z11 z8 = x := ⟨_, rfl⟩
        rw [ez53] at hP hD
        skip
        refine k_iast (f := z12) (ws1 := (wM g a (sMrd (sMat (sMiw m9 (nI z51)) (nI z53)) (upd z12 ((3 * r) + 1) (numV (mbf m9) n z11 z8))))) hx hb hE hP hD hS 5 rfl ((3 * r) + 1) rfl (by omega) (by decide) rfl dX4_readsEvent_102 (fun H locs hP hD hS => ?_)
        refine lv_goto (tgt := 144) hx hb dX4_readsEvent_103 (by decide) ?_
        obtain ⟨z54, ez54⟩ : ∃ x : Nat → Int32, (upd z12 ((3 * r) + 1) (numV (mbf m9) n z11 z8)) = x := ⟨_, rfl⟩
        rw [ez54] at hP hD
        refine lv_iload_n hx hb dX4_readsEvent_144 rfl (lv_at hl 0 rfl) ?_
        refine lv_bipush (v := (nI 99)) hx hb dX4_readsEvent_145 (by decide) ?_
        refine k_eqN (tgt := 162) hx hb (Bq_lt31 hbf _) (by decide) dX4_readsEvent_147 (by decide) (fun c55 => ?_) (fun c55 => ?_)
        ·
          exact absurd c55 (by omega)
        ·
          refine lv_iload_n hx hb dX4_readsEvent_150 rfl (lv_at hl 0 rfl) ?_
          refine lv_bipush (v := (nI 108)) hx hb dX4_readsEvent_151 (by decide) ?_
          refine k_eqN (tgt := 162) hx hb (Bq_lt31 hbf _) (by decide) dX4_readsEvent_153 (by decide) (fun c56 => ?_) (fun c56 => ?_)
          ·
            exact absurd c56 (by omega)
          ·
            refine lv_iload_n hx hb dX4_readsEvent_156 rfl (lv_at hl 0 rfl) ?_
            refine lv_bipush (v := (nI 115)) hx hb dX4_readsEvent_157 (by decide) ?_
            refine k_neN (tgt := 176) hx hb (Bq_lt31 hbf _) (by decide) dX4_readsEvent_159 (by decide) (fun c57 => ?_) (fun c57 => ?_)
            ·
              refine lv_aload_n hx hb dX4_readsEvent_176 rfl (lv_at hl 2 rfl) ?_
              refine lv_dup hx hb dX4_readsEvent_177 rfl ?_
              refine va_get (D := g.1) (ci := 4) (v := .int (mrm m9)) (C := RX4) (T := TX4) (N := 12) hx hb hts hiX4 hown hE.1 hP 0 rfl rfl 10 (by decide) f129 (fun _ h9 => h9) rfl dX4_readsEvent_178 ?_
              refine k_top hrm ?_
              refine lv_aload_n hx hb dX4_readsEvent_181 rfl (lv_at hl 2 rfl) ?_
              refine va_get (D := g.1) (ci := 4) (v := .int (nI z51)) (C := RX4) (T := TX4) (N := 12) hx hb hts hiX4 hown hE.1 hP 0 rfl rfl 8 (by decide) f119 (fun _ h9 => h9) rfl dX4_readsEvent_182 ?_
              refine k_meet (x := .int (nI z51)) (pj := 193) (rest := [.int (nI r), .ref (a 0)]) (fun J58 => ?_) ?_
              ·
                refine k_if0 (tgt := 192) hx hb (Nat.lt_trans hz51 (by decide)) dX4_readsEvent_185 (by decide) (fun c59 => ?_) (fun c59 => ?_)
                ·
                  refine lv_iconst (v := (nI 0)) hx hb dX4_readsEvent_192 (by decide) ?_
                  exact k_top (congrArg nI (by have h8 : z51 < 2 := hz51; omega)) J58
                ·
                  refine lv_iconst (v := (nI 1)) hx hb dX4_readsEvent_188 (by decide) ?_
                  refine lv_goto (tgt := 193) hx hb dX4_readsEvent_189 (by decide) ?_
                  exact k_top (congrArg nI (by have h8 : z51 < 2 := hz51; omega)) J58
              ·
                refine lv_iadd hx hb dX4_readsEvent_193 ?_
                refine k_top (nI_add _ _) ?_
                refine va_put (D := g.1) (ci := 4) (v := .int (nI (r + z51))) (ty := .int) (C := RX4) (T := TX4) (N := 12) hx hb hts hiX4 tyX4 tyX4_ok nmX4 hown hE.1 hP hD hS 0 rfl rfl 10 (by decide) f129 (fun _ h9 => h9) rfl (tyX4_ok 10 (by decide)) rfl rfl (Nat.le_of_ble_eq_true rfl) dX4_readsEvent_194 (fun H locs hP hD hS => ?_)
                have hP : va_P g.1 vwCl (wM g a (sMrm (sMrd (sMat (sMiw m9 (nI z51)) (nI z53)) z54) (nI (r + z51)))) _ := hP
                have hD : va_D A (wM g a (sMrm (sMrd (sMat (sMiw m9 (nI z51)) (nI z53)) z54) (nI (r + z51)))) := hD
                have e60 : (MR m9 (rEv (mbf m9) n a9 r (mrd m9))) = (sMrm (sMrd (sMat (sMiw m9 (nI z51)) (nI z53)) z54) (nI (r + z51))) := (by subst ez54; subst ez53; subst ez51; subst ez12; subst ez11; subst ez8; first | (simp only [rEv, rT, rO, rC, rC2, MR, if_pos c13, if_neg (not_not_intro c13), if_neg c55, if_pos c55, if_neg c56, if_pos c56, if_neg c57, if_pos c57]; done) | (simp only [rEv, rT, rO, rC, rC2, MR, if_pos c13, if_neg (not_not_intro c13), if_neg c55, if_pos c55, if_neg c56, if_pos c56, if_neg c57, if_pos c57]; with_reducible rfl) | (simp only [rEv, rT, rO, rC, rC2, MR, if_pos c13, if_neg (not_not_intro c13), if_neg c55, if_pos c55, if_neg c56, if_pos c56, if_neg c57, if_pos c57]; (repeat (first | rw [if_neg c57] | rw [if_neg c56] | rw [if_neg c55] | rw [if_neg (not_not_intro c13)] | rw [if_pos c13])); done) | with_reducible rfl | (simp [rEv, rT, rO, rC, rC2, MR, if_pos c13, if_neg (not_not_intro c13), if_neg c55, if_pos c55, if_neg c56, if_pos c56, if_neg c57, if_pos c57]; done))
                have hP : va_P g.1 vwCl (wM g a (MR m9 (rEv (mbf m9) n a9 r (mrd m9)))) H := by rw [e60]; exact hP
                have hD : va_D A (wM g a (MR m9 (rEv (mbf m9) n a9 r (mrd m9)))) := by rw [e60]; exact hD
                exact k_vret hx hb hr hlocks hP hD hS (Nat.le_of_ble_eq_true rfl) (Nat.le_of_ble_eq_true rfl) dX4_readsEvent_197
            ·
              exact absurd c57 (by omega)
