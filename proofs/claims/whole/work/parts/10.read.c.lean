set_option maxHeartbeats 4000000 in
set_option maxRecDepth 100000 in
theorem c_X4_readsEvent (l : Launch) (g : kG) (a : Nat → Nat) (m9 : MSt) (n a9 : Nat) (hn : n ≤ 60) (hln : mln m9 = nI n) (hat : mat m9 = nI a9) (ha9 : a9 ≤ 100) (hbf : Tok (mbf m9) n) (ha60 : a9 ≤ 60) (r : Nat) (hrm : mrm m9 = nI r) (hr30 : r ≤ 30) : KV l yX4_readsEvent wsX4_readsEvent ({ frames := 3, cells := 0, slots := 0, locals := 66 }) g [.ref (a 0)] (wM g a m9) (wM g a (MR m9 (rEv (mbf m9) n a9 r (mrd m9)))) 0 0 := by
  refine k_begin (cc := cX4_readsEvent) (maxL := 3) (ret := none) (Qc := fun A => kQv g (wM g a (MR m9 (rEv (mbf m9) n a9 r (mrd m9)))) A) (by decide) rfl (Nat.le_of_ble_eq_true rfl) ?_
  intro p e s m below meth c A ls hF hr hlocks hin hE hP hD hS hA hl
  obtain ⟨hx, hb, hml, hown, hts⟩ := id hF
  have hown : s.vm.findClass RX4 = some m.cls := hown
  have hl : lv_has ls 3 [(0, .ref (a 0))] := hl
  have hiX4 : ∀ w ∈ wsX40, w ∈ wsX4_readsEvent := fun _ h => List.mem_cons_of_mem _ (List.mem_append_right _ (h))
  have f129 : (Cond.fieldLink RX4 129 "ConcertUsherModel" "readMany" "I").before _ s = true := hts _ (List.mem_of_getElem? (i := 1) rfl)
  have f119 : (Cond.fieldLink RX4 119 "ConcertUsherModel" "isWell" "Z").before _ s = true := hts _ (List.mem_of_getElem? (i := 2) rfl)
  have f116 : (Cond.fieldLink RX4 116 "ConcertUsherModel" "at" "I").before _ s = true := hts _ (List.mem_of_getElem? (i := 3) rfl)
  have f22 : (Cond.fieldLink RX4 22 "ConcertUsherModel" "read" "[I").before _ s = true := hts _ (List.mem_of_getElem? (i := 4) rfl)
  refine lv_iconst (v := (nI 3)) hx hb dX4_readsEvent_0 (by decide) ?_
  refine lv_aload_n hx hb dX4_readsEvent_1 rfl (lv_at hl 0 rfl) ?_
  refine va_get (D := g.1) (ci := 4) (v := .int (mrm m9)) (C := RX4) (T := TX4) (N := 12) hx hb hts hiX4 hown hE.1 hP 0 rfl rfl 10 (by decide) f129 (fun _ h9 => h9) rfl dX4_readsEvent_2 ?_
  refine k_top hrm ?_
  refine lv_imul hx hb dX4_readsEvent_5 ?_
  refine k_top (pk_mul _ _) ?_
  refine lv_istore_n (lv' := [(1, .int (nI (3 * r))), (0, .ref (a 0))]) hx hb dX4_readsEvent_6 rfl hl (by decide) rfl (fun ls hl => ?_)
  refine lv_aload_n hx hb dX4_readsEvent_7 rfl (lv_at hl 1 rfl) ?_
  refine k_Vi (As := []) (r := (nI (Bq (mbf m9) n a9))) hF (c_X4_sign l g a m9 n a9 hn hln hat (by omega) hbf) (cwV 0 hts gX4_readsEvent_X4_sign rfl rfl rfl (by decide +kernel) ⟨Nat.le_of_ble_eq_true rfl, Nat.le_of_ble_eq_true rfl⟩) hE hP hD hS hA (k_pall _) ((k_pall _).symm) 0 rfl rfl rfl rfl hl.1 rfl (Nat.le_of_ble_eq_true rfl) dX4_readsEvent_8 ⟨Nat.le_of_ble_eq_true rfl, Nat.le_of_ble_eq_true rfl⟩ (fun H locs hP hD hS => ?_)
  have hP : va_P g.1 vwCl (wM g a m9) _ := hP
  have hD : va_D A (wM g a m9) := hD
  refine lv_istore_n (lv' := [(2, .int (nI (Bq (mbf m9) n a9))), (1, .int (nI (3 * r))), (0, .ref (a 0))]) hx hb dX4_readsEvent_11 rfl hl (by decide) rfl (fun ls hl => ?_)
  refine lv_aload_n hx hb dX4_readsEvent_12 rfl (lv_at hl 2 rfl) ?_
  refine k_meet (x := .int (nI (evW (Bq (mbf m9) n a9)))) (pj := 54) (rest := [.ref (a 0)]) (fun J1 => ?_) ?_
  ·
    refine lv_iload_n hx hb dX4_readsEvent_13 rfl (lv_at hl 0 rfl) ?_
    refine lv_bipush (v := (nI 99)) hx hb dX4_readsEvent_14 (by decide) ?_
    refine k_eqN (tgt := 49) hx hb (Bq_lt31 hbf _) (by decide) dX4_readsEvent_16 (by decide) (fun c2 => ?_) (fun c2 => ?_)
    ·
      refine lv_iconst (v := (nI 1)) hx hb dX4_readsEvent_49 (by decide) ?_
      refine lv_goto (tgt := 54) hx hb dX4_readsEvent_50 (by decide) ?_
      exact k_top (by simp only [evW, if_pos c2]) J1
    ·
      refine lv_iload_n hx hb dX4_readsEvent_19 rfl (lv_at hl 0 rfl) ?_
      refine lv_bipush (v := (nI 108)) hx hb dX4_readsEvent_20 (by decide) ?_
      refine k_eqN (tgt := 49) hx hb (Bq_lt31 hbf _) (by decide) dX4_readsEvent_22 (by decide) (fun c3 => ?_) (fun c3 => ?_)
      ·
        refine lv_iconst (v := (nI 1)) hx hb dX4_readsEvent_49 (by decide) ?_
        refine lv_goto (tgt := 54) hx hb dX4_readsEvent_50 (by decide) ?_
        exact k_top (by simp only [evW, if_neg c2, if_pos c3]) J1
      ·
        refine lv_iload_n hx hb dX4_readsEvent_25 rfl (lv_at hl 0 rfl) ?_
        refine lv_bipush (v := (nI 115)) hx hb dX4_readsEvent_26 (by decide) ?_
        refine k_eqN (tgt := 49) hx hb (Bq_lt31 hbf _) (by decide) dX4_readsEvent_28 (by decide) (fun c4 => ?_) (fun c4 => ?_)
        ·
          refine lv_iconst (v := (nI 1)) hx hb dX4_readsEvent_49 (by decide) ?_
          refine lv_goto (tgt := 54) hx hb dX4_readsEvent_50 (by decide) ?_
          exact k_top (by simp only [evW, if_neg c2, if_neg c3, if_pos c4]) J1
        ·
          refine lv_iload_n hx hb dX4_readsEvent_31 rfl (lv_at hl 0 rfl) ?_
          refine lv_bipush (v := (nI 112)) hx hb dX4_readsEvent_32 (by decide) ?_
          refine k_eqN (tgt := 49) hx hb (Bq_lt31 hbf _) (by decide) dX4_readsEvent_34 (by decide) (fun c5 => ?_) (fun c5 => ?_)
          ·
            refine lv_iconst (v := (nI 1)) hx hb dX4_readsEvent_49 (by decide) ?_
            refine lv_goto (tgt := 54) hx hb dX4_readsEvent_50 (by decide) ?_
            exact k_top (by simp only [evW, if_neg c2, if_neg c3, if_neg c4, if_pos c5]) J1
          ·
            refine lv_iload_n hx hb dX4_readsEvent_37 rfl (lv_at hl 0 rfl) ?_
            refine lv_bipush (v := (nI 116)) hx hb dX4_readsEvent_38 (by decide) ?_
            refine k_eqN (tgt := 49) hx hb (Bq_lt31 hbf _) (by decide) dX4_readsEvent_40 (by decide) (fun c6 => ?_) (fun c6 => ?_)
            ·
              refine lv_iconst (v := (nI 1)) hx hb dX4_readsEvent_49 (by decide) ?_
              refine lv_goto (tgt := 54) hx hb dX4_readsEvent_50 (by decide) ?_
              exact k_top (by simp only [evW, if_neg c2, if_neg c3, if_neg c4, if_neg c5, if_pos c6]) J1
            ·
              refine lv_iload_n hx hb dX4_readsEvent_43 rfl (lv_at hl 0 rfl) ?_
              refine lv_bipush (v := (nI 111)) hx hb dX4_readsEvent_44 (by decide) ?_
              refine k_neN (tgt := 53) hx hb (Bq_lt31 hbf _) (by decide) dX4_readsEvent_46 (by decide) (fun c7 => ?_) (fun c7 => ?_)
              ·
                refine lv_iconst (v := (nI 0)) hx hb dX4_readsEvent_53 (by decide) ?_
                exact k_top (by simp only [evW, if_neg c2, if_neg c3, if_neg c4, if_neg c5, if_neg c6, if_neg c7]) J1
              ·
                refine lv_iconst (v := (nI 1)) hx hb dX4_readsEvent_49 (by decide) ?_
                refine lv_goto (tgt := 54) hx hb dX4_readsEvent_50 (by decide) ?_
                exact k_top (by simp only [evW, if_neg c2, if_neg c3, if_neg c4, if_neg c5, if_neg c6, if_pos c7]) J1
  ·
    refine va_put (D := g.1) (ci := 4) (v := .int (nI (evW (Bq (mbf m9) n a9)))) (ty := .boolean) (C := RX4) (T := TX4) (N := 12) hx hb hts hiX4 tyX4 tyX4_ok nmX4 hown hE.1 hP hD hS 0 rfl rfl 8 (by decide) f119 (fun _ h9 => h9) rfl (tyX4_ok 8 (by decide)) (bo_nar (k_b2 (evW_lt _))) (bo_fits (k_b2 (evW_lt _))) (Nat.le_of_ble_eq_true rfl) dX4_readsEvent_54 (fun H locs hP hD hS => ?_)
    have hP : va_P g.1 vwCl (wM g a (sMiw m9 (nI (evW (Bq (mbf m9) n a9))))) _ := hP
    have hD : va_D A (wM g a (sMiw m9 (nI (evW (Bq (mbf m9) n a9))))) := hD
    obtain ⟨z8, ez8⟩ : ∃ x : Nat, evW (Bq (mbf m9) n a9) = x := ⟨_, rfl⟩
    rw [ez8] at hP hD
    have hz8 : z8 < 2 := by rw [← ez8]; exact (evW_lt _)
    refine lv_aload_n hx hb dX4_readsEvent_57 rfl (lv_at hl 2 rfl) ?_
    refine lv_dup hx hb dX4_readsEvent_58 rfl ?_
    refine va_get (D := g.1) (ci := 4) (v := .int (mat m9)) (C := RX4) (T := TX4) (N := 12) hx hb hts hiX4 hown hE.1 hP 0 rfl rfl 7 (by decide) f116 (fun _ h9 => h9) rfl dX4_readsEvent_59 ?_
    refine k_top hat ?_
    refine lv_aload_n hx hb dX4_readsEvent_62 rfl (lv_at hl 2 rfl) ?_
    refine va_get (D := g.1) (ci := 4) (v := .int (nI z8)) (C := RX4) (T := TX4) (N := 12) hx hb hts hiX4 hown hE.1 hP 0 rfl rfl 8 (by decide) f119 (fun _ h9 => h9) rfl dX4_readsEvent_63 ?_
    refine k_meet (x := .int (nI z8)) (pj := 74) (rest := [.int (nI a9), .ref (a 0)]) (fun J9 => ?_) ?_
    ·
      refine k_if0 (tgt := 73) hx hb (Nat.lt_trans hz8 (by decide)) dX4_readsEvent_66 (by decide) (fun c10 => ?_) (fun c10 => ?_)
      ·
        refine lv_iconst (v := (nI 0)) hx hb dX4_readsEvent_73 (by decide) ?_
        exact k_top (congrArg nI (by have h8 : z8 < 2 := hz8; omega)) J9
      ·
        refine lv_iconst (v := (nI 1)) hx hb dX4_readsEvent_69 (by decide) ?_
        refine lv_goto (tgt := 74) hx hb dX4_readsEvent_70 (by decide) ?_
        exact k_top (congrArg nI (by have h8 : z8 < 2 := hz8; omega)) J9
    ·
      refine lv_iadd hx hb dX4_readsEvent_74 ?_
      refine k_top (nI_add _ _) ?_
      refine va_put (D := g.1) (ci := 4) (v := .int (nI (a9 + z8))) (ty := .int) (C := RX4) (T := TX4) (N := 12) hx hb hts hiX4 tyX4 tyX4_ok nmX4 hown hE.1 hP hD hS 0 rfl rfl 7 (by decide) f116 (fun _ h9 => h9) rfl (tyX4_ok 7 (by decide)) rfl rfl (Nat.le_of_ble_eq_true rfl) dX4_readsEvent_75 (fun H locs hP hD hS => ?_)
      have hP : va_P g.1 vwCl (wM g a (sMat (sMiw m9 (nI z8)) (nI (a9 + z8)))) _ := hP
      have hD : va_D A (wM g a (sMat (sMiw m9 (nI z8)) (nI (a9 + z8)))) := hD
      obtain ⟨z11, ez11⟩ : ∃ x : Nat, a9 + z8 = x := ⟨_, rfl⟩
      rw [ez11] at hP hD
      refine lv_aload_n hx hb dX4_readsEvent_78 rfl (lv_at hl 2 rfl) ?_
      refine va_get (D := g.1) (ci := 4) (v := .ref (a 5)) (C := RX4) (T := TX4) (N := 12) hx hb hts hiX4 hown hE.1 hP 0 rfl rfl 9 (by decide) f22 (fun _ h9 => h9) rfl dX4_readsEvent_79 ?_
      refine lv_iload_n hx hb dX4_readsEvent_82 rfl (lv_at hl 1 rfl) ?_
      refine lv_iload_n hx hb dX4_readsEvent_83 rfl (lv_at hl 0 rfl) ?_
      refine k_iast (f := (mrd m9)) (ws1 := (wM g a (sMrd (sMat (sMiw m9 (nI z8)) (nI z11)) (upd (mrd m9) (3 * r) (nI (Bq (mbf m9) n a9)))))) hx hb hE hP hD hS 5 rfl (3 * r) rfl (by omega) (by decide) rfl dX4_readsEvent_84 (fun H locs hP hD hS => ?_)
      refine lv_iload_n hx hb dX4_readsEvent_85 rfl (lv_at hl 0 rfl) ?_
      refine lv_bipush (v := (nI 116)) hx hb dX4_readsEvent_86 (by decide) ?_
      refine k_neN (tgt := 106) hx hb (Bq_lt31 hbf _) (by decide) dX4_readsEvent_88 (by decide) (fun c12 => ?_) (fun c12 => ?_)
      ·
        refine lv_iload_n hx hb dX4_readsEvent_106 rfl (lv_at hl 0 rfl) ?_
        refine lv_bipush (v := (nI 112)) hx hb dX4_readsEvent_107 (by decide) ?_
        refine k_neN (tgt := 129) hx hb (Bq_lt31 hbf _) (by decide) dX4_readsEvent_109 (by decide) (fun c13 => ?_) (fun c13 => ?_)
        ·
          refine lv_aload_n hx hb dX4_readsEvent_129 rfl (lv_at hl 2 rfl) ?_
          refine va_get (D := g.1) (ci := 4) (v := .ref (a 5)) (C := RX4) (T := TX4) (N := 12) hx hb hts hiX4 hown hE.1 hP 0 rfl rfl 9 (by decide) f22 (fun _ h9 => h9) rfl dX4_readsEvent_130 ?_
          refine lv_iload_n hx hb dX4_readsEvent_133 rfl (lv_at hl 1 rfl) ?_
          refine lv_iconst (v := (nI 1)) hx hb dX4_readsEvent_134 (by decide) ?_
          refine lv_iadd hx hb dX4_readsEvent_135 ?_
          refine k_top (nI_add _ _) ?_
          refine lv_aload_n hx hb dX4_readsEvent_136 rfl (lv_at hl 2 rfl) ?_
          refine lv_iconst (v := (nI 0)) hx hb dX4_readsEvent_137 (by decide) ?_
          refine lv_bipush (v := (nI 7)) hx hb dX4_readsEvent_138 (by decide) ?_
          refine k_Vi (As := [.int (nI 0), .int (nI 7)]) (r := ((nI (Bq (mbf m9) n z11)) - (nI 48))) hF (c_X4_figure l g a (sMrd (sMat (sMiw m9 (nI z8)) (nI z11)) (upd (mrd m9) (3 * r) (nI (Bq (mbf m9) n a9)))) n z11 hn hln rfl (by omega) hbf z8 rfl hz8 0 (by decide) 7 (by decide)) (cwV 2 hts gX4_readsEvent_X4_figure rfl rfl rfl (by decide +kernel) ⟨Nat.le_of_ble_eq_true rfl, Nat.le_of_ble_eq_true rfl⟩) hE hP hD hS hA (k_pall _) ((k_pall _).symm) 0 rfl rfl rfl rfl hl.1 rfl (Nat.le_of_ble_eq_true rfl) dX4_readsEvent_140 ⟨Nat.le_of_ble_eq_true rfl, Nat.le_of_ble_eq_true rfl⟩ (fun H locs hP hD hS => ?_)
          have hP : va_P g.1 vwCl (wM g a (sMat (sMiw (sMrd m9 (upd (mrd m9) (3 * r) (nI (Bq (mbf m9) n a9)))) (nI (figW z8 (Bq (mbf m9) n z11) 0 7))) (nI (z11 + (figW z8 (Bq (mbf m9) n z11) 0 7))))) _ := hP
          have hD : va_D A (wM g a (sMat (sMiw (sMrd m9 (upd (mrd m9) (3 * r) (nI (Bq (mbf m9) n a9)))) (nI (figW z8 (Bq (mbf m9) n z11) 0 7))) (nI (z11 + (figW z8 (Bq (mbf m9) n z11) 0 7))))) := hD
          obtain ⟨z14, ez14⟩ : ∃ x : Nat, figW z8 (Bq (mbf m9) n z11) 0 7 = x := ⟨_, rfl⟩
          rw [ez14] at hP hD
          have hz14 : z14 < 2 := by rw [← ez14]; exact (figW_lt _ _ _ _)
          obtain ⟨z15, ez15⟩ : ∃ x : Nat, z11 + z14 = x := ⟨_, rfl⟩
          rw [ez15] at hP hD
          refine k_iast (f := (upd (mrd m9) (3 * r) (nI (Bq (mbf m9) n a9)))) (ws1 := (wM g a (sMrd (sMat (sMiw m9 (nI z14)) (nI z15)) (upd (upd (mrd m9) (3 * r) (nI (Bq (mbf m9) n a9))) ((3 * r) + 1) ((nI (Bq (mbf m9) n z11)) - (nI 48)))))) hx hb hE hP hD hS 5 rfl ((3 * r) + 1) rfl (by omega) (by decide) rfl dX4_readsEvent_143 (fun H locs hP hD hS => ?_)
          refine lv_iload_n hx hb dX4_readsEvent_144 rfl (lv_at hl 0 rfl) ?_
          refine lv_bipush (v := (nI 99)) hx hb dX4_readsEvent_145 (by decide) ?_
          refine k_eqN (tgt := 162) hx hb (Bq_lt31 hbf _) (by decide) dX4_readsEvent_147 (by decide) (fun c16 => ?_) (fun c16 => ?_)
          ·
            refine lv_aload_n hx hb dX4_readsEvent_162 rfl (lv_at hl 2 rfl) ?_
            refine va_get (D := g.1) (ci := 4) (v := .ref (a 5)) (C := RX4) (T := TX4) (N := 12) hx hb hts hiX4 hown hE.1 hP 0 rfl rfl 9 (by decide) f22 (fun _ h9 => h9) rfl dX4_readsEvent_163 ?_
            refine lv_iload_n hx hb dX4_readsEvent_166 rfl (lv_at hl 1 rfl) ?_
            refine lv_iconst (v := (nI 2)) hx hb dX4_readsEvent_167 (by decide) ?_
            refine lv_iadd hx hb dX4_readsEvent_168 ?_
            refine k_top (nI_add _ _) ?_
            refine lv_aload_n hx hb dX4_readsEvent_169 rfl (lv_at hl 2 rfl) ?_
            refine lv_iconst (v := (nI 0)) hx hb dX4_readsEvent_170 (by decide) ?_
            refine lv_iconst (v := (nI 5)) hx hb dX4_readsEvent_171 (by decide) ?_
            refine k_Vi (As := [.int (nI 0), .int (nI 5)]) (r := ((nI (Bq (mbf m9) n z15)) - (nI 48))) hF (c_X4_figure l g a (sMrd (sMat (sMiw m9 (nI z14)) (nI z15)) (upd (upd (mrd m9) (3 * r) (nI (Bq (mbf m9) n a9))) ((3 * r) + 1) ((nI (Bq (mbf m9) n z11)) - (nI 48)))) n z15 hn hln rfl (by omega) hbf z14 rfl hz14 0 (by decide) 5 (by decide)) (cwV 2 hts gX4_readsEvent_X4_figure rfl rfl rfl (by decide +kernel) ⟨Nat.le_of_ble_eq_true rfl, Nat.le_of_ble_eq_true rfl⟩) hE hP hD hS hA (k_pall _) ((k_pall _).symm) 0 rfl rfl rfl rfl hl.1 rfl (Nat.le_of_ble_eq_true rfl) dX4_readsEvent_172 ⟨Nat.le_of_ble_eq_true rfl, Nat.le_of_ble_eq_true rfl⟩ (fun H locs hP hD hS => ?_)
            have hP : va_P g.1 vwCl (wM g a (sMat (sMiw (sMrd m9 (upd (upd (mrd m9) (3 * r) (nI (Bq (mbf m9) n a9))) ((3 * r) + 1) ((nI (Bq (mbf m9) n z11)) - (nI 48)))) (nI (figW z14 (Bq (mbf m9) n z15) 0 5))) (nI (z15 + (figW z14 (Bq (mbf m9) n z15) 0 5))))) _ := hP
            have hD : va_D A (wM g a (sMat (sMiw (sMrd m9 (upd (upd (mrd m9) (3 * r) (nI (Bq (mbf m9) n a9))) ((3 * r) + 1) ((nI (Bq (mbf m9) n z11)) - (nI 48)))) (nI (figW z14 (Bq (mbf m9) n z15) 0 5))) (nI (z15 + (figW z14 (Bq (mbf m9) n z15) 0 5))))) := hD
            obtain ⟨z17, ez17⟩ : ∃ x : Nat, figW z14 (Bq (mbf m9) n z15) 0 5 = x := ⟨_, rfl⟩
            rw [ez17] at hP hD
            have hz17 : z17 < 2 := by rw [← ez17]; exact (figW_lt _ _ _ _)
            obtain ⟨z18, ez18⟩ : ∃ x : Nat, z15 + z17 = x := ⟨_, rfl⟩
            rw [ez18] at hP hD
            refine k_iast (f := (upd (upd (mrd m9) (3 * r) (nI (Bq (mbf m9) n a9))) ((3 * r) + 1) ((nI (Bq (mbf m9) n z11)) - (nI 48)))) (ws1 := (wM g a (sMrd (sMat (sMiw m9 (nI z17)) (nI z18)) (upd (upd (upd (mrd m9) (3 * r) (nI (Bq (mbf m9) n a9))) ((3 * r) + 1) ((nI (Bq (mbf m9) n z11)) - (nI 48))) ((3 * r) + 2) ((nI (Bq (mbf m9) n z15)) - (nI 48)))))) hx hb hE hP hD hS 5 rfl ((3 * r) + 2) rfl (by omega) (by decide) rfl dX4_readsEvent_175 (fun H locs hP hD hS => ?_)
            refine lv_aload_n hx hb dX4_readsEvent_176 rfl (lv_at hl 2 rfl) ?_
            refine lv_dup hx hb dX4_readsEvent_177 rfl ?_
            refine va_get (D := g.1) (ci := 4) (v := .int (mrm m9)) (C := RX4) (T := TX4) (N := 12) hx hb hts hiX4 hown hE.1 hP 0 rfl rfl 10 (by decide) f129 (fun _ h9 => h9) rfl dX4_readsEvent_178 ?_
            refine k_top hrm ?_
            refine lv_aload_n hx hb dX4_readsEvent_181 rfl (lv_at hl 2 rfl) ?_
            refine va_get (D := g.1) (ci := 4) (v := .int (nI z17)) (C := RX4) (T := TX4) (N := 12) hx hb hts hiX4 hown hE.1 hP 0 rfl rfl 8 (by decide) f119 (fun _ h9 => h9) rfl dX4_readsEvent_182 ?_
            refine k_meet (x := .int (nI z17)) (pj := 193) (rest := [.int (nI r), .ref (a 0)]) (fun J19 => ?_) ?_
            ·
              refine k_if0 (tgt := 192) hx hb (Nat.lt_trans hz17 (by decide)) dX4_readsEvent_185 (by decide) (fun c20 => ?_) (fun c20 => ?_)
              ·
                refine lv_iconst (v := (nI 0)) hx hb dX4_readsEvent_192 (by decide) ?_
                exact k_top (congrArg nI (by have h8 : z17 < 2 := hz17; omega)) J19
              ·
                refine lv_iconst (v := (nI 1)) hx hb dX4_readsEvent_188 (by decide) ?_
                refine lv_goto (tgt := 193) hx hb dX4_readsEvent_189 (by decide) ?_
                exact k_top (congrArg nI (by have h8 : z17 < 2 := hz17; omega)) J19
            ·
              refine lv_iadd hx hb dX4_readsEvent_193 ?_
              refine k_top (nI_add _ _) ?_
              refine va_put (D := g.1) (ci := 4) (v := .int (nI (r + z17))) (ty := .int) (C := RX4) (T := TX4) (N := 12) hx hb hts hiX4 tyX4 tyX4_ok nmX4 hown hE.1 hP hD hS 0 rfl rfl 10 (by decide) f129 (fun _ h9 => h9) rfl (tyX4_ok 10 (by decide)) rfl rfl (Nat.le_of_ble_eq_true rfl) dX4_readsEvent_194 (fun H locs hP hD hS => ?_)
              have hP : va_P g.1 vwCl (wM g a (sMrm (sMrd (sMat (sMiw m9 (nI z17)) (nI z18)) (upd (upd (upd (mrd m9) (3 * r) (nI (Bq (mbf m9) n a9))) ((3 * r) + 1) ((nI (Bq (mbf m9) n z11)) - (nI 48))) ((3 * r) + 2) ((nI (Bq (mbf m9) n z15)) - (nI 48)))) (nI (r + z17)))) _ := hP
              have hD : va_D A (wM g a (sMrm (sMrd (sMat (sMiw m9 (nI z17)) (nI z18)) (upd (upd (upd (mrd m9) (3 * r) (nI (Bq (mbf m9) n a9))) ((3 * r) + 1) ((nI (Bq (mbf m9) n z11)) - (nI 48))) ((3 * r) + 2) ((nI (Bq (mbf m9) n z15)) - (nI 48)))) (nI (r + z17)))) := hD
              have e21 : (MR m9 (rEv (mbf m9) n a9 r (mrd m9))) = (sMrm (sMrd (sMat (sMiw m9 (nI z17)) (nI z18)) (upd (upd (upd (mrd m9) (3 * r) (nI (Bq (mbf m9) n a9))) ((3 * r) + 1) ((nI (Bq (mbf m9) n z11)) - (nI 48))) ((3 * r) + 2) ((nI (Bq (mbf m9) n z15)) - (nI 48)))) (nI (r + z17))) := (by subst ez18; subst ez17; subst ez15; subst ez14; subst ez11; subst ez8; first | (simp only [rEv, rT, rO, rC, rC2, MR, if_neg c12, if_pos c12, if_neg c13, if_pos c13, if_pos c16, if_neg (not_not_intro c16)]; done) | (simp only [rEv, rT, rO, rC, rC2, MR, if_neg c12, if_pos c12, if_neg c13, if_pos c13, if_pos c16, if_neg (not_not_intro c16)]; with_reducible rfl) | (simp only [rEv, rT, rO, rC, rC2, MR, if_neg c12, if_pos c12, if_neg c13, if_pos c13, if_pos c16, if_neg (not_not_intro c16)]; (repeat (first | rw [if_neg (not_not_intro c16)] | rw [if_pos c16] | rw [if_neg c13] | rw [if_neg c12])); done) | with_reducible rfl | (simp [rEv, rT, rO, rC, rC2, MR, if_neg c12, if_pos c12, if_neg c13, if_pos c13, if_pos c16, if_neg (not_not_intro c16)]; done))
              have hP : va_P g.1 vwCl (wM g a (MR m9 (rEv (mbf m9) n a9 r (mrd m9)))) H := by rw [e21]; exact hP
              have hD : va_D A (wM g a (MR m9 (rEv (mbf m9) n a9 r (mrd m9)))) := by rw [e21]; exact hD
              exact k_vret hx hb hr hlocks hP hD hS (Nat.le_of_ble_eq_true rfl) (Nat.le_of_ble_eq_true rfl) dX4_readsEvent_197
          ·
            refine lv_iload_n hx hb dX4_readsEvent_150 rfl (lv_at hl 0 rfl) ?_
            refine lv_bipush (v := (nI 108)) hx hb dX4_readsEvent_151 (by decide) ?_
            refine k_eqN (tgt := 162) hx hb (Bq_lt31 hbf _) (by decide) dX4_readsEvent_153 (by decide) (fun c22 => ?_) (fun c22 => ?_)
            ·
              refine lv_aload_n hx hb dX4_readsEvent_162 rfl (lv_at hl 2 rfl) ?_
              refine va_get (D := g.1) (ci := 4) (v := .ref (a 5)) (C := RX4) (T := TX4) (N := 12) hx hb hts hiX4 hown hE.1 hP 0 rfl rfl 9 (by decide) f22 (fun _ h9 => h9) rfl dX4_readsEvent_163 ?_
              refine lv_iload_n hx hb dX4_readsEvent_166 rfl (lv_at hl 1 rfl) ?_
              refine lv_iconst (v := (nI 2)) hx hb dX4_readsEvent_167 (by decide) ?_
              refine lv_iadd hx hb dX4_readsEvent_168 ?_
              refine k_top (nI_add _ _) ?_
              refine lv_aload_n hx hb dX4_readsEvent_169 rfl (lv_at hl 2 rfl) ?_
              refine lv_iconst (v := (nI 0)) hx hb dX4_readsEvent_170 (by decide) ?_
              refine lv_iconst (v := (nI 5)) hx hb dX4_readsEvent_171 (by decide) ?_
              refine k_Vi (As := [.int (nI 0), .int (nI 5)]) (r := ((nI (Bq (mbf m9) n z15)) - (nI 48))) hF (c_X4_figure l g a (sMrd (sMat (sMiw m9 (nI z14)) (nI z15)) (upd (upd (mrd m9) (3 * r) (nI (Bq (mbf m9) n a9))) ((3 * r) + 1) ((nI (Bq (mbf m9) n z11)) - (nI 48)))) n z15 hn hln rfl (by omega) hbf z14 rfl hz14 0 (by decide) 5 (by decide)) (cwV 2 hts gX4_readsEvent_X4_figure rfl rfl rfl (by decide +kernel) ⟨Nat.le_of_ble_eq_true rfl, Nat.le_of_ble_eq_true rfl⟩) hE hP hD hS hA (k_pall _) ((k_pall _).symm) 0 rfl rfl rfl rfl hl.1 rfl (Nat.le_of_ble_eq_true rfl) dX4_readsEvent_172 ⟨Nat.le_of_ble_eq_true rfl, Nat.le_of_ble_eq_true rfl⟩ (fun H locs hP hD hS => ?_)
              have hP : va_P g.1 vwCl (wM g a (sMat (sMiw (sMrd m9 (upd (upd (mrd m9) (3 * r) (nI (Bq (mbf m9) n a9))) ((3 * r) + 1) ((nI (Bq (mbf m9) n z11)) - (nI 48)))) (nI (figW z14 (Bq (mbf m9) n z15) 0 5))) (nI (z15 + (figW z14 (Bq (mbf m9) n z15) 0 5))))) _ := hP
              have hD : va_D A (wM g a (sMat (sMiw (sMrd m9 (upd (upd (mrd m9) (3 * r) (nI (Bq (mbf m9) n a9))) ((3 * r) + 1) ((nI (Bq (mbf m9) n z11)) - (nI 48)))) (nI (figW z14 (Bq (mbf m9) n z15) 0 5))) (nI (z15 + (figW z14 (Bq (mbf m9) n z15) 0 5))))) := hD
              obtain ⟨z23, ez23⟩ : ∃ x : Nat, figW z14 (Bq (mbf m9) n z15) 0 5 = x := ⟨_, rfl⟩
              rw [ez23] at hP hD
              have hz23 : z23 < 2 := by rw [← ez23]; exact (figW_lt _ _ _ _)
              obtain ⟨z24, ez24⟩ : ∃ x : Nat, z15 + z23 = x := ⟨_, rfl⟩
              rw [ez24] at hP hD
              refine k_iast (f := (upd (upd (mrd m9) (3 * r) (nI (Bq (mbf m9) n a9))) ((3 * r) + 1) ((nI (Bq (mbf m9) n z11)) - (nI 48)))) (ws1 := (wM g a (sMrd (sMat (sMiw m9 (nI z23)) (nI z24)) (upd (upd (upd (mrd m9) (3 * r) (nI (Bq (mbf m9) n a9))) ((3 * r) + 1) ((nI (Bq (mbf m9) n z11)) - (nI 48))) ((3 * r) + 2) ((nI (Bq (mbf m9) n z15)) - (nI 48)))))) hx hb hE hP hD hS 5 rfl ((3 * r) + 2) rfl (by omega) (by decide) rfl dX4_readsEvent_175 (fun H locs hP hD hS => ?_)
              refine lv_aload_n hx hb dX4_readsEvent_176 rfl (lv_at hl 2 rfl) ?_
              refine lv_dup hx hb dX4_readsEvent_177 rfl ?_
              refine va_get (D := g.1) (ci := 4) (v := .int (mrm m9)) (C := RX4) (T := TX4) (N := 12) hx hb hts hiX4 hown hE.1 hP 0 rfl rfl 10 (by decide) f129 (fun _ h9 => h9) rfl dX4_readsEvent_178 ?_
              refine k_top hrm ?_
              refine lv_aload_n hx hb dX4_readsEvent_181 rfl (lv_at hl 2 rfl) ?_
              refine va_get (D := g.1) (ci := 4) (v := .int (nI z23)) (C := RX4) (T := TX4) (N := 12) hx hb hts hiX4 hown hE.1 hP 0 rfl rfl 8 (by decide) f119 (fun _ h9 => h9) rfl dX4_readsEvent_182 ?_
              refine k_meet (x := .int (nI z23)) (pj := 193) (rest := [.int (nI r), .ref (a 0)]) (fun J25 => ?_) ?_
              ·
                refine k_if0 (tgt := 192) hx hb (Nat.lt_trans hz23 (by decide)) dX4_readsEvent_185 (by decide) (fun c26 => ?_) (fun c26 => ?_)
                ·
                  refine lv_iconst (v := (nI 0)) hx hb dX4_readsEvent_192 (by decide) ?_
                  exact k_top (congrArg nI (by have h8 : z23 < 2 := hz23; omega)) J25
                ·
                  refine lv_iconst (v := (nI 1)) hx hb dX4_readsEvent_188 (by decide) ?_
                  refine lv_goto (tgt := 193) hx hb dX4_readsEvent_189 (by decide) ?_
                  exact k_top (congrArg nI (by have h8 : z23 < 2 := hz23; omega)) J25
              ·
                refine lv_iadd hx hb dX4_readsEvent_193 ?_
                refine k_top (nI_add _ _) ?_
                refine va_put (D := g.1) (ci := 4) (v := .int (nI (r + z23))) (ty := .int) (C := RX4) (T := TX4) (N := 12) hx hb hts hiX4 tyX4 tyX4_ok nmX4 hown hE.1 hP hD hS 0 rfl rfl 10 (by decide) f129 (fun _ h9 => h9) rfl (tyX4_ok 10 (by decide)) rfl rfl (Nat.le_of_ble_eq_true rfl) dX4_readsEvent_194 (fun H locs hP hD hS => ?_)
                have hP : va_P g.1 vwCl (wM g a (sMrm (sMrd (sMat (sMiw m9 (nI z23)) (nI z24)) (upd (upd (upd (mrd m9) (3 * r) (nI (Bq (mbf m9) n a9))) ((3 * r) + 1) ((nI (Bq (mbf m9) n z11)) - (nI 48))) ((3 * r) + 2) ((nI (Bq (mbf m9) n z15)) - (nI 48)))) (nI (r + z23)))) _ := hP
                have hD : va_D A (wM g a (sMrm (sMrd (sMat (sMiw m9 (nI z23)) (nI z24)) (upd (upd (upd (mrd m9) (3 * r) (nI (Bq (mbf m9) n a9))) ((3 * r) + 1) ((nI (Bq (mbf m9) n z11)) - (nI 48))) ((3 * r) + 2) ((nI (Bq (mbf m9) n z15)) - (nI 48)))) (nI (r + z23)))) := hD
                have e27 : (MR m9 (rEv (mbf m9) n a9 r (mrd m9))) = (sMrm (sMrd (sMat (sMiw m9 (nI z23)) (nI z24)) (upd (upd (upd (mrd m9) (3 * r) (nI (Bq (mbf m9) n a9))) ((3 * r) + 1) ((nI (Bq (mbf m9) n z11)) - (nI 48))) ((3 * r) + 2) ((nI (Bq (mbf m9) n z15)) - (nI 48)))) (nI (r + z23))) := (by subst ez24; subst ez23; subst ez15; subst ez14; subst ez11; subst ez8; first | (simp only [rEv, rT, rO, rC, rC2, MR, if_neg c12, if_pos c12, if_neg c13, if_pos c13, if_neg c16, if_pos c16, if_pos c22, if_neg (not_not_intro c22)]; done) | (simp only [rEv, rT, rO, rC, rC2, MR, if_neg c12, if_pos c12, if_neg c13, if_pos c13, if_neg c16, if_pos c16, if_pos c22, if_neg (not_not_intro c22)]; with_reducible rfl) | (simp only [rEv, rT, rO, rC, rC2, MR, if_neg c12, if_pos c12, if_neg c13, if_pos c13, if_neg c16, if_pos c16, if_pos c22, if_neg (not_not_intro c22)]; (repeat (first | rw [if_neg (not_not_intro c22)] | rw [if_pos c22] | rw [if_neg c16] | rw [if_neg c13] | rw [if_neg c12])); done) | with_reducible rfl | (simp [rEv, rT, rO, rC, rC2, MR, if_neg c12, if_pos c12, if_neg c13, if_pos c13, if_neg c16, if_pos c16, if_pos c22, if_neg (not_not_intro c22)]; done))
                have hP : va_P g.1 vwCl (wM g a (MR m9 (rEv (mbf m9) n a9 r (mrd m9)))) H := by rw [e27]; exact hP
                have hD : va_D A (wM g a (MR m9 (rEv (mbf m9) n a9 r (mrd m9)))) := by rw [e27]; exact hD
                exact k_vret hx hb hr hlocks hP hD hS (Nat.le_of_ble_eq_true rfl) (Nat.le_of_ble_eq_true rfl) dX4_readsEvent_197
            ·
              refine lv_iload_n hx hb dX4_readsEvent_156 rfl (lv_at hl 0 rfl) ?_
              refine lv_bipush (v := (nI 115)) hx hb dX4_readsEvent_157 (by decide) ?_
              refine k_neN (tgt := 176) hx hb (Bq_lt31 hbf _) (by decide) dX4_readsEvent_159 (by decide) (fun c28 => ?_) (fun c28 => ?_)
              ·
                refine lv_aload_n hx hb dX4_readsEvent_176 rfl (lv_at hl 2 rfl) ?_
                refine lv_dup hx hb dX4_readsEvent_177 rfl ?_
                refine va_get (D := g.1) (ci := 4) (v := .int (mrm m9)) (C := RX4) (T := TX4) (N := 12) hx hb hts hiX4 hown hE.1 hP 0 rfl rfl 10 (by decide) f129 (fun _ h9 => h9) rfl dX4_readsEvent_178 ?_
                refine k_top hrm ?_
                refine lv_aload_n hx hb dX4_readsEvent_181 rfl (lv_at hl 2 rfl) ?_
                refine va_get (D := g.1) (ci := 4) (v := .int (nI z14)) (C := RX4) (T := TX4) (N := 12) hx hb hts hiX4 hown hE.1 hP 0 rfl rfl 8 (by decide) f119 (fun _ h9 => h9) rfl dX4_readsEvent_182 ?_
                refine k_meet (x := .int (nI z14)) (pj := 193) (rest := [.int (nI r), .ref (a 0)]) (fun J29 => ?_) ?_
                ·
                  refine k_if0 (tgt := 192) hx hb (Nat.lt_trans hz14 (by decide)) dX4_readsEvent_185 (by decide) (fun c30 => ?_) (fun c30 => ?_)
                  ·
                    refine lv_iconst (v := (nI 0)) hx hb dX4_readsEvent_192 (by decide) ?_
                    exact k_top (congrArg nI (by have h8 : z14 < 2 := hz14; omega)) J29
                  ·
                    refine lv_iconst (v := (nI 1)) hx hb dX4_readsEvent_188 (by decide) ?_
                    refine lv_goto (tgt := 193) hx hb dX4_readsEvent_189 (by decide) ?_
                    exact k_top (congrArg nI (by have h8 : z14 < 2 := hz14; omega)) J29
                ·
                  refine lv_iadd hx hb dX4_readsEvent_193 ?_
                  refine k_top (nI_add _ _) ?_
                  refine va_put (D := g.1) (ci := 4) (v := .int (nI (r + z14))) (ty := .int) (C := RX4) (T := TX4) (N := 12) hx hb hts hiX4 tyX4 tyX4_ok nmX4 hown hE.1 hP hD hS 0 rfl rfl 10 (by decide) f129 (fun _ h9 => h9) rfl (tyX4_ok 10 (by decide)) rfl rfl (Nat.le_of_ble_eq_true rfl) dX4_readsEvent_194 (fun H locs hP hD hS => ?_)
                  have hP : va_P g.1 vwCl (wM g a (sMrm (sMrd (sMat (sMiw m9 (nI z14)) (nI z15)) (upd (upd (mrd m9) (3 * r) (nI (Bq (mbf m9) n a9))) ((3 * r) + 1) ((nI (Bq (mbf m9) n z11)) - (nI 48)))) (nI (r + z14)))) _ := hP
                  have hD : va_D A (wM g a (sMrm (sMrd (sMat (sMiw m9 (nI z14)) (nI z15)) (upd (upd (mrd m9) (3 * r) (nI (Bq (mbf m9) n a9))) ((3 * r) + 1) ((nI (Bq (mbf m9) n z11)) - (nI 48)))) (nI (r + z14)))) := hD
                  have e31 : (MR m9 (rEv (mbf m9) n a9 r (mrd m9))) = (sMrm (sMrd (sMat (sMiw m9 (nI z14)) (nI z15)) (upd (upd (mrd m9) (3 * r) (nI (Bq (mbf m9) n a9))) ((3 * r) + 1) ((nI (Bq (mbf m9) n z11)) - (nI 48)))) (nI (r + z14))) := (by subst ez15; subst ez14; subst ez11; subst ez8; first | (simp only [rEv, rT, rO, rC, rC2, MR, if_neg c12, if_pos c12, if_neg c13, if_pos c13, if_neg c16, if_pos c16, if_neg c22, if_pos c22, if_neg c28, if_pos c28]; done) | (simp only [rEv, rT, rO, rC, rC2, MR, if_neg c12, if_pos c12, if_neg c13, if_pos c13, if_neg c16, if_pos c16, if_neg c22, if_pos c22, if_neg c28, if_pos c28]; with_reducible rfl) | (simp only [rEv, rT, rO, rC, rC2, MR, if_neg c12, if_pos c12, if_neg c13, if_pos c13, if_neg c16, if_pos c16, if_neg c22, if_pos c22, if_neg c28, if_pos c28]; (repeat (first | rw [if_neg c28] | rw [if_neg c22] | rw [if_neg c16] | rw [if_neg c13] | rw [if_neg c12])); done) | with_reducible rfl | (simp [rEv, rT, rO, rC, rC2, MR, if_neg c12, if_pos c12, if_neg c13, if_pos c13, if_neg c16, if_pos c16, if_neg c22, if_pos c22, if_neg c28, if_pos c28]; done))
                  have hP : va_P g.1 vwCl (wM g a (MR m9 (rEv (mbf m9) n a9 r (mrd m9)))) H := by rw [e31]; exact hP
                  have hD : va_D A (wM g a (MR m9 (rEv (mbf m9) n a9 r (mrd m9)))) := by rw [e31]; exact hD
                  exact k_vret hx hb hr hlocks hP hD hS (Nat.le_of_ble_eq_true rfl) (Nat.le_of_ble_eq_true rfl) dX4_readsEvent_197
              ·
                refine lv_aload_n hx hb dX4_readsEvent_162 rfl (lv_at hl 2 rfl) ?_
                refine va_get (D := g.1) (ci := 4) (v := .ref (a 5)) (C := RX4) (T := TX4) (N := 12) hx hb hts hiX4 hown hE.1 hP 0 rfl rfl 9 (by decide) f22 (fun _ h9 => h9) rfl dX4_readsEvent_163 ?_
                refine lv_iload_n hx hb dX4_readsEvent_166 rfl (lv_at hl 1 rfl) ?_
                refine lv_iconst (v := (nI 2)) hx hb dX4_readsEvent_167 (by decide) ?_
                refine lv_iadd hx hb dX4_readsEvent_168 ?_
                refine k_top (nI_add _ _) ?_
                refine lv_aload_n hx hb dX4_readsEvent_169 rfl (lv_at hl 2 rfl) ?_
                refine lv_iconst (v := (nI 0)) hx hb dX4_readsEvent_170 (by decide) ?_
                refine lv_iconst (v := (nI 5)) hx hb dX4_readsEvent_171 (by decide) ?_
                refine k_Vi (As := [.int (nI 0), .int (nI 5)]) (r := ((nI (Bq (mbf m9) n z15)) - (nI 48))) hF (c_X4_figure l g a (sMrd (sMat (sMiw m9 (nI z14)) (nI z15)) (upd (upd (mrd m9) (3 * r) (nI (Bq (mbf m9) n a9))) ((3 * r) + 1) ((nI (Bq (mbf m9) n z11)) - (nI 48)))) n z15 hn hln rfl (by omega) hbf z14 rfl hz14 0 (by decide) 5 (by decide)) (cwV 2 hts gX4_readsEvent_X4_figure rfl rfl rfl (by decide +kernel) ⟨Nat.le_of_ble_eq_true rfl, Nat.le_of_ble_eq_true rfl⟩) hE hP hD hS hA (k_pall _) ((k_pall _).symm) 0 rfl rfl rfl rfl hl.1 rfl (Nat.le_of_ble_eq_true rfl) dX4_readsEvent_172 ⟨Nat.le_of_ble_eq_true rfl, Nat.le_of_ble_eq_true rfl⟩ (fun H locs hP hD hS => ?_)
                have hP : va_P g.1 vwCl (wM g a (sMat (sMiw (sMrd m9 (upd (upd (mrd m9) (3 * r) (nI (Bq (mbf m9) n a9))) ((3 * r) + 1) ((nI (Bq (mbf m9) n z11)) - (nI 48)))) (nI (figW z14 (Bq (mbf m9) n z15) 0 5))) (nI (z15 + (figW z14 (Bq (mbf m9) n z15) 0 5))))) _ := hP
                have hD : va_D A (wM g a (sMat (sMiw (sMrd m9 (upd (upd (mrd m9) (3 * r) (nI (Bq (mbf m9) n a9))) ((3 * r) + 1) ((nI (Bq (mbf m9) n z11)) - (nI 48)))) (nI (figW z14 (Bq (mbf m9) n z15) 0 5))) (nI (z15 + (figW z14 (Bq (mbf m9) n z15) 0 5))))) := hD
                obtain ⟨z32, ez32⟩ : ∃ x : Nat, figW z14 (Bq (mbf m9) n z15) 0 5 = x := ⟨_, rfl⟩
                rw [ez32] at hP hD
                have hz32 : z32 < 2 := by rw [← ez32]; exact (figW_lt _ _ _ _)
                obtain ⟨z33, ez33⟩ : ∃ x : Nat, z15 + z32 = x := ⟨_, rfl⟩
                rw [ez33] at hP hD
                refine k_iast (f := (upd (upd (mrd m9) (3 * r) (nI (Bq (mbf m9) n a9))) ((3 * r) + 1) ((nI (Bq (mbf m9) n z11)) - (nI 48)))) (ws1 := (wM g a (sMrd (sMat (sMiw m9 (nI z32)) (nI z33)) (upd (upd (upd (mrd m9) (3 * r) (nI (Bq (mbf m9) n a9))) ((3 * r) + 1) ((nI (Bq (mbf m9) n z11)) - (nI 48))) ((3 * r) + 2) ((nI (Bq (mbf m9) n z15)) - (nI 48)))))) hx hb hE hP hD hS 5 rfl ((3 * r) + 2) rfl (by omega) (by decide) rfl dX4_readsEvent_175 (fun H locs hP hD hS => ?_)
                refine lv_aload_n hx hb dX4_readsEvent_176 rfl (lv_at hl 2 rfl) ?_
                refine lv_dup hx hb dX4_readsEvent_177 rfl ?_
                refine va_get (D := g.1) (ci := 4) (v := .int (mrm m9)) (C := RX4) (T := TX4) (N := 12) hx hb hts hiX4 hown hE.1 hP 0 rfl rfl 10 (by decide) f129 (fun _ h9 => h9) rfl dX4_readsEvent_178 ?_
                refine k_top hrm ?_
                refine lv_aload_n hx hb dX4_readsEvent_181 rfl (lv_at hl 2 rfl) ?_
                refine va_get (D := g.1) (ci := 4) (v := .int (nI z32)) (C := RX4) (T := TX4) (N := 12) hx hb hts hiX4 hown hE.1 hP 0 rfl rfl 8 (by decide) f119 (fun _ h9 => h9) rfl dX4_readsEvent_182 ?_
                refine k_meet (x := .int (nI z32)) (pj := 193) (rest := [.int (nI r), .ref (a 0)]) (fun J34 => ?_) ?_
                ·
                  refine k_if0 (tgt := 192) hx hb (Nat.lt_trans hz32 (by decide)) dX4_readsEvent_185 (by decide) (fun c35 => ?_) (fun c35 => ?_)
                  ·
                    refine lv_iconst (v := (nI 0)) hx hb dX4_readsEvent_192 (by decide) ?_
                    exact k_top (congrArg nI (by have h8 : z32 < 2 := hz32; omega)) J34
                  ·
                    refine lv_iconst (v := (nI 1)) hx hb dX4_readsEvent_188 (by decide) ?_
                    refine lv_goto (tgt := 193) hx hb dX4_readsEvent_189 (by decide) ?_
                    exact k_top (congrArg nI (by have h8 : z32 < 2 := hz32; omega)) J34
                ·
                  refine lv_iadd hx hb dX4_readsEvent_193 ?_
                  refine k_top (nI_add _ _) ?_
                  refine va_put (D := g.1) (ci := 4) (v := .int (nI (r + z32))) (ty := .int) (C := RX4) (T := TX4) (N := 12) hx hb hts hiX4 tyX4 tyX4_ok nmX4 hown hE.1 hP hD hS 0 rfl rfl 10 (by decide) f129 (fun _ h9 => h9) rfl (tyX4_ok 10 (by decide)) rfl rfl (Nat.le_of_ble_eq_true rfl) dX4_readsEvent_194 (fun H locs hP hD hS => ?_)
                  have hP : va_P g.1 vwCl (wM g a (sMrm (sMrd (sMat (sMiw m9 (nI z32)) (nI z33)) (upd (upd (upd (mrd m9) (3 * r) (nI (Bq (mbf m9) n a9))) ((3 * r) + 1) ((nI (Bq (mbf m9) n z11)) - (nI 48))) ((3 * r) + 2) ((nI (Bq (mbf m9) n z15)) - (nI 48)))) (nI (r + z32)))) _ := hP
                  have hD : va_D A (wM g a (sMrm (sMrd (sMat (sMiw m9 (nI z32)) (nI z33)) (upd (upd (upd (mrd m9) (3 * r) (nI (Bq (mbf m9) n a9))) ((3 * r) + 1) ((nI (Bq (mbf m9) n z11)) - (nI 48))) ((3 * r) + 2) ((nI (Bq (mbf m9) n z15)) - (nI 48)))) (nI (r + z32)))) := hD
                  have e36 : (MR m9 (rEv (mbf m9) n a9 r (mrd m9))) = (sMrm (sMrd (sMat (sMiw m9 (nI z32)) (nI z33)) (upd (upd (upd (mrd m9) (3 * r) (nI (Bq (mbf m9) n a9))) ((3 * r) + 1) ((nI (Bq (mbf m9) n z11)) - (nI 48))) ((3 * r) + 2) ((nI (Bq (mbf m9) n z15)) - (nI 48)))) (nI (r + z32))) := (by subst ez33; subst ez32; subst ez15; subst ez14; subst ez11; subst ez8; first | (simp only [rEv, rT, rO, rC, rC2, MR, if_neg c12, if_pos c12, if_neg c13, if_pos c13, if_neg c16, if_pos c16, if_neg c22, if_pos c22, if_pos c28, if_neg (not_not_intro c28)]; done) | (simp only [rEv, rT, rO, rC, rC2, MR, if_neg c12, if_pos c12, if_neg c13, if_pos c13, if_neg c16, if_pos c16, if_neg c22, if_pos c22, if_pos c28, if_neg (not_not_intro c28)]; with_reducible rfl) | (simp only [rEv, rT, rO, rC, rC2, MR, if_neg c12, if_pos c12, if_neg c13, if_pos c13, if_neg c16, if_pos c16, if_neg c22, if_pos c22, if_pos c28, if_neg (not_not_intro c28)]; (repeat (first | rw [if_neg (not_not_intro c28)] | rw [if_pos c28] | rw [if_neg c22] | rw [if_neg c16] | rw [if_neg c13] | rw [if_neg c12])); done) | with_reducible rfl | (simp [rEv, rT, rO, rC, rC2, MR, if_neg c12, if_pos c12, if_neg c13, if_pos c13, if_neg c16, if_pos c16, if_neg c22, if_pos c22, if_pos c28, if_neg (not_not_intro c28)]; done))
                  have hP : va_P g.1 vwCl (wM g a (MR m9 (rEv (mbf m9) n a9 r (mrd m9)))) H := by rw [e36]; exact hP
                  have hD : va_D A (wM g a (MR m9 (rEv (mbf m9) n a9 r (mrd m9)))) := by rw [e36]; exact hD
                  exact k_vret hx hb hr hlocks hP hD hS (Nat.le_of_ble_eq_true rfl) (Nat.le_of_ble_eq_true rfl) dX4_readsEvent_197
        ·
          refine lv_aload_n hx hb dX4_readsEvent_112 rfl (lv_at hl 2 rfl) ?_
          refine va_get (D := g.1) (ci := 4) (v := .ref (a 5)) (C := RX4) (T := TX4) (N := 12) hx hb hts hiX4 hown hE.1 hP 0 rfl rfl 9 (by decide) f22 (fun _ h9 => h9) rfl dX4_readsEvent_113 ?_
          refine lv_iload_n hx hb dX4_readsEvent_116 rfl (lv_at hl 1 rfl) ?_
          refine lv_iconst (v := (nI 1)) hx hb dX4_readsEvent_117 (by decide) ?_
          refine lv_iadd hx hb dX4_readsEvent_118 ?_
          refine k_top (nI_add _ _) ?_
          refine lv_aload_n hx hb dX4_readsEvent_119 rfl (lv_at hl 2 rfl) ?_
          refine lv_iconst (v := (nI 0)) hx hb dX4_readsEvent_120 (by decide) ?_
          refine lv_iconst (v := (nI 5)) hx hb dX4_readsEvent_121 (by decide) ?_
          refine k_Vi (As := [.int (nI 0), .int (nI 5)]) (r := ((nI (Bq (mbf m9) n z11)) - (nI 48))) hF (c_X4_figure l g a (sMrd (sMat (sMiw m9 (nI z8)) (nI z11)) (upd (mrd m9) (3 * r) (nI (Bq (mbf m9) n a9)))) n z11 hn hln rfl (by omega) hbf z8 rfl hz8 0 (by decide) 5 (by decide)) (cwV 2 hts gX4_readsEvent_X4_figure rfl rfl rfl (by decide +kernel) ⟨Nat.le_of_ble_eq_true rfl, Nat.le_of_ble_eq_true rfl⟩) hE hP hD hS hA (k_pall _) ((k_pall _).symm) 0 rfl rfl rfl rfl hl.1 rfl (Nat.le_of_ble_eq_true rfl) dX4_readsEvent_122 ⟨Nat.le_of_ble_eq_true rfl, Nat.le_of_ble_eq_true rfl⟩ (fun H locs hP hD hS => ?_)
          have hP : va_P g.1 vwCl (wM g a (sMat (sMiw (sMrd m9 (upd (mrd m9) (3 * r) (nI (Bq (mbf m9) n a9)))) (nI (figW z8 (Bq (mbf m9) n z11) 0 5))) (nI (z11 + (figW z8 (Bq (mbf m9) n z11) 0 5))))) _ := hP
          have hD : va_D A (wM g a (sMat (sMiw (sMrd m9 (upd (mrd m9) (3 * r) (nI (Bq (mbf m9) n a9)))) (nI (figW z8 (Bq (mbf m9) n z11) 0 5))) (nI (z11 + (figW z8 (Bq (mbf m9) n z11) 0 5))))) := hD
          obtain ⟨z37, ez37⟩ : ∃ x : Nat, figW z8 (Bq (mbf m9) n z11) 0 5 = x := ⟨_, rfl⟩
          rw [ez37] at hP hD
          have hz37 : z37 < 2 := by rw [← ez37]; exact (figW_lt _ _ _ _)
          obtain ⟨z38, ez38⟩ : ∃ x : Nat, z11 + z37 = x := ⟨_, rfl⟩
          rw [ez38] at hP hD
          refine k_iast (f := (upd (mrd m9) (3 * r) (nI (Bq (mbf m9) n a9)))) (ws1 := (wM g a (sMrd (sMat (sMiw m9 (nI z37)) (nI z38)) (upd (upd (mrd m9) (3 * r) (nI (Bq (mbf m9) n a9))) ((3 * r) + 1) ((nI (Bq (mbf m9) n z11)) - (nI 48)))))) hx hb hE hP hD hS 5 rfl ((3 * r) + 1) rfl (by omega) (by decide) rfl dX4_readsEvent_125 (fun H locs hP hD hS => ?_)
          refine lv_goto (tgt := 144) hx hb dX4_readsEvent_126 (by decide) ?_
          refine lv_iload_n hx hb dX4_readsEvent_144 rfl (lv_at hl 0 rfl) ?_
          refine lv_bipush (v := (nI 99)) hx hb dX4_readsEvent_145 (by decide) ?_
          refine k_eqN (tgt := 162) hx hb (Bq_lt31 hbf _) (by decide) dX4_readsEvent_147 (by decide) (fun c39 => ?_) (fun c39 => ?_)
          ·
            exact absurd c39 (by omega)
          ·
            refine lv_iload_n hx hb dX4_readsEvent_150 rfl (lv_at hl 0 rfl) ?_
            refine lv_bipush (v := (nI 108)) hx hb dX4_readsEvent_151 (by decide) ?_
            refine k_eqN (tgt := 162) hx hb (Bq_lt31 hbf _) (by decide) dX4_readsEvent_153 (by decide) (fun c40 => ?_) (fun c40 => ?_)
            ·
              exact absurd c40 (by omega)
            ·
              refine lv_iload_n hx hb dX4_readsEvent_156 rfl (lv_at hl 0 rfl) ?_
              refine lv_bipush (v := (nI 115)) hx hb dX4_readsEvent_157 (by decide) ?_
              refine k_neN (tgt := 176) hx hb (Bq_lt31 hbf _) (by decide) dX4_readsEvent_159 (by decide) (fun c41 => ?_) (fun c41 => ?_)
              ·
                refine lv_aload_n hx hb dX4_readsEvent_176 rfl (lv_at hl 2 rfl) ?_
                refine lv_dup hx hb dX4_readsEvent_177 rfl ?_
                refine va_get (D := g.1) (ci := 4) (v := .int (mrm m9)) (C := RX4) (T := TX4) (N := 12) hx hb hts hiX4 hown hE.1 hP 0 rfl rfl 10 (by decide) f129 (fun _ h9 => h9) rfl dX4_readsEvent_178 ?_
                refine k_top hrm ?_
                refine lv_aload_n hx hb dX4_readsEvent_181 rfl (lv_at hl 2 rfl) ?_
                refine va_get (D := g.1) (ci := 4) (v := .int (nI z37)) (C := RX4) (T := TX4) (N := 12) hx hb hts hiX4 hown hE.1 hP 0 rfl rfl 8 (by decide) f119 (fun _ h9 => h9) rfl dX4_readsEvent_182 ?_
                refine k_meet (x := .int (nI z37)) (pj := 193) (rest := [.int (nI r), .ref (a 0)]) (fun J42 => ?_) ?_
                ·
                  refine k_if0 (tgt := 192) hx hb (Nat.lt_trans hz37 (by decide)) dX4_readsEvent_185 (by decide) (fun c43 => ?_) (fun c43 => ?_)
                  ·
                    refine lv_iconst (v := (nI 0)) hx hb dX4_readsEvent_192 (by decide) ?_
                    exact k_top (congrArg nI (by have h8 : z37 < 2 := hz37; omega)) J42
                  ·
                    refine lv_iconst (v := (nI 1)) hx hb dX4_readsEvent_188 (by decide) ?_
                    refine lv_goto (tgt := 193) hx hb dX4_readsEvent_189 (by decide) ?_
                    exact k_top (congrArg nI (by have h8 : z37 < 2 := hz37; omega)) J42
                ·
                  refine lv_iadd hx hb dX4_readsEvent_193 ?_
                  refine k_top (nI_add _ _) ?_
                  refine va_put (D := g.1) (ci := 4) (v := .int (nI (r + z37))) (ty := .int) (C := RX4) (T := TX4) (N := 12) hx hb hts hiX4 tyX4 tyX4_ok nmX4 hown hE.1 hP hD hS 0 rfl rfl 10 (by decide) f129 (fun _ h9 => h9) rfl (tyX4_ok 10 (by decide)) rfl rfl (Nat.le_of_ble_eq_true rfl) dX4_readsEvent_194 (fun H locs hP hD hS => ?_)
                  have hP : va_P g.1 vwCl (wM g a (sMrm (sMrd (sMat (sMiw m9 (nI z37)) (nI z38)) (upd (upd (mrd m9) (3 * r) (nI (Bq (mbf m9) n a9))) ((3 * r) + 1) ((nI (Bq (mbf m9) n z11)) - (nI 48)))) (nI (r + z37)))) _ := hP
                  have hD : va_D A (wM g a (sMrm (sMrd (sMat (sMiw m9 (nI z37)) (nI z38)) (upd (upd (mrd m9) (3 * r) (nI (Bq (mbf m9) n a9))) ((3 * r) + 1) ((nI (Bq (mbf m9) n z11)) - (nI 48)))) (nI (r + z37)))) := hD
                  have e44 : (MR m9 (rEv (mbf m9) n a9 r (mrd m9))) = (sMrm (sMrd (sMat (sMiw m9 (nI z37)) (nI z38)) (upd (upd (mrd m9) (3 * r) (nI (Bq (mbf m9) n a9))) ((3 * r) + 1) ((nI (Bq (mbf m9) n z11)) - (nI 48)))) (nI (r + z37))) := (by subst ez38; subst ez37; subst ez11; subst ez8; first | (simp only [rEv, rT, rO, rC, rC2, MR, if_neg c12, if_pos c12, if_pos c13, if_neg (not_not_intro c13), if_neg c39, if_pos c39, if_neg c40, if_pos c40, if_neg c41, if_pos c41]; done) | (simp only [rEv, rT, rO, rC, rC2, MR, if_neg c12, if_pos c12, if_pos c13, if_neg (not_not_intro c13), if_neg c39, if_pos c39, if_neg c40, if_pos c40, if_neg c41, if_pos c41]; with_reducible rfl) | (simp only [rEv, rT, rO, rC, rC2, MR, if_neg c12, if_pos c12, if_pos c13, if_neg (not_not_intro c13), if_neg c39, if_pos c39, if_neg c40, if_pos c40, if_neg c41, if_pos c41]; (repeat (first | rw [if_neg c41] | rw [if_neg c40] | rw [if_neg c39] | rw [if_neg (not_not_intro c13)] | rw [if_pos c13] | rw [if_neg c12])); done) | with_reducible rfl | (simp [rEv, rT, rO, rC, rC2, MR, if_neg c12, if_pos c12, if_pos c13, if_neg (not_not_intro c13), if_neg c39, if_pos c39, if_neg c40, if_pos c40, if_neg c41, if_pos c41]; done))
                  have hP : va_P g.1 vwCl (wM g a (MR m9 (rEv (mbf m9) n a9 r (mrd m9)))) H := by rw [e44]; exact hP
                  have hD : va_D A (wM g a (MR m9 (rEv (mbf m9) n a9 r (mrd m9)))) := by rw [e44]; exact hD
                  exact k_vret hx hb hr hlocks hP hD hS (Nat.le_of_ble_eq_true rfl) (Nat.le_of_ble_eq_true rfl) dX4_readsEvent_197
              ·
                exact absurd c41 (by omega)
      ·
        refine lv_aload_n hx hb dX4_readsEvent_91 rfl (lv_at hl 2 rfl) ?_
        refine va_get (D := g.1) (ci := 4) (v := .ref (a 5)) (C := RX4) (T := TX4) (N := 12) hx hb hts hiX4 hown hE.1 hP 0 rfl rfl 9 (by decide) f22 (fun _ h9 => h9) rfl dX4_readsEvent_92 ?_
        refine lv_iload_n hx hb dX4_readsEvent_95 rfl (lv_at hl 1 rfl) ?_
        refine lv_iconst (v := (nI 1)) hx hb dX4_readsEvent_96 (by decide) ?_
        refine lv_iadd hx hb dX4_readsEvent_97 ?_
        refine k_top (nI_add _ _) ?_
        refine lv_aload_n hx hb dX4_readsEvent_98 rfl (lv_at hl 2 rfl) ?_
        refine k_Vi (As := []) (r := (numV (mbf m9) n z11 z8)) hF (c_X4_number l g a (sMrd (sMat (sMiw m9 (nI z8)) (nI z11)) (upd (mrd m9) (3 * r) (nI (Bq (mbf m9) n a9)))) n z11 hn hln rfl (by omega) hbf (by omega) z8 rfl hz8) (cwV 0 hts gX4_readsEvent_X4_number rfl rfl rfl (by decide +kernel) ⟨Nat.le_of_ble_eq_true rfl, Nat.le_of_ble_eq_true rfl⟩) hE hP hD hS hA (k_pall _) ((k_pall _).symm) 0 rfl rfl rfl rfl hl.1 rfl (Nat.le_of_ble_eq_true rfl) dX4_readsEvent_99 ⟨Nat.le_of_ble_eq_true rfl, Nat.le_of_ble_eq_true rfl⟩ (fun H locs hP hD hS => ?_)
        have hP : va_P g.1 vwCl (wM g a (sMat (sMiw (sMrd m9 (upd (mrd m9) (3 * r) (nI (Bq (mbf m9) n a9)))) (nI (figW z8 (Bq (mbf m9) n z11) 1 9))) (nI (numA (mbf m9) n z11 z8)))) _ := hP
        have hD : va_D A (wM g a (sMat (sMiw (sMrd m9 (upd (mrd m9) (3 * r) (nI (Bq (mbf m9) n a9)))) (nI (figW z8 (Bq (mbf m9) n z11) 1 9))) (nI (numA (mbf m9) n z11 z8)))) := hD
        obtain ⟨z45, ez45⟩ : ∃ x : Nat, figW z8 (Bq (mbf m9) n z11) 1 9 = x := ⟨_, rfl⟩
        rw [ez45] at hP hD
        have hz45 : z45 < 2 := by rw [← ez45]; exact (figW_lt _ _ _ _)
        have hn46 := numA_le (mbf m9) n z11 z8
        obtain ⟨z47, ez47⟩ : ∃ x : Nat, numA (mbf m9) n z11 z8 = x := ⟨_, rfl⟩
        rw [ez47] at hP hD
        skip
        refine k_iast (f := (upd (mrd m9) (3 * r) (nI (Bq (mbf m9) n a9)))) (ws1 := (wM g a (sMrd (sMat (sMiw m9 (nI z45)) (nI z47)) (upd (upd (mrd m9) (3 * r) (nI (Bq (mbf m9) n a9))) ((3 * r) + 1) (numV (mbf m9) n z11 z8))))) hx hb hE hP hD hS 5 rfl ((3 * r) + 1) rfl (by omega) (by decide) rfl dX4_readsEvent_102 (fun H locs hP hD hS => ?_)
        refine lv_goto (tgt := 144) hx hb dX4_readsEvent_103 (by decide) ?_
        refine lv_iload_n hx hb dX4_readsEvent_144 rfl (lv_at hl 0 rfl) ?_
        refine lv_bipush (v := (nI 99)) hx hb dX4_readsEvent_145 (by decide) ?_
        refine k_eqN (tgt := 162) hx hb (Bq_lt31 hbf _) (by decide) dX4_readsEvent_147 (by decide) (fun c48 => ?_) (fun c48 => ?_)
        ·
          exact absurd c48 (by omega)
        ·
          refine lv_iload_n hx hb dX4_readsEvent_150 rfl (lv_at hl 0 rfl) ?_
          refine lv_bipush (v := (nI 108)) hx hb dX4_readsEvent_151 (by decide) ?_
          refine k_eqN (tgt := 162) hx hb (Bq_lt31 hbf _) (by decide) dX4_readsEvent_153 (by decide) (fun c49 => ?_) (fun c49 => ?_)
          ·
            exact absurd c49 (by omega)
          ·
            refine lv_iload_n hx hb dX4_readsEvent_156 rfl (lv_at hl 0 rfl) ?_
            refine lv_bipush (v := (nI 115)) hx hb dX4_readsEvent_157 (by decide) ?_
            refine k_neN (tgt := 176) hx hb (Bq_lt31 hbf _) (by decide) dX4_readsEvent_159 (by decide) (fun c50 => ?_) (fun c50 => ?_)
            ·
              refine lv_aload_n hx hb dX4_readsEvent_176 rfl (lv_at hl 2 rfl) ?_
              refine lv_dup hx hb dX4_readsEvent_177 rfl ?_
              refine va_get (D := g.1) (ci := 4) (v := .int (mrm m9)) (C := RX4) (T := TX4) (N := 12) hx hb hts hiX4 hown hE.1 hP 0 rfl rfl 10 (by decide) f129 (fun _ h9 => h9) rfl dX4_readsEvent_178 ?_
              refine k_top hrm ?_
              refine lv_aload_n hx hb dX4_readsEvent_181 rfl (lv_at hl 2 rfl) ?_
              refine va_get (D := g.1) (ci := 4) (v := .int (nI z45)) (C := RX4) (T := TX4) (N := 12) hx hb hts hiX4 hown hE.1 hP 0 rfl rfl 8 (by decide) f119 (fun _ h9 => h9) rfl dX4_readsEvent_182 ?_
              refine k_meet (x := .int (nI z45)) (pj := 193) (rest := [.int (nI r), .ref (a 0)]) (fun J51 => ?_) ?_
              ·
                refine k_if0 (tgt := 192) hx hb (Nat.lt_trans hz45 (by decide)) dX4_readsEvent_185 (by decide) (fun c52 => ?_) (fun c52 => ?_)
                ·
                  refine lv_iconst (v := (nI 0)) hx hb dX4_readsEvent_192 (by decide) ?_
                  exact k_top (congrArg nI (by have h8 : z45 < 2 := hz45; omega)) J51
                ·
                  refine lv_iconst (v := (nI 1)) hx hb dX4_readsEvent_188 (by decide) ?_
                  refine lv_goto (tgt := 193) hx hb dX4_readsEvent_189 (by decide) ?_
                  exact k_top (congrArg nI (by have h8 : z45 < 2 := hz45; omega)) J51
              ·
                refine lv_iadd hx hb dX4_readsEvent_193 ?_
                refine k_top (nI_add _ _) ?_
                refine va_put (D := g.1) (ci := 4) (v := .int (nI (r + z45))) (ty := .int) (C := RX4) (T := TX4) (N := 12) hx hb hts hiX4 tyX4 tyX4_ok nmX4 hown hE.1 hP hD hS 0 rfl rfl 10 (by decide) f129 (fun _ h9 => h9) rfl (tyX4_ok 10 (by decide)) rfl rfl (Nat.le_of_ble_eq_true rfl) dX4_readsEvent_194 (fun H locs hP hD hS => ?_)
                have hP : va_P g.1 vwCl (wM g a (sMrm (sMrd (sMat (sMiw m9 (nI z45)) (nI z47)) (upd (upd (mrd m9) (3 * r) (nI (Bq (mbf m9) n a9))) ((3 * r) + 1) (numV (mbf m9) n z11 z8))) (nI (r + z45)))) _ := hP
                have hD : va_D A (wM g a (sMrm (sMrd (sMat (sMiw m9 (nI z45)) (nI z47)) (upd (upd (mrd m9) (3 * r) (nI (Bq (mbf m9) n a9))) ((3 * r) + 1) (numV (mbf m9) n z11 z8))) (nI (r + z45)))) := hD
                have e53 : (MR m9 (rEv (mbf m9) n a9 r (mrd m9))) = (sMrm (sMrd (sMat (sMiw m9 (nI z45)) (nI z47)) (upd (upd (mrd m9) (3 * r) (nI (Bq (mbf m9) n a9))) ((3 * r) + 1) (numV (mbf m9) n z11 z8))) (nI (r + z45))) := (by subst ez47; subst ez45; subst ez11; subst ez8; first | (simp only [rEv, rT, rO, rC, rC2, MR, if_pos c12, if_neg (not_not_intro c12), if_neg c48, if_pos c48, if_neg c49, if_pos c49, if_neg c50, if_pos c50]; done) | (simp only [rEv, rT, rO, rC, rC2, MR, if_pos c12, if_neg (not_not_intro c12), if_neg c48, if_pos c48, if_neg c49, if_pos c49, if_neg c50, if_pos c50]; with_reducible rfl) | (simp only [rEv, rT, rO, rC, rC2, MR, if_pos c12, if_neg (not_not_intro c12), if_neg c48, if_pos c48, if_neg c49, if_pos c49, if_neg c50, if_pos c50]; (repeat (first | rw [if_neg c50] | rw [if_neg c49] | rw [if_neg c48] | rw [if_neg (not_not_intro c12)] | rw [if_pos c12])); done) | with_reducible rfl | (simp [rEv, rT, rO, rC, rC2, MR, if_pos c12, if_neg (not_not_intro c12), if_neg c48, if_pos c48, if_neg c49, if_pos c49, if_neg c50, if_pos c50]; done))
                have hP : va_P g.1 vwCl (wM g a (MR m9 (rEv (mbf m9) n a9 r (mrd m9)))) H := by rw [e53]; exact hP
                have hD : va_D A (wM g a (MR m9 (rEv (mbf m9) n a9 r (mrd m9)))) := by rw [e53]; exact hD
                exact k_vret hx hb hr hlocks hP hD hS (Nat.le_of_ble_eq_true rfl) (Nat.le_of_ble_eq_true rfl) dX4_readsEvent_197
            ·
              exact absurd c50 (by omega)
