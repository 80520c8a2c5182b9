set_option maxHeartbeats 4000000 in
set_option maxRecDepth 100000 in
theorem c_X4_plays (l : Launch) (g : kG) (a : Nat → Nat) (m9 : MSt) (c9 : Nat) (hc6 : c9 < 6) : KI l yX4_plays wsX4_plays ({ frames := 2, cells := 0, slots := 0, locals := 43 }) g [.ref (a 0), .int (nI c9)] (wM g a m9) (MplayQ (ms m9) c9 8) (wM g a (sMs m9 (MplayN (ms m9) c9 8))) 0 0 := by
  refine k_begin (cc := cX4_plays) (maxL := 6) (ret := (some .int)) (Qc := fun A => kQi g (MplayQ (ms m9) c9 8) (wM g a (sMs m9 (MplayN (ms m9) c9 8))) A) (by decide) rfl (Nat.le_of_ble_eq_true rfl) ?_
  intro p e s m below meth c A ls hF hr hlocks hin hE hP hD hS hA hl
  obtain ⟨hx, hb, hml, hown, hts⟩ := id hF
  have hown : s.vm.findClass RX4 = some m.cls := hown
  have hl : lv_has ls 6 [(0, .ref (a 0)), (1, .int (nI c9))] := hl
  have hiX4 : ∀ w ∈ wsX40, w ∈ wsX4_plays := fun _ h => List.mem_cons_of_mem _ (List.mem_append_right _ (h))
  have f7 : (Cond.fieldLink RX4 7 "ConcertUsherModel" "s" "[I").before _ s = true := hts _ (List.mem_of_getElem? (i := 1) rfl)
  refine lv_iconst (v := (nI 0)) hx hb dX4_plays_0 (by decide) ?_
  refine lv_istore_n (lv' := [(2, .int (nI 0)), (0, .ref (a 0)), (1, .int (nI c9))]) hx hb dX4_plays_1 rfl hl (by decide) rfl (fun ls hl => ?_)
  refine lv_iconst (v := (nI 0)) hx hb dX4_plays_2 (by decide) ?_
  refine lv_istore_n (lv' := [(3, .int (nI 0)), (2, .int (nI 0)), (0, .ref (a 0)), (1, .int (nI c9))]) hx hb dX4_plays_3 rfl hl (by decide) rfl (fun ls hl => ?_)
  refine k_loop (N := 8) (Inv := fun (i : Nat) (H : Heap) (locs : List Loc) (ls : Array Slot) => va_P g.1 vwCl (wM g a (sMs m9 (MplayN (ms m9) c9 i))) H ∧ va_D A (wM g a (sMs m9 (MplayN (ms m9) c9 i))) ∧ va_S A s.heap H locs ∧ lv_has ls 6 [(3, .int (nI i)), (2, .int (MplayQ (ms m9) c9 i)), (0, .ref (a 0)), (1, .int (nI c9))]) 0 (Nat.zero_le _) ⟨hP, hD, hS, lv_sub hl [0, 1, 2, 3] rfl⟩ (fun i hle2 ih1 H locs ls hinv => ?_)
  obtain ⟨hP, hD, hS, hl⟩ := hinv
  refine lv_iload_n hx hb dX4_plays_4 rfl (lv_at hl 0 rfl) ?_
  refine lv_bipush (v := (nI 8)) hx hb dX4_plays_5 (by decide) ?_
  refine k_geN (tgt := 120) hx hb (by omega) (by decide) dX4_plays_7 (by decide) (fun c3 => ?_) (fun c3 => ?_)
  ·
    obtain rfl : 8 = i := by omega
    refine lv_iload_n hx hb dX4_plays_120 rfl (lv_at hl 1 rfl) ?_
    have hP : va_P g.1 vwCl (wM g a (sMs m9 (MplayN (ms m9) c9 8))) _ := hP
    have hD : va_D A (wM g a (sMs m9 (MplayN (ms m9) c9 8))) := hD
    exact k_iret hx hb hr hlocks rfl rfl hP hD hS (Nat.le_of_ble_eq_true rfl) (Nat.le_of_ble_eq_true rfl) dX4_plays_121
  ·
    refine lv_aload_n hx hb dX4_plays_10 rfl (lv_at hl 2 rfl) ?_
    refine lv_iload_n hx hb dX4_plays_11 rfl (lv_at hl 0 rfl) ?_
    refine lv_iload_n hx hb dX4_plays_12 rfl (lv_at hl 3 rfl) ?_
    refine k_Vi (As := [.int (nI i), .int (nI c9)]) (r := (bI (Mgoes (MplayN (ms m9) c9 i) i c9))) hF (c_X4_goes l g a (sMs m9 (MplayN (ms m9) c9 i)) i c9 (by omega) (by omega)) (cwV 2 hts gX4_plays_X4_goes rfl rfl rfl (by decide +kernel) ⟨Nat.le_of_ble_eq_true rfl, Nat.le_of_ble_eq_true rfl⟩) hE hP hD hS hA (k_pall _) ((k_pall _).symm) 0 rfl rfl rfl rfl hl.1 rfl (Nat.le_of_ble_eq_true rfl) dX4_plays_13 ⟨Nat.le_of_ble_eq_true rfl, Nat.le_of_ble_eq_true rfl⟩ (fun H locs hP hD hS => ?_)
    have hP : va_P g.1 vwCl (wM g a (sMs m9 (MplayN (ms m9) c9 i))) _ := hP
    have hD : va_D A (wM g a (sMs m9 (MplayN (ms m9) c9 i))) := hD
    refine lv_istore (lv' := [(4, .int (bI (Mgoes (MplayN (ms m9) c9 i) i c9))), (3, .int (nI i)), (2, .int (MplayQ (ms m9) c9 i)), (0, .ref (a 0)), (1, .int (nI c9))]) hx hb dX4_plays_16 hl (by decide) rfl (fun ls hl => ?_)
    refine lv_aload_n hx hb dX4_plays_18 rfl (lv_at hl 3 rfl) ?_
    refine lv_iload_n hx hb dX4_plays_19 rfl (lv_at hl 1 rfl) ?_
    refine lv_iload_n hx hb dX4_plays_20 rfl (lv_at hl 4 rfl) ?_
    refine k_Vi (As := [.int (nI i), .int (nI c9)]) (r := (bI (Mwants (MplayN (ms m9) c9 i) i c9))) hF (c_X4_wants l g a (sMs m9 (MplayN (ms m9) c9 i)) i c9 (by omega) (by omega)) (cwV 2 hts gX4_plays_X4_wants rfl rfl rfl (by decide +kernel) ⟨Nat.le_of_ble_eq_true rfl, Nat.le_of_ble_eq_true rfl⟩) hE hP hD hS hA (k_pall _) ((k_pall _).symm) 0 rfl rfl rfl rfl hl.1 rfl (Nat.le_of_ble_eq_true rfl) dX4_plays_21 ⟨Nat.le_of_ble_eq_true rfl, Nat.le_of_ble_eq_true rfl⟩ (fun H locs hP hD hS => ?_)
    have hP : va_P g.1 vwCl (wM g a (sMs m9 (MplayN (ms m9) c9 i))) _ := hP
    have hD : va_D A (wM g a (sMs m9 (MplayN (ms m9) c9 i))) := hD
    refine lv_istore (lv' := [(5, .int (bI (Mwants (MplayN (ms m9) c9 i) i c9))), (4, .int (bI (Mgoes (MplayN (ms m9) c9 i) i c9))), (3, .int (nI i)), (2, .int (MplayQ (ms m9) c9 i)), (0, .ref (a 0)), (1, .int (nI c9))]) hx hb dX4_plays_24 hl (by decide) rfl (fun ls hl => ?_)
    refine lv_aload_n hx hb dX4_plays_26 rfl (lv_at hl 4 rfl) ?_
    refine va_get (D := g.1) (ci := 4) (v := .ref (a 1)) (C := RX4) (T := TX4) (N := 12) hx hb hts hiX4 hown hE.1 hP 0 rfl rfl 1 (by decide) f7 (fun _ h9 => h9) rfl dX4_plays_27 ?_
    refine lv_bipush (v := (nI 7)) hx hb dX4_plays_30 (by decide) ?_
    refine lv_dup2_11 hx hb dX4_plays_32 rfl rfl ?_
    refine k_iald (f := (MplayN (ms m9) c9 i)) hx hb hE hP 1 rfl 7 rfl (by decide) (by decide) dX4_plays_33 ?_
    refine k_meet (x := .int (bI ((Mgoes (MplayN (ms m9) c9 i) i c9) ∧ (Mwants (MplayN (ms m9) c9 i) i c9)))) (pj := 49) (rest := [.int ((MplayN (ms m9) c9 i) 7), .int (nI 7), .ref (a 1)]) (fun J4 => ?_) ?_
    ·
      refine lv_iload hx hb dX4_plays_34 (lv_at hl 1 rfl) ?_
      refine k_ifeqB (tgt := 48) hx hb dX4_plays_36 (by decide) (fun c5 => ?_) (fun c5 => ?_)
      ·
        refine lv_iconst (v := (nI 0)) hx hb dX4_plays_48 (by decide) ?_
        exact k_top (bI_f (fun h9 => by first | exact absurd h9 (by assumption) | exact absurd h9.1 (by assumption) | exact absurd h9.2 (by assumption) | exact h9.1 (by assumption) | exact h9.2 (by assumption))).symm J4
      ·
        refine lv_iload hx hb dX4_plays_39 (lv_at hl 0 rfl) ?_
        refine k_ifeqB (tgt := 48) hx hb dX4_plays_41 (by decide) (fun c6 => ?_) (fun c6 => ?_)
        ·
          refine lv_iconst (v := (nI 0)) hx hb dX4_plays_48 (by decide) ?_
          exact k_top (bI_f (fun h9 => by first | exact absurd h9 (by assumption) | exact absurd h9.1 (by assumption) | exact absurd h9.2 (by assumption) | exact h9.1 (by assumption) | exact h9.2 (by assumption))).symm J4
        ·
          refine lv_iconst (v := (nI 1)) hx hb dX4_plays_44 (by decide) ?_
          refine lv_goto (tgt := 49) hx hb dX4_plays_45 (by decide) ?_
          exact k_top (bI_t (by first | assumption | exact ⟨by assumption, by assumption⟩)).symm J4
    ·
      refine lv_iadd hx hb dX4_plays_49 ?_
      refine k_iast (f := (MplayN (ms m9) c9 i)) (ws1 := (wM g a (sMs m9 (upd (MplayN (ms m9) c9 i) 7 (((MplayN (ms m9) c9 i) 7) + (bI ((Mgoes (MplayN (ms m9) c9 i) i c9) ∧ (Mwants (MplayN (ms m9) c9 i) i c9)))))))) hx hb hE hP hD hS 1 rfl 7 rfl (by decide) (by decide) rfl dX4_plays_50 (fun H locs hP hD hS => ?_)
      refine lv_aload_n hx hb dX4_plays_51 rfl (lv_at hl 4 rfl) ?_
      refine va_get (D := g.1) (ci := 4) (v := .ref (a 1)) (C := RX4) (T := TX4) (N := 12) hx hb hts hiX4 hown hE.1 hP 0 rfl rfl 1 (by decide) f7 (fun _ h9 => h9) rfl dX4_plays_52 ?_
      refine lv_bipush (v := (nI 8)) hx hb dX4_plays_55 (by decide) ?_
      refine lv_dup2_11 hx hb dX4_plays_57 rfl rfl ?_
      refine k_iald (f := (upd (MplayN (ms m9) c9 i) 7 (((MplayN (ms m9) c9 i) 7) + (bI ((Mgoes (MplayN (ms m9) c9 i) i c9) ∧ (Mwants (MplayN (ms m9) c9 i) i c9)))))) hx hb hE hP 1 rfl 8 rfl (by decide) (by decide) dX4_plays_58 ?_
      refine k_meet (x := .int (bI ((Mgoes (MplayN (ms m9) c9 i) i c9) ∧ ¬ (Mwants (MplayN (ms m9) c9 i) i c9)))) (pj := 74) (rest := [.int ((upd (MplayN (ms m9) c9 i) 7 (((MplayN (ms m9) c9 i) 7) + (bI ((Mgoes (MplayN (ms m9) c9 i) i c9) ∧ (Mwants (MplayN (ms m9) c9 i) i c9))))) 8), .int (nI 8), .ref (a 1)]) (fun J7 => ?_) ?_
      ·
        refine lv_iload hx hb dX4_plays_59 (lv_at hl 1 rfl) ?_
        refine k_ifeqB (tgt := 73) hx hb dX4_plays_61 (by decide) (fun c8 => ?_) (fun c8 => ?_)
        ·
          refine lv_iconst (v := (nI 0)) hx hb dX4_plays_73 (by decide) ?_
          exact k_top (bI_f (fun h9 => by first | exact absurd h9 (by assumption) | exact absurd h9.1 (by assumption) | exact absurd h9.2 (by assumption) | exact h9.1 (by assumption) | exact h9.2 (by assumption))).symm J7
        ·
          refine lv_iload hx hb dX4_plays_64 (lv_at hl 0 rfl) ?_
          refine k_ifneB (tgt := 73) hx hb dX4_plays_66 (by decide) (fun c10 => ?_) (fun c10 => ?_)
          ·
            refine lv_iconst (v := (nI 0)) hx hb dX4_plays_73 (by decide) ?_
            exact k_top (bI_f (fun h9 => by first | exact absurd h9 (by assumption) | exact absurd h9.1 (by assumption) | exact absurd h9.2 (by assumption) | exact h9.1 (by assumption) | exact h9.2 (by assumption))).symm J7
          ·
            refine lv_iconst (v := (nI 1)) hx hb dX4_plays_69 (by decide) ?_
            refine lv_goto (tgt := 74) hx hb dX4_plays_70 (by decide) ?_
            exact k_top (bI_t (by first | assumption | exact ⟨by assumption, by assumption⟩)).symm J7
      ·
        refine lv_iadd hx hb dX4_plays_74 ?_
        refine k_iast (f := (upd (MplayN (ms m9) c9 i) 7 (((MplayN (ms m9) c9 i) 7) + (bI ((Mgoes (MplayN (ms m9) c9 i) i c9) ∧ (Mwants (MplayN (ms m9) c9 i) i c9)))))) (ws1 := (wM g a (sMs m9 (upd (upd (MplayN (ms m9) c9 i) 7 (((MplayN (ms m9) c9 i) 7) + (bI ((Mgoes (MplayN (ms m9) c9 i) i c9) ∧ (Mwants (MplayN (ms m9) c9 i) i c9))))) 8 (((upd (MplayN (ms m9) c9 i) 7 (((MplayN (ms m9) c9 i) 7) + (bI ((Mgoes (MplayN (ms m9) c9 i) i c9) ∧ (Mwants (MplayN (ms m9) c9 i) i c9))))) 8) + (bI ((Mgoes (MplayN (ms m9) c9 i) i c9) ∧ ¬ (Mwants (MplayN (ms m9) c9 i) i c9)))))))) hx hb hE hP hD hS 1 rfl 8 rfl (by decide) (by decide) rfl dX4_plays_75 (fun H locs hP hD hS => ?_)
        refine lv_aload_n hx hb dX4_plays_76 rfl (lv_at hl 4 rfl) ?_
        refine va_get (D := g.1) (ci := 4) (v := .ref (a 1)) (C := RX4) (T := TX4) (N := 12) hx hb hts hiX4 hown hE.1 hP 0 rfl rfl 1 (by decide) f7 (fun _ h9 => h9) rfl dX4_plays_77 ?_
        refine lv_bipush (v := (nI 9)) hx hb dX4_plays_80 (by decide) ?_
        refine lv_dup2_11 hx hb dX4_plays_82 rfl rfl ?_
        refine k_iald (f := (upd (upd (MplayN (ms m9) c9 i) 7 (((MplayN (ms m9) c9 i) 7) + (bI ((Mgoes (MplayN (ms m9) c9 i) i c9) ∧ (Mwants (MplayN (ms m9) c9 i) i c9))))) 8 (((upd (MplayN (ms m9) c9 i) 7 (((MplayN (ms m9) c9 i) 7) + (bI ((Mgoes (MplayN (ms m9) c9 i) i c9) ∧ (Mwants (MplayN (ms m9) c9 i) i c9))))) 8) + (bI ((Mgoes (MplayN (ms m9) c9 i) i c9) ∧ ¬ (Mwants (MplayN (ms m9) c9 i) i c9)))))) hx hb hE hP 1 rfl 9 rfl (by decide) (by decide) dX4_plays_83 ?_
        refine k_meet (x := .int (bI (¬ (Mgoes (MplayN (ms m9) c9 i) i c9) ∧ (Mwants (MplayN (ms m9) c9 i) i c9)))) (pj := 99) (rest := [.int ((upd (upd (MplayN (ms m9) c9 i) 7 (((MplayN (ms m9) c9 i) 7) + (bI ((Mgoes (MplayN (ms m9) c9 i) i c9) ∧ (Mwants (MplayN (ms m9) c9 i) i c9))))) 8 (((upd (MplayN (ms m9) c9 i) 7 (((MplayN (ms m9) c9 i) 7) + (bI ((Mgoes (MplayN (ms m9) c9 i) i c9) ∧ (Mwants (MplayN (ms m9) c9 i) i c9))))) 8) + (bI ((Mgoes (MplayN (ms m9) c9 i) i c9) ∧ ¬ (Mwants (MplayN (ms m9) c9 i) i c9))))) 9), .int (nI 9), .ref (a 1)]) (fun J11 => ?_) ?_
        ·
          refine lv_iload hx hb dX4_plays_84 (lv_at hl 1 rfl) ?_
          refine k_ifneB (tgt := 98) hx hb dX4_plays_86 (by decide) (fun c12 => ?_) (fun c12 => ?_)
          ·
            refine lv_iconst (v := (nI 0)) hx hb dX4_plays_98 (by decide) ?_
            exact k_top (bI_f (fun h9 => by first | exact absurd h9 (by assumption) | exact absurd h9.1 (by assumption) | exact absurd h9.2 (by assumption) | exact h9.1 (by assumption) | exact h9.2 (by assumption))).symm J11
          ·
            refine lv_iload hx hb dX4_plays_89 (lv_at hl 0 rfl) ?_
            refine k_ifeqB (tgt := 98) hx hb dX4_plays_91 (by decide) (fun c13 => ?_) (fun c13 => ?_)
            ·
              refine lv_iconst (v := (nI 0)) hx hb dX4_plays_98 (by decide) ?_
              exact k_top (bI_f (fun h9 => by first | exact absurd h9 (by assumption) | exact absurd h9.1 (by assumption) | exact absurd h9.2 (by assumption) | exact h9.1 (by assumption) | exact h9.2 (by assumption))).symm J11
            ·
              refine lv_iconst (v := (nI 1)) hx hb dX4_plays_94 (by decide) ?_
              refine lv_goto (tgt := 99) hx hb dX4_plays_95 (by decide) ?_
              exact k_top (bI_t (by first | assumption | exact ⟨by assumption, by assumption⟩)).symm J11
        ·
          refine lv_iadd hx hb dX4_plays_99 ?_
          refine k_iast (f := (upd (upd (MplayN (ms m9) c9 i) 7 (((MplayN (ms m9) c9 i) 7) + (bI ((Mgoes (MplayN (ms m9) c9 i) i c9) ∧ (Mwants (MplayN (ms m9) c9 i) i c9))))) 8 (((upd (MplayN (ms m9) c9 i) 7 (((MplayN (ms m9) c9 i) 7) + (bI ((Mgoes (MplayN (ms m9) c9 i) i c9) ∧ (Mwants (MplayN (ms m9) c9 i) i c9))))) 8) + (bI ((Mgoes (MplayN (ms m9) c9 i) i c9) ∧ ¬ (Mwants (MplayN (ms m9) c9 i) i c9)))))) (ws1 := (wM g a (sMs m9 (upd (upd (upd (MplayN (ms m9) c9 i) 7 (((MplayN (ms m9) c9 i) 7) + (bI ((Mgoes (MplayN (ms m9) c9 i) i c9) ∧ (Mwants (MplayN (ms m9) c9 i) i c9))))) 8 (((upd (MplayN (ms m9) c9 i) 7 (((MplayN (ms m9) c9 i) 7) + (bI ((Mgoes (MplayN (ms m9) c9 i) i c9) ∧ (Mwants (MplayN (ms m9) c9 i) i c9))))) 8) + (bI ((Mgoes (MplayN (ms m9) c9 i) i c9) ∧ ¬ (Mwants (MplayN (ms m9) c9 i) i c9))))) 9 (((upd (upd (MplayN (ms m9) c9 i) 7 (((MplayN (ms m9) c9 i) 7) + (bI ((Mgoes (MplayN (ms m9) c9 i) i c9) ∧ (Mwants (MplayN (ms m9) c9 i) i c9))))) 8 (((upd (MplayN (ms m9) c9 i) 7 (((MplayN (ms m9) c9 i) 7) + (bI ((Mgoes (MplayN (ms m9) c9 i) i c9) ∧ (Mwants (MplayN (ms m9) c9 i) i c9))))) 8) + (bI ((Mgoes (MplayN (ms m9) c9 i) i c9) ∧ ¬ (Mwants (MplayN (ms m9) c9 i) i c9))))) 9) + (bI (¬ (Mgoes (MplayN (ms m9) c9 i) i c9) ∧ (Mwants (MplayN (ms m9) c9 i) i c9)))))))) hx hb hE hP hD hS 1 rfl 9 rfl (by decide) (by decide) rfl dX4_plays_100 (fun H locs hP hD hS => ?_)
          refine lv_iload_n hx hb dX4_plays_101 rfl (lv_at hl 3 rfl) ?_
          refine lv_iload hx hb dX4_plays_102 (lv_at hl 1 rfl) ?_
          refine k_meet (x := .int (bI (Mgoes (MplayN (ms m9) c9 i) i c9))) (pj := 112) (rest := [.int (MplayQ (ms m9) c9 i)]) (fun J14 => ?_) ?_
          ·
            refine k_ifeqB (tgt := 111) hx hb dX4_plays_104 (by decide) (fun c15 => ?_) (fun c15 => ?_)
            ·
              refine lv_iconst (v := (nI 0)) hx hb dX4_plays_111 (by decide) ?_
              exact k_top (by first | (simp only [bI, if_neg (Nat.not_le.mpr c3), if_pos (Nat.not_le.mpr c3), if_neg c15, if_pos c15]; done) | (simp only [bI, if_neg (Nat.not_le.mpr c3), if_pos (Nat.not_le.mpr c3), if_neg c15, if_pos c15]; with_reducible rfl) | with_reducible rfl | (simp [bI, if_neg (Nat.not_le.mpr c3), if_pos (Nat.not_le.mpr c3), if_neg c15, if_pos c15]; done)) J14
            ·
              refine lv_iconst (v := (nI 1)) hx hb dX4_plays_107 (by decide) ?_
              refine lv_goto (tgt := 112) hx hb dX4_plays_108 (by decide) ?_
              exact k_top (by first | (simp only [bI, if_neg (Nat.not_le.mpr c3), if_pos (Nat.not_le.mpr c3), if_pos c15, if_neg (not_not_intro c15)]; done) | (simp only [bI, if_neg (Nat.not_le.mpr c3), if_pos (Nat.not_le.mpr c3), if_pos c15, if_neg (not_not_intro c15)]; with_reducible rfl) | with_reducible rfl | (simp [bI, if_neg (Nat.not_le.mpr c3), if_pos (Nat.not_le.mpr c3), if_pos c15, if_neg (not_not_intro c15)]; done)) J14
          ·
            refine lv_iadd hx hb dX4_plays_112 ?_
            refine lv_istore_n (lv' := [(2, .int ((MplayQ (ms m9) c9 i) + (bI (Mgoes (MplayN (ms m9) c9 i) i c9)))), (5, .int (bI (Mwants (MplayN (ms m9) c9 i) i c9))), (4, .int (bI (Mgoes (MplayN (ms m9) c9 i) i c9))), (3, .int (nI i)), (0, .ref (a 0)), (1, .int (nI c9))]) hx hb dX4_plays_113 rfl hl (by decide) rfl (fun ls hl => ?_)
            refine lv_iinc (v := (nI (i + 1))) (lv' := [(3, .int (nI (i + 1))), (2, .int ((MplayQ (ms m9) c9 i) + (bI (Mgoes (MplayN (ms m9) c9 i) i c9)))), (5, .int (bI (Mwants (MplayN (ms m9) c9 i) i c9))), (4, .int (bI (Mgoes (MplayN (ms m9) c9 i) i c9))), (0, .ref (a 0)), (1, .int (nI c9))]) hx hb dX4_plays_114 hl (k := 3) rfl (k_inc1 _) (by decide) rfl (fun ls hl => ?_)
            refine lv_goto (tgt := 4) hx hb dX4_plays_117 (by decide) ?_
            have e16 : (sMs m9 (MplayN (ms m9) c9 (i + 1))) = (sMs m9 (upd (upd (upd (MplayN (ms m9) c9 i) 7 (((MplayN (ms m9) c9 i) 7) + (bI ((Mgoes (MplayN (ms m9) c9 i) i c9) ∧ (Mwants (MplayN (ms m9) c9 i) i c9))))) 8 (((upd (MplayN (ms m9) c9 i) 7 (((MplayN (ms m9) c9 i) 7) + (bI ((Mgoes (MplayN (ms m9) c9 i) i c9) ∧ (Mwants (MplayN (ms m9) c9 i) i c9))))) 8) + (bI ((Mgoes (MplayN (ms m9) c9 i) i c9) ∧ ¬ (Mwants (MplayN (ms m9) c9 i) i c9))))) 9 (((upd (upd (MplayN (ms m9) c9 i) 7 (((MplayN (ms m9) c9 i) 7) + (bI ((Mgoes (MplayN (ms m9) c9 i) i c9) ∧ (Mwants (MplayN (ms m9) c9 i) i c9))))) 8 (((upd (MplayN (ms m9) c9 i) 7 (((MplayN (ms m9) c9 i) 7) + (bI ((Mgoes (MplayN (ms m9) c9 i) i c9) ∧ (Mwants (MplayN (ms m9) c9 i) i c9))))) 8) + (bI ((Mgoes (MplayN (ms m9) c9 i) i c9) ∧ ¬ (Mwants (MplayN (ms m9) c9 i) i c9))))) 9) + (bI (¬ (Mgoes (MplayN (ms m9) c9 i) i c9) ∧ (Mwants (MplayN (ms m9) c9 i) i c9)))))) := (by first | (simp only [MplayN, MplayQ, Mp1, if_neg (Nat.not_le.mpr c3), if_pos (Nat.not_le.mpr c3)]; done) | (simp only [MplayN, MplayQ, Mp1, if_neg (Nat.not_le.mpr c3), if_pos (Nat.not_le.mpr c3)]; with_reducible rfl) | with_reducible rfl | (simp [MplayN, MplayQ, Mp1, if_neg (Nat.not_le.mpr c3), if_pos (Nat.not_le.mpr c3)]; done))
            have e17 : (MplayQ (ms m9) c9 (i + 1)) = ((MplayQ (ms m9) c9 i) + (bI (Mgoes (MplayN (ms m9) c9 i) i c9))) := (by first | (simp only [MplayN, MplayQ, Mp1, bI, if_neg (Nat.not_le.mpr c3), if_pos (Nat.not_le.mpr c3)]; done) | (simp only [MplayN, MplayQ, Mp1, bI, if_neg (Nat.not_le.mpr c3), if_pos (Nat.not_le.mpr c3)]; with_reducible rfl) | with_reducible rfl | (simp [MplayN, MplayQ, Mp1, bI, if_neg (Nat.not_le.mpr c3), if_pos (Nat.not_le.mpr c3)]; done))
            exact ih1 _ _ _ (by omega) ⟨(by rw [e16]; exact hP), (by rw [e16]; exact hD), hS, (by rw [e17]; exact lv_sub hl [0, 1, 4, 5] rfl)⟩
set_option maxHeartbeats 4000000 in
set_option maxRecDepth 100000 in
theorem c_X4_play (l : Launch) (g : kG) (a : Nat → Nat) (m9 : MSt) (j : Nat) (hj : j ≤ 6) (hjm : msm m9 = nI j) (con : Int32) : KI l yX4_play wsX4_play ({ frames := 3, cells := 0, slots := 0, locals := 68 }) g [.ref (a 0), .int con] (wM g a m9) (MplayR con m9) (wM g a (MplayS j con m9)) 0 0 := by
  refine k_begin (cc := cX4_play) (maxL := 2) (ret := (some .int)) (Qc := fun A => kQi g (MplayR con m9) (wM g a (MplayS j con m9)) A) (by decide) rfl (Nat.le_of_ble_eq_true rfl) ?_
  intro p e s m below meth c A ls hF hr hlocks hin hE hP hD hS hA hl
  obtain ⟨hx, hb, hml, hown, hts⟩ := id hF
  have hown : s.vm.findClass RX4 = some m.cls := hown
  have hl : lv_has ls 2 [(0, .ref (a 0)), (1, .int con)] := hl
  have hiX4 : ∀ w ∈ wsX40, w ∈ wsX4_play := fun _ h => List.mem_cons_of_mem _ (List.mem_append_right _ (h))
  have f25 : (Cond.fieldLink RX4 25 "ConcertUsherModel" "thrown" "I").before _ s = true := hts _ (List.mem_of_getElem? (i := 1) rfl)
  refine lv_aload_n hx hb dX4_play_0 rfl (lv_at hl 0 rfl) ?_
  refine lv_iconst (v := (nI 0)) hx hb dX4_play_1 (by decide) ?_
  refine va_put (D := g.1) (ci := 4) (v := .int (nI 0)) (ty := .int) (C := RX4) (T := TX4) (N := 12) hx hb hts hiX4 tyX4 tyX4_ok nmX4 hown hE.1 hP hD hS 0 rfl rfl 0 (by decide) f25 (fun _ h9 => h9) rfl (tyX4_ok 0 (by decide)) rfl rfl (Nat.le_of_ble_eq_true rfl) dX4_play_2 (fun H locs hP hD hS => ?_)
  have hP : va_P g.1 vwCl (wM g a (sMth m9 (nI 0))) _ := hP
  have hD : va_D A (wM g a (sMth m9 (nI 0))) := hD
  refine lv_iload_n hx hb dX4_play_5 rfl (lv_at hl 1 rfl) ?_
  refine k_Si (w0 := []) (w1 := []) (As := [.int con]) (r := (bI (nI 0 ≤ con ∧ con ≤ nI 5))) hF (c_X4_isConcert l g con) (va_cwS 1 hts gX4_play_X4_isConcert rfl rfl rfl (by decide +kernel) ⟨Nat.le_of_ble_eq_true rfl, Nat.le_of_ble_eq_true rfl⟩) hE hP hD hS hA (List.Perm.refl _) (List.Perm.refl _) rfl hl.1 rfl (Nat.le_of_ble_eq_true rfl) dX4_play_6 ⟨Nat.le_of_ble_eq_true rfl, Nat.le_of_ble_eq_true rfl⟩ (fun H locs hP hD hS => ?_)
  have hP : va_P g.1 vwCl (wM g a (sMth m9 (nI 0))) _ := hP
  have hD : va_D A (wM g a (sMth m9 (nI 0))) := hD
  refine k_ifneB (tgt := 18) hx hb dX4_play_9 (by decide) (fun c1 => ?_) (fun c1 => ?_)
  ·
    obtain ⟨c9, hc9, hc9e⟩ := in_nat (by decide) (by decide) c1
    have hc9c : con.toNatClampNeg = c9 := cl_eq hc9e (by omega)
    refine lv_aload_n hx hb dX4_play_18 rfl (lv_at hl 0 rfl) ?_
    refine k_Vv (As := []) hF (c_X4_saves l g a (sMth m9 (nI 0)) j (by omega) hjm) (cwV 0 hts gX4_play_X4_saves rfl rfl rfl (by decide +kernel) ⟨Nat.le_of_ble_eq_true rfl, Nat.le_of_ble_eq_true rfl⟩) hE hP hD hS hA (k_pall _) ((k_pall _).symm) 0 rfl rfl rfl rfl hl.1 rfl (Nat.le_of_ble_eq_true rfl) dX4_play_19 ⟨Nat.le_of_ble_eq_true rfl, Nat.le_of_ble_eq_true rfl⟩ (fun H locs hP hD hS => ?_)
    have hP : va_P g.1 vwCl (wM g a (sMsm (sMsv (sMth m9 (nI 0)) (Msv (ms m9) (msv m9) j)) (nI (kSz j)))) _ := hP
    have hD : va_D A (wM g a (sMsm (sMsv (sMth m9 (nI 0)) (Msv (ms m9) (msv m9) j)) (nI (kSz j)))) := hD
    refine lv_aload_n hx hb dX4_play_22 rfl (lv_at hl 0 rfl) ?_
    refine lv_iload_n hx hb dX4_play_23 rfl (lv_at hl 1 rfl) ?_
    refine k_top hc9e ?_
    refine k_Vi (As := [.int (nI c9)]) (r := (MplayQ (ms m9) c9 8)) hF (c_X4_plays l g a (sMsm (sMsv (sMth m9 (nI 0)) (Msv (ms m9) (msv m9) j)) (nI (kSz j))) c9 (by omega)) (cwV 1 hts gX4_play_X4_plays rfl rfl rfl (by decide +kernel) ⟨Nat.le_of_ble_eq_true rfl, Nat.le_of_ble_eq_true rfl⟩) hE hP hD hS hA (k_pall _) ((k_pall _).symm) 0 rfl rfl rfl rfl hl.1 rfl (Nat.le_of_ble_eq_true rfl) dX4_play_24 ⟨Nat.le_of_ble_eq_true rfl, Nat.le_of_ble_eq_true rfl⟩ (fun H locs hP hD hS => ?_)
    have hP : va_P g.1 vwCl (wM g a (sMs (sMsm (sMsv (sMth m9 (nI 0)) (Msv (ms m9) (msv m9) j)) (nI (kSz j))) (MplayN (ms m9) c9 8))) _ := hP
    have hD : va_D A (wM g a (sMs (sMsm (sMsv (sMth m9 (nI 0)) (Msv (ms m9) (msv m9) j)) (nI (kSz j))) (MplayN (ms m9) c9 8))) := hD
    have e2 : (MplayS j con m9) = (sMs (sMsm (sMsv (sMth m9 (nI 0)) (Msv (ms m9) (msv m9) j)) (nI (kSz j))) (MplayN (ms m9) c9 8)) := (by first | (simp only [MplayS, MplayR, if_pos c1, if_neg (not_not_intro c1), hc9c]; done) | (simp only [MplayS, MplayR, if_pos c1, if_neg (not_not_intro c1), hc9c]; with_reducible rfl) | with_reducible rfl | (simp [MplayS, MplayR, if_pos c1, if_neg (not_not_intro c1), hc9c]; done))
    have hP : va_P g.1 vwCl (wM g a (MplayS j con m9)) H := by rw [e2]; exact hP
    have hD : va_D A (wM g a (MplayS j con m9)) := by rw [e2]; exact hD
    exact k_iret hx hb hr hlocks rfl (by first | (simp only [MplayS, MplayR, bI, if_pos c1, if_neg (not_not_intro c1), hc9c]; done) | (simp only [MplayS, MplayR, bI, if_pos c1, if_neg (not_not_intro c1), hc9c]; with_reducible rfl) | with_reducible rfl | (simp [MplayS, MplayR, bI, if_pos c1, if_neg (not_not_intro c1), hc9c]; done)) hP hD hS (Nat.le_of_ble_eq_true rfl) (Nat.le_of_ble_eq_true rfl) dX4_play_27
  ·
    refine lv_aload_n hx hb dX4_play_12 rfl (lv_at hl 0 rfl) ?_
    refine lv_iconst (v := (nI 1)) hx hb dX4_play_13 (by decide) ?_
    refine k_Vi (As := [.int (nI 1)]) (r := (nI 0)) hF (c_X4_fails l g a (sMth m9 (nI 0)) (nI 1)) (cwV 1 hts gX4_play_X4_fails rfl rfl rfl (by decide +kernel) ⟨Nat.le_of_ble_eq_true rfl, Nat.le_of_ble_eq_true rfl⟩) hE hP hD hS hA (k_pall _) ((k_pall _).symm) 0 rfl rfl rfl rfl hl.1 rfl (Nat.le_of_ble_eq_true rfl) dX4_play_14 ⟨Nat.le_of_ble_eq_true rfl, Nat.le_of_ble_eq_true rfl⟩ (fun H locs hP hD hS => ?_)
    have hP : va_P g.1 vwCl (wM g a (sMth m9 (nI 1))) _ := hP
    have hD : va_D A (wM g a (sMth m9 (nI 1))) := hD
    have e3 : (MplayS j con m9) = (sMth m9 (nI 1)) := (by first | (simp only [MplayS, MplayR, if_neg c1, if_pos c1]; done) | (simp only [MplayS, MplayR, if_neg c1, if_pos c1]; with_reducible rfl) | with_reducible rfl | (simp [MplayS, MplayR, if_neg c1, if_pos c1]; done))
    have hP : va_P g.1 vwCl (wM g a (MplayS j con m9)) H := by rw [e3]; exact hP
    have hD : va_D A (wM g a (MplayS j con m9)) := by rw [e3]; exact hD
    exact k_iret hx hb hr hlocks rfl (by first | (simp only [MplayS, MplayR, bI, if_neg c1, if_pos c1]; done) | (simp only [MplayS, MplayR, bI, if_neg c1, if_pos c1]; with_reducible rfl) | with_reducible rfl | (simp [MplayS, MplayR, bI, if_neg c1, if_pos c1]; done)) hP hD hS (Nat.le_of_ble_eq_true rfl) (Nat.le_of_ble_eq_true rfl) dX4_play_17
set_option maxHeartbeats 4000000 in
set_option maxRecDepth 100000 in
theorem c_X4_minutes (l : Launch) (g : kG) (a : Nat → Nat) (m9 : MSt) (j : Nat) (hj : j ≤ 6) (hjm : msm m9 = nI j) : KI l yX4_minutes wsX4_minutes ({ frames := 0, cells := 0, slots := 0, locals := 0 }) g [.ref (a 0)] (wM g a m9) ((ms m9) 5) (wM g a (sMth m9 (nI 0))) 0 0 := by
  refine k_begin (cc := cX4_minutes) (maxL := 1) (ret := (some .int)) (Qc := fun A => kQi g ((ms m9) 5) (wM g a (sMth m9 (nI 0))) A) (by decide) rfl (Nat.le_of_ble_eq_true rfl) ?_
  intro p e s m below meth c A ls hF hr hlocks hin hE hP hD hS hA hl
  obtain ⟨hx, hb, hml, hown, hts⟩ := id hF
  have hown : s.vm.findClass RX4 = some m.cls := hown
  have hl : lv_has ls 1 [(0, .ref (a 0))] := hl
  have hiX4 : ∀ w ∈ wsX40, w ∈ wsX4_minutes := fun _ h => List.mem_cons_of_mem _ (List.mem_append_right _ (h))
  have f25 : (Cond.fieldLink RX4 25 "ConcertUsherModel" "thrown" "I").before _ s = true := hts _ (List.mem_of_getElem? (i := 1) rfl)
  have f7 : (Cond.fieldLink RX4 7 "ConcertUsherModel" "s" "[I").before _ s = true := hts _ (List.mem_of_getElem? (i := 2) rfl)
  refine lv_aload_n hx hb dX4_minutes_0 rfl (lv_at hl 0 rfl) ?_
  refine lv_iconst (v := (nI 0)) hx hb dX4_minutes_1 (by decide) ?_
  refine va_put (D := g.1) (ci := 4) (v := .int (nI 0)) (ty := .int) (C := RX4) (T := TX4) (N := 12) hx hb hts hiX4 tyX4 tyX4_ok nmX4 hown hE.1 hP hD hS 0 rfl rfl 0 (by decide) f25 (fun _ h9 => h9) rfl (tyX4_ok 0 (by decide)) rfl rfl (Nat.le_of_ble_eq_true rfl) dX4_minutes_2 (fun H locs hP hD hS => ?_)
  have hP : va_P g.1 vwCl (wM g a (sMth m9 (nI 0))) _ := hP
  have hD : va_D A (wM g a (sMth m9 (nI 0))) := hD
  refine lv_aload_n hx hb dX4_minutes_5 rfl (lv_at hl 0 rfl) ?_
  refine va_get (D := g.1) (ci := 4) (v := .ref (a 1)) (C := RX4) (T := TX4) (N := 12) hx hb hts hiX4 hown hE.1 hP 0 rfl rfl 1 (by decide) f7 (fun _ h9 => h9) rfl dX4_minutes_6 ?_
  refine lv_iconst (v := (nI 5)) hx hb dX4_minutes_9 (by decide) ?_
  refine k_iald (f := (ms m9)) hx hb hE hP 1 rfl 5 rfl (by decide) (by decide) dX4_minutes_10 ?_
  have hP : va_P g.1 vwCl (wM g a (sMth m9 (nI 0))) _ := hP
  have hD : va_D A (wM g a (sMth m9 (nI 0))) := hD
  exact k_iret hx hb hr hlocks rfl rfl hP hD hS (Nat.le_of_ble_eq_true rfl) (Nat.le_of_ble_eq_true rfl) dX4_minutes_11
set_option maxHeartbeats 4000000 in
set_option maxRecDepth 100000 in
theorem c_X4_sinceQuestion (l : Launch) (g : kG) (a : Nat → Nat) (m9 : MSt) (j : Nat) (hj : j ≤ 6) (hjm : msm m9 = nI j) : KI l yX4_sinceQuestion wsX4_sinceQuestion ({ frames := 0, cells := 0, slots := 0, locals := 0 }) g [.ref (a 0)] (wM g a m9) ((ms m9) 6) (wM g a (sMth m9 (nI 0))) 0 0 := by
  refine k_begin (cc := cX4_sinceQuestion) (maxL := 1) (ret := (some .int)) (Qc := fun A => kQi g ((ms m9) 6) (wM g a (sMth m9 (nI 0))) A) (by decide) rfl (Nat.le_of_ble_eq_true rfl) ?_
  intro p e s m below meth c A ls hF hr hlocks hin hE hP hD hS hA hl
  obtain ⟨hx, hb, hml, hown, hts⟩ := id hF
  have hown : s.vm.findClass RX4 = some m.cls := hown
  have hl : lv_has ls 1 [(0, .ref (a 0))] := hl
  have hiX4 : ∀ w ∈ wsX40, w ∈ wsX4_sinceQuestion := fun _ h => List.mem_cons_of_mem _ (List.mem_append_right _ (h))
  have f25 : (Cond.fieldLink RX4 25 "ConcertUsherModel" "thrown" "I").before _ s = true := hts _ (List.mem_of_getElem? (i := 1) rfl)
  have f7 : (Cond.fieldLink RX4 7 "ConcertUsherModel" "s" "[I").before _ s = true := hts _ (List.mem_of_getElem? (i := 2) rfl)
  refine lv_aload_n hx hb dX4_sinceQuestion_0 rfl (lv_at hl 0 rfl) ?_
  refine lv_iconst (v := (nI 0)) hx hb dX4_sinceQuestion_1 (by decide) ?_
  refine va_put (D := g.1) (ci := 4) (v := .int (nI 0)) (ty := .int) (C := RX4) (T := TX4) (N := 12) hx hb hts hiX4 tyX4 tyX4_ok nmX4 hown hE.1 hP hD hS 0 rfl rfl 0 (by decide) f25 (fun _ h9 => h9) rfl (tyX4_ok 0 (by decide)) rfl rfl (Nat.le_of_ble_eq_true rfl) dX4_sinceQuestion_2 (fun H locs hP hD hS => ?_)
  have hP : va_P g.1 vwCl (wM g a (sMth m9 (nI 0))) _ := hP
  have hD : va_D A (wM g a (sMth m9 (nI 0))) := hD
  refine lv_aload_n hx hb dX4_sinceQuestion_5 rfl (lv_at hl 0 rfl) ?_
  refine va_get (D := g.1) (ci := 4) (v := .ref (a 1)) (C := RX4) (T := TX4) (N := 12) hx hb hts hiX4 hown hE.1 hP 0 rfl rfl 1 (by decide) f7 (fun _ h9 => h9) rfl dX4_sinceQuestion_6 ?_
  refine lv_bipush (v := (nI 6)) hx hb dX4_sinceQuestion_9 (by decide) ?_
  refine k_iald (f := (ms m9)) hx hb hE hP 1 rfl 6 rfl (by decide) (by decide) dX4_sinceQuestion_11 ?_
  have hP : va_P g.1 vwCl (wM g a (sMth m9 (nI 0))) _ := hP
  have hD : va_D A (wM g a (sMth m9 (nI 0))) := hD
  exact k_iret hx hb hr hlocks rfl rfl hP hD hS (Nat.le_of_ble_eq_true rfl) (Nat.le_of_ble_eq_true rfl) dX4_sinceQuestion_12
