/-! the law, call by call (7..14) -/
set_option maxHeartbeats 1000000 in
set_option maxRecDepth 100000 in
theorem st_chief {p : Program} {l : Launch} {e : Env} {s : State} {m : MethodId} {below : List Frame} {meth : Method} {c : Code} {H : Heap} {locs : List Loc} {cells slots : Nat} {Q : State → Prop} {ls : Array Slot} {g : kG} {sa : Nat → Nat} {b L i o u : Nat} {xs : Nat → Int32} {ah at9 a0 am : Nat → Nat} {ak : Nat → Nat → Nat} {f : Nat → Int64} {cs : CSt} {m9 : MSt} (LW : LwC p l s m c g sa b L xs) (hi : i + 4 ≤ L) (hcl : cells + 3 ≤ room_1.cells) (hsl : slots + 18 ≤ room_1.slots) (LI : LwI s g b o u ah at9 a0 ak am i H locs ls f cs m9) (kk : LwK p l e s m below meth c g b o u ah at9 a0 ak am i (cells + 3) (slots + 18) Q) : W p l e room_1 s m #[Value.ref b] below meth c H locs cells slots Q (F0 m 696 ls []) := by
  obtain ⟨hF, hfl, hE, hSt, hZ, hX, hbl, hLL⟩ := LW
  obtain ⟨hx, hb, hml, hown, hts⟩ := id hF
  obtain ⟨S, hP, hD, hS, hl⟩ := LI
  have hA : ∀ q : Nat, s.heap.size ≤ q → (fun q : Nat => s.heap.size ≤ q) q := fun _ h => h
  have hbA : ¬ (fun q : Nat => s.heap.size ≤ q) b := Nat.not_le.mpr hbl
  obtain ⟨-, -, hbo, hod, hsz, hjm, hbs, -, hn, hln, hch, -⟩ := id S
  have hbf := (sim_bf S).1
  refine lv_aload_n hx hb dL_law_696 rfl (lv_at hl 2 rfl) ?_
  refine k_Vi (As := []) (r := (Hchief (ch cs))) (w0 := (wC g u ah at9 a0 ak cs)) (w1 := (wC g u ah at9 a0 ak cs)) (wr := (wM g am m9) ++ (wO g o f)) (ws1 := (wA g o u ah at9 a0 ak am f cs m9)) hF (c_X3_chief l g u ah at9 a0 ak (ch cs) (csg cs) (cn cs) hn hch (cod cs) (csz cs) hod hsz (chs cs) hbo hbs ) (cwV 0 hts gL_law_X3_chief rfl rfl rfl (by decide +kernel) ⟨Nat.le_of_ble_eq_true rfl, Nat.le_of_ble_eq_true rfl⟩) hE hP hD hS hA (pm_last _ _ _) (pm_last _ _ _).symm 7 rfl rfl rfl rfl hl.1 rfl (Nat.le_of_ble_eq_true rfl) dL_law_697 ⟨by omega, by omega⟩ (fun H locs hP hD hS => ?_)
  have eqA : (Hchief (ch cs)) = (Mchief (ms m9)) := (q_chief S)
  have S1 : Sim cs (sMth m9 (nI 0)) := (sim_th S _)
  rw [eqA]
  refine lv_aload_n hx hb dL_law_700 rfl (lv_at hl 3 rfl) ?_
  refine k_Vi (As := []) (r := (Mchief (ms m9))) (w0 := (wM g am m9)) (w1 := (wM g am (sMth m9 (nI 0)))) (wr := (wOC g o u ah at9 a0 ak f cs)) (ws1 := (wA g o u ah at9 a0 ak am f cs (sMth m9 (nI 0)))) hF (c_X4_chief l g am m9 (csz cs) hsz hjm ) (cwV 0 hts gL_law_X4_chief rfl rfl rfl (by decide +kernel) ⟨Nat.le_of_ble_eq_true rfl, Nat.le_of_ble_eq_true rfl⟩) hE hP hD hS hA (List.Perm.refl _) (List.Perm.refl _) 0 rfl rfl rfl rfl hl.1 rfl (Nat.le_of_ble_eq_true rfl) dL_law_701 ⟨by omega, by omega⟩ (fun H locs hP hD hS => ?_)
  obtain ⟨m2, em2⟩ : ∃ x, (sMth m9 (nI 0)) = x := ⟨_, rfl⟩
  rw [em2] at hP hD S1
  refine W.widen (k := cells + 3) (n := slots + 18) (by omega) (by omega) ?_
  refine lv_icmp_eq (tgt := 1546) hx hb dL_law_704 (by decide) (fun _ => ?_) (fun h9 => absurd rfl h9)
  exact kk H locs ls f cs m2 S1 hP hD hS hl
set_option maxHeartbeats 1000000 in
set_option maxRecDepth 100000 in
theorem st_rest {p : Program} {l : Launch} {e : Env} {s : State} {m : MethodId} {below : List Frame} {meth : Method} {c : Code} {H : Heap} {locs : List Loc} {cells slots : Nat} {Q : State → Prop} {ls : Array Slot} {g : kG} {sa : Nat → Nat} {b L i o u : Nat} {xs : Nat → Int32} {ah at9 a0 am : Nat → Nat} {ak : Nat → Nat → Nat} {f : Nat → Int64} {cs : CSt} {m9 : MSt} (LW : LwC p l s m c g sa b L xs) (hi : i + 4 ≤ L) (hcl : cells + 3 ≤ room_1.cells) (hsl : slots + 18 ≤ room_1.slots) (LI : LwI s g b o u ah at9 a0 ak am i H locs ls f cs m9) (kk : LwK p l e s m below meth c g b o u ah at9 a0 ak am i (cells + 3) (slots + 18) Q) : W p l e room_1 s m #[Value.ref b] below meth c H locs cells slots Q (F0 m 709 ls []) := by
  obtain ⟨hF, hfl, hE, hSt, hZ, hX, hbl, hLL⟩ := LW
  obtain ⟨hx, hb, hml, hown, hts⟩ := id hF
  obtain ⟨S, hP, hD, hS, hl⟩ := LI
  have hA : ∀ q : Nat, s.heap.size ≤ q → (fun q : Nat => s.heap.size ≤ q) q := fun _ h => h
  have hbA : ¬ (fun q : Nat => s.heap.size ≤ q) b := Nat.not_le.mpr hbl
  obtain ⟨-, -, hbo, hod, hsz, hjm, hbs, -, hn, hln, hch, -⟩ := id S
  have hbf := (sim_bf S).1
  refine lv_aload_n hx hb dL_law_709 rfl (lv_at hl 2 rfl) ?_
  refine k_arg (i := i) (k := 1) hx hb (by decide) (by omega) hLL hX hbl hbA hS (lv_at hl 1 rfl) (lv_at hl 0 rfl) dL_law_710 dL_law_711 dL_law_713 dL_law_714 dL_law_715 ?_
  refine k_arg (i := i) (k := 2) hx hb (by decide) (by omega) hLL hX hbl hbA hS (lv_at hl 1 rfl) (lv_at hl 0 rfl) dL_law_716 dL_law_717 dL_law_719 dL_law_720 dL_law_721 ?_
  refine lv_aload_n hx hb dL_law_722 rfl (lv_at hl 4 rfl) ?_
  obtain ⟨qt, q2, q3⟩ := q_rest S (xs (i + 1)) (xs (i + 2))
  obtain ⟨f1, c1, eW, ef, S1⟩ := law_pick (g := g) (o := o) (u := u) (ah := ah) (at9 := at9) (a0 := a0) (ak := ak) (f := f) q2 q3
  refine k_SWi (As := [.ref u, .int (xs (i + 1)), .int (xs (i + 2)), .ref o]) (r := nI (cdPair (xs (i + 1)) (xs (i + 2)))) (w0 := (wOC g o u ah at9 a0 ak f cs)) (w1 := (if (cdPair (xs (i + 1)) (xs (i + 2))) = 0 then (wOC g o u ah at9 a0 ak (vp_updL f 0 (Int32.toInt64 (hR (ch cs) (pl (xs (i + 1)) (xs (i + 2)))))) cs) else (wOC g o u ah at9 a0 ak f cs))) (wr := (wM g am m9)) (ws1 := (wM g am m9) ++ (if (cdPair (xs (i + 1)) (xs (i + 2))) = 0 then (wOC g o u ah at9 a0 ak (vp_updL f 0 (Int32.toInt64 (hR (ch cs) (pl (xs (i + 1)) (xs (i + 2)))))) cs) else (wOC g o u ah at9 a0 ak f cs))) hF (c_L_rest l hfl g sa u ah at9 a0 ak (ch cs) (csg cs) (cn cs) hn hch (cod cs) (csz cs) hod hsz (chs cs) hbo hbs o f (xs (i + 1)) (xs (i + 2))) (vx_cwSW 4 hts gL_law_L_rest rfl rfl rfl (by decide +kernel) ⟨Nat.le_of_ble_eq_true rfl, Nat.le_of_ble_eq_true rfl⟩) hE hSt hZ hP hD hS hA List.perm_append_comm List.perm_append_comm rfl hl.1 rfl (Nat.le_of_ble_eq_true rfl) dL_law_723 ⟨by omega, by omega⟩ (fun H locs hP hD hS => ?_)
  rw [eW] at hP hD
  refine lv_istore (lv' := [(5, .int (nI (cdPair (xs (i + 1)) (xs (i + 2))))), (4, .int (nI i)), (0, .ref b), (1, .ref u), (2, .ref (am 0)), (3, .ref o)]) hx hb dL_law_726 hl (by decide) rfl (fun ls hl => ?_)
  refine lv_aload_n hx hb dL_law_728 rfl (lv_at hl 4 rfl) ?_
  refine k_arg (i := i) (k := 1) hx hb (by decide) (by omega) hLL hX hbl hbA hS (lv_at hl 2 rfl) (lv_at hl 1 rfl) dL_law_729 dL_law_730 dL_law_732 dL_law_733 dL_law_734 ?_
  refine k_arg (i := i) (k := 2) hx hb (by decide) (by omega) hLL hX hbl hbA hS (lv_at hl 2 rfl) (lv_at hl 1 rfl) dL_law_735 dL_law_736 dL_law_738 dL_law_739 dL_law_740 ?_
  refine k_Vi (As := [.int (xs (i + 1)), .int (xs (i + 2))]) (r := (MrestR (xs (i + 1)) (xs (i + 2)) m9)) (w0 := (wM g am m9)) (w1 := (wM g am (Mpair (xs (i + 1)) (xs (i + 2)) m9))) (wr := (wOC g o u ah at9 a0 ak f1 c1)) (ws1 := (wA g o u ah at9 a0 ak am f1 c1 (Mpair (xs (i + 1)) (xs (i + 2)) m9))) hF (c_X4_rest l g am m9 (csz cs) hsz hjm (xs (i + 1)) (xs (i + 2))) (cwV 2 hts gL_law_X4_rest rfl rfl rfl (by decide +kernel) ⟨Nat.le_of_ble_eq_true rfl, Nat.le_of_ble_eq_true rfl⟩) hE hP hD hS hA (List.Perm.refl _) (List.Perm.refl _) 0 rfl rfl rfl rfl hl.1 rfl (Nat.le_of_ble_eq_true rfl) dL_law_741 ⟨by omega, by omega⟩ (fun H locs hP hD hS => ?_)
  obtain ⟨m2, em2⟩ : ∃ x, (Mpair (xs (i + 1)) (xs (i + 2)) m9) = x := ⟨_, rfl⟩
  rw [em2] at hP hD S1 qt
  obtain ⟨bv, ebv⟩ : ∃ x, (MrestR (xs (i + 1)) (xs (i + 2)) m9) = x := ⟨_, rfl⟩
  rw [ebv] at ef ⊢
  refine lv_istore (lv' := [(6, .int bv), (5, .int (nI (cdPair (xs (i + 1)) (xs (i + 2))))), (4, .int (nI i)), (0, .ref b), (1, .ref u), (2, .ref (am 0)), (3, .ref o)]) hx hb dL_law_744 hl (by decide) rfl (fun ls hl => ?_)
  refine lv_aload_n hx hb dL_law_746 rfl (lv_at hl 5 rfl) ?_
  refine k_Vi (As := []) (r := mth m2) (w0 := (wM g am m2)) (w1 := (wM g am m2)) (wr := (wOC g o u ah at9 a0 ak f1 c1)) (ws1 := (wA g o u ah at9 a0 ak am f1 c1 m2)) hF (c_X4_thrown l g am m2) (cwV 0 hts gL_law_X4_thrown rfl rfl rfl (by decide +kernel) ⟨Nat.le_of_ble_eq_true rfl, Nat.le_of_ble_eq_true rfl⟩) hE hP hD hS hA (List.Perm.refl _) (List.Perm.refl _) 0 rfl rfl rfl rfl hl.1 rfl (Nat.le_of_ble_eq_true rfl) dL_law_747 ⟨by omega, by omega⟩ (fun H locs hP hD hS => ?_)
  refine W.widen (k := cells + 3) (n := slots + 18) (by omega) (by omega) ?_
  refine k_tail (o := o) (cd := (cdPair (xs (i + 1)) (xs (i + 2)))) (f1 := f1) (tgt := 1546) hx hb dL_law_750 dL_law_752 dL_law_757 dL_law_759 dL_law_762 dL_law_763 dL_law_764 dL_law_765 dL_law_767 dL_law_768 dL_law_769 dL_law_774 (by decide) hE hP rfl (lv_at hl 6 rfl) (lv_at hl 1 rfl) (lv_at hl 0 rfl) (Nat.lt_of_le_of_lt (le_L_rest _ _) (by decide)) ef qt ?_
  exact kk H locs ls f1 c1 m2 S1 hP hD hS (lv_sub hl [2, 3, 4, 5, 6] rfl)
set_option maxHeartbeats 1000000 in
set_option maxRecDepth 100000 in
theorem st_entries {p : Program} {l : Launch} {e : Env} {s : State} {m : MethodId} {below : List Frame} {meth : Method} {c : Code} {H : Heap} {locs : List Loc} {cells slots : Nat} {Q : State → Prop} {ls : Array Slot} {g : kG} {sa : Nat → Nat} {b L i o u : Nat} {xs : Nat → Int32} {ah at9 a0 am : Nat → Nat} {ak : Nat → Nat → Nat} {f : Nat → Int64} {cs : CSt} {m9 : MSt} (LW : LwC p l s m c g sa b L xs) (hi : i + 4 ≤ L) (hcl : cells + 3 ≤ room_1.cells) (hsl : slots + 18 ≤ room_1.slots) (LI : LwI s g b o u ah at9 a0 ak am i H locs ls f cs m9) (kk : LwK p l e s m below meth c g b o u ah at9 a0 ak am i (cells + 3) (slots + 18) Q) : W p l e room_1 s m #[Value.ref b] below meth c H locs cells slots Q (F0 m 777 ls []) := by
  obtain ⟨hF, hfl, hE, hSt, hZ, hX, hbl, hLL⟩ := LW
  obtain ⟨hx, hb, hml, hown, hts⟩ := id hF
  obtain ⟨S, hP, hD, hS, hl⟩ := LI
  have hA : ∀ q : Nat, s.heap.size ≤ q → (fun q : Nat => s.heap.size ≤ q) q := fun _ h => h
  have hbA : ¬ (fun q : Nat => s.heap.size ≤ q) b := Nat.not_le.mpr hbl
  obtain ⟨-, -, hbo, hod, hsz, hjm, hbs, -, hn, hln, hch, -⟩ := id S
  have hbf := (sim_bf S).1
  refine lv_aload_n hx hb dL_law_777 rfl (lv_at hl 2 rfl) ?_
  refine k_Vi (As := []) (r := (nI (Hent (hR (ch cs)) 48))) (w0 := (wC g u ah at9 a0 ak cs)) (w1 := (wC g u ah at9 a0 ak cs)) (wr := (wM g am m9) ++ (wO g o f)) (ws1 := (wA g o u ah at9 a0 ak am f cs m9)) hF (c_X3_entries l g u ah at9 a0 ak (ch cs) (csg cs) (cn cs) hn hch (cod cs) (csz cs) hod hsz (chs cs) hbo hbs ) (cwV 0 hts gL_law_X3_entries rfl rfl rfl (by decide +kernel) ⟨Nat.le_of_ble_eq_true rfl, Nat.le_of_ble_eq_true rfl⟩) hE hP hD hS hA (pm_last _ _ _) (pm_last _ _ _).symm 7 rfl rfl rfl rfl hl.1 rfl (Nat.le_of_ble_eq_true rfl) dL_law_778 ⟨by omega, by omega⟩ (fun H locs hP hD hS => ?_)
  have eqA : (nI (Hent (hR (ch cs)) 48)) = (Ment (ms m9) 48) := (q_entries S)
  have S1 : Sim cs (sMth m9 (nI 0)) := (sim_th S _)
  rw [eqA]
  refine lv_aload_n hx hb dL_law_781 rfl (lv_at hl 3 rfl) ?_
  refine k_Vi (As := []) (r := (Ment (ms m9) 48)) (w0 := (wM g am m9)) (w1 := (wM g am (sMth m9 (nI 0)))) (wr := (wOC g o u ah at9 a0 ak f cs)) (ws1 := (wA g o u ah at9 a0 ak am f cs (sMth m9 (nI 0)))) hF (c_X4_entries l g am m9 (csz cs) hsz hjm ) (cwV 0 hts gL_law_X4_entries rfl rfl rfl (by decide +kernel) ⟨Nat.le_of_ble_eq_true rfl, Nat.le_of_ble_eq_true rfl⟩) hE hP hD hS hA (List.Perm.refl _) (List.Perm.refl _) 0 rfl rfl rfl rfl hl.1 rfl (Nat.le_of_ble_eq_true rfl) dL_law_782 ⟨by omega, by omega⟩ (fun H locs hP hD hS => ?_)
  obtain ⟨m2, em2⟩ : ∃ x, (sMth m9 (nI 0)) = x := ⟨_, rfl⟩
  rw [em2] at hP hD S1
  refine W.widen (k := cells + 3) (n := slots + 18) (by omega) (by omega) ?_
  refine lv_icmp_eq (tgt := 1546) hx hb dL_law_785 (by decide) (fun _ => ?_) (fun h9 => absurd rfl h9)
  exact kk H locs ls f cs m2 S1 hP hD hS hl
set_option maxHeartbeats 1000000 in
set_option maxRecDepth 100000 in
theorem st_isOpen {p : Program} {l : Launch} {e : Env} {s : State} {m : MethodId} {below : List Frame} {meth : Method} {c : Code} {H : Heap} {locs : List Loc} {cells slots : Nat} {Q : State → Prop} {ls : Array Slot} {g : kG} {sa : Nat → Nat} {b L i o u : Nat} {xs : Nat → Int32} {ah at9 a0 am : Nat → Nat} {ak : Nat → Nat → Nat} {f : Nat → Int64} {cs : CSt} {m9 : MSt} (LW : LwC p l s m c g sa b L xs) (hi : i + 4 ≤ L) (hcl : cells + 3 ≤ room_1.cells) (hsl : slots + 18 ≤ room_1.slots) (LI : LwI s g b o u ah at9 a0 ak am i H locs ls f cs m9) (kk : LwK p l e s m below meth c g b o u ah at9 a0 ak am i (cells + 3) (slots + 18) Q) : W p l e room_1 s m #[Value.ref b] below meth c H locs cells slots Q (F0 m 790 ls []) := by
  obtain ⟨hF, hfl, hE, hSt, hZ, hX, hbl, hLL⟩ := LW
  obtain ⟨hx, hb, hml, hown, hts⟩ := id hF
  obtain ⟨S, hP, hD, hS, hl⟩ := LI
  have hA : ∀ q : Nat, s.heap.size ≤ q → (fun q : Nat => s.heap.size ≤ q) q := fun _ h => h
  have hbA : ¬ (fun q : Nat => s.heap.size ≤ q) b := Nat.not_le.mpr hbl
  obtain ⟨-, -, hbo, hod, hsz, hjm, hbs, -, hn, hln, hch, -⟩ := id S
  have hbf := (sim_bf S).1
  refine lv_aload_n hx hb dL_law_790 rfl (lv_at hl 2 rfl) ?_
  refine k_arg (i := i) (k := 1) hx hb (by decide) (by omega) hLL hX hbl hbA hS (lv_at hl 1 rfl) (lv_at hl 0 rfl) dL_law_791 dL_law_792 dL_law_794 dL_law_795 dL_law_796 ?_
  refine lv_aload_n hx hb dL_law_797 rfl (lv_at hl 4 rfl) ?_
  obtain ⟨qt, q2, q3⟩ := q_isOpen S (xs (i + 1))
  obtain ⟨f1, c1, eW, ef, S1⟩ := law_pickB (g := g) (o := o) (u := u) (ah := ah) (at9 := at9) (a0 := a0) (ak := ak) (f := f) q2 q3
  refine k_SWi (As := [.ref u, .int (xs (i + 1)), .ref o]) (r := nI (ckR (xs (i + 1)))) (w0 := (wOC g o u ah at9 a0 ak f cs)) (w1 := (if (ckR (xs (i + 1))) = 0 then (wOC g o u ah at9 a0 ak (vp_updL f 0 (bL (Hopen (ch cs) (xs (i + 1)).toNatClampNeg))) cs) else (wOC g o u ah at9 a0 ak f cs))) (wr := (wM g am m9)) (ws1 := (wM g am m9) ++ (if (ckR (xs (i + 1))) = 0 then (wOC g o u ah at9 a0 ak (vp_updL f 0 (bL (Hopen (ch cs) (xs (i + 1)).toNatClampNeg))) cs) else (wOC g o u ah at9 a0 ak f cs))) hF (c_L_isOpen l hfl g sa u ah at9 a0 ak (ch cs) (csg cs) (cn cs) hn hch (cod cs) (csz cs) hod hsz (chs cs) hbo hbs o f (xs (i + 1))) (vx_cwSW 3 hts gL_law_L_isOpen rfl rfl rfl (by decide +kernel) ⟨Nat.le_of_ble_eq_true rfl, Nat.le_of_ble_eq_true rfl⟩) hE hSt hZ hP hD hS hA List.perm_append_comm List.perm_append_comm rfl hl.1 rfl (Nat.le_of_ble_eq_true rfl) dL_law_798 ⟨by omega, by omega⟩ (fun H locs hP hD hS => ?_)
  rw [eW] at hP hD
  refine lv_istore (lv' := [(5, .int (nI (ckR (xs (i + 1))))), (4, .int (nI i)), (0, .ref b), (1, .ref u), (2, .ref (am 0)), (3, .ref o)]) hx hb dL_law_801 hl (by decide) rfl (fun ls hl => ?_)
  refine lv_aload_n hx hb dL_law_803 rfl (lv_at hl 4 rfl) ?_
  refine k_arg (i := i) (k := 1) hx hb (by decide) (by omega) hLL hX hbl hbA hS (lv_at hl 2 rfl) (lv_at hl 1 rfl) dL_law_804 dL_law_805 dL_law_807 dL_law_808 dL_law_809 ?_
  refine k_Vi (As := [.int (xs (i + 1))]) (r := (MopenR (xs (i + 1)) m9)) (w0 := (wM g am m9)) (w1 := (wM g am (MopenQ (xs (i + 1)) m9))) (wr := (wOC g o u ah at9 a0 ak f1 c1)) (ws1 := (wA g o u ah at9 a0 ak am f1 c1 (MopenQ (xs (i + 1)) m9))) hF (c_X4_isOpen l g am m9 (csz cs) hsz hjm (xs (i + 1))) (cwV 1 hts gL_law_X4_isOpen rfl rfl rfl (by decide +kernel) ⟨Nat.le_of_ble_eq_true rfl, Nat.le_of_ble_eq_true rfl⟩) hE hP hD hS hA (List.Perm.refl _) (List.Perm.refl _) 0 rfl rfl rfl rfl hl.1 rfl (Nat.le_of_ble_eq_true rfl) dL_law_810 ⟨by omega, by omega⟩ (fun H locs hP hD hS => ?_)
  obtain ⟨m2, em2⟩ : ∃ x, (MopenQ (xs (i + 1)) m9) = x := ⟨_, rfl⟩
  rw [em2] at hP hD S1 qt
  obtain ⟨bv, ebv⟩ : ∃ x, (MopenR (xs (i + 1)) m9) = x := ⟨_, rfl⟩
  rw [ebv] at ef ⊢
  refine lv_istore (lv' := [(6, .int bv), (5, .int (nI (ckR (xs (i + 1))))), (4, .int (nI i)), (0, .ref b), (1, .ref u), (2, .ref (am 0)), (3, .ref o)]) hx hb dL_law_813 hl (by decide) rfl (fun ls hl => ?_)
  refine lv_aload_n hx hb dL_law_815 rfl (lv_at hl 5 rfl) ?_
  refine k_Vi (As := []) (r := mth m2) (w0 := (wM g am m2)) (w1 := (wM g am m2)) (wr := (wOC g o u ah at9 a0 ak f1 c1)) (ws1 := (wA g o u ah at9 a0 ak am f1 c1 m2)) hF (c_X4_thrown l g am m2) (cwV 0 hts gL_law_X4_thrown rfl rfl rfl (by decide +kernel) ⟨Nat.le_of_ble_eq_true rfl, Nat.le_of_ble_eq_true rfl⟩) hE hP hD hS hA (List.Perm.refl _) (List.Perm.refl _) 0 rfl rfl rfl rfl hl.1 rfl (Nat.le_of_ble_eq_true rfl) dL_law_816 ⟨by omega, by omega⟩ (fun H locs hP hD hS => ?_)
  refine W.widen (k := cells + 3) (n := slots + 18) (by omega) (by omega) ?_
  refine k_tailB (o := o) (cd := (ckR (xs (i + 1)))) (f1 := f1) (tgt := 1546) hx hb dL_law_819 dL_law_821 dL_law_826 dL_law_828 dL_law_831 dL_law_832 dL_law_833 dL_law_834 dL_law_836 dL_law_839 dL_law_840 dL_law_843 dL_law_844 dL_law_845 dL_law_850 (by decide) hE hP rfl (lv_at hl 6 rfl) (lv_at hl 1 rfl) (lv_at hl 0 rfl) (Nat.lt_of_le_of_lt (le_L_isOpen _) (by decide)) ef qt ?_
  exact kk H locs ls f1 c1 m2 S1 hP hD hS (lv_sub hl [2, 3, 4, 5, 6] rfl)
set_option maxHeartbeats 1000000 in
set_option maxRecDepth 100000 in
theorem st_rows {p : Program} {l : Launch} {e : Env} {s : State} {m : MethodId} {below : List Frame} {meth : Method} {c : Code} {H : Heap} {locs : List Loc} {cells slots : Nat} {Q : State → Prop} {ls : Array Slot} {g : kG} {sa : Nat → Nat} {b L i o u : Nat} {xs : Nat → Int32} {ah at9 a0 am : Nat → Nat} {ak : Nat → Nat → Nat} {f : Nat → Int64} {cs : CSt} {m9 : MSt} (LW : LwC p l s m c g sa b L xs) (hi : i + 4 ≤ L) (hcl : cells + 3 ≤ room_1.cells) (hsl : slots + 18 ≤ room_1.slots) (LI : LwI s g b o u ah at9 a0 ak am i H locs ls f cs m9) (kk : LwK p l e s m below meth c g b o u ah at9 a0 ak am i (cells + 3) (slots + 18) Q) : W p l e room_1 s m #[Value.ref b] below meth c H locs cells slots Q (F0 m 853 ls []) := by
  obtain ⟨hF, hfl, hE, hSt, hZ, hX, hbl, hLL⟩ := LW
  obtain ⟨hx, hb, hml, hown, hts⟩ := id hF
  obtain ⟨S, hP, hD, hS, hl⟩ := LI
  have hA : ∀ q : Nat, s.heap.size ≤ q → (fun q : Nat => s.heap.size ≤ q) q := fun _ h => h
  have hbA : ¬ (fun q : Nat => s.heap.size ≤ q) b := Nat.not_le.mpr hbl
  obtain ⟨-, -, hbo, hod, hsz, hjm, hbs, -, hn, hln, hch, -⟩ := id S
  have hbf := (sim_bf S).1
  refine lv_aload_n hx hb dL_law_853 rfl (lv_at hl 2 rfl) ?_
  refine k_arg (i := i) (k := 1) hx hb (by decide) (by omega) hLL hX hbl hbA hS (lv_at hl 1 rfl) (lv_at hl 0 rfl) dL_law_854 dL_law_855 dL_law_857 dL_law_858 dL_law_859 ?_
  refine lv_aload_n hx hb dL_law_860 rfl (lv_at hl 4 rfl) ?_
  obtain ⟨qt, q2, q3⟩ := q_rows S (xs (i + 1))
  obtain ⟨f1, c1, eW, ef, S1⟩ := law_pick (g := g) (o := o) (u := u) (ah := ah) (at9 := at9) (a0 := a0) (ak := ak) (f := f) q2 q3
  refine k_SWi (As := [.ref u, .int (xs (i + 1)), .ref o]) (r := nI (ckC (xs (i + 1)))) (w0 := (wOC g o u ah at9 a0 ak f cs)) (w1 := (if (ckC (xs (i + 1))) = 0 then (wOC g o u ah at9 a0 ak (vp_updL f 0 (Int32.toInt64 (Hget (ch cs) (xs (i + 1)).toNatClampNeg 8))) cs) else (wOC g o u ah at9 a0 ak f cs))) (wr := (wM g am m9)) (ws1 := (wM g am m9) ++ (if (ckC (xs (i + 1))) = 0 then (wOC g o u ah at9 a0 ak (vp_updL f 0 (Int32.toInt64 (Hget (ch cs) (xs (i + 1)).toNatClampNeg 8))) cs) else (wOC g o u ah at9 a0 ak f cs))) hF (c_L_rows l hfl g sa u ah at9 a0 ak (ch cs) (csg cs) (cn cs) hn hch (cod cs) (csz cs) hod hsz (chs cs) hbo hbs o f (xs (i + 1))) (vx_cwSW 3 hts gL_law_L_rows rfl rfl rfl (by decide +kernel) ⟨Nat.le_of_ble_eq_true rfl, Nat.le_of_ble_eq_true rfl⟩) hE hSt hZ hP hD hS hA List.perm_append_comm List.perm_append_comm rfl hl.1 rfl (Nat.le_of_ble_eq_true rfl) dL_law_861 ⟨by omega, by omega⟩ (fun H locs hP hD hS => ?_)
  rw [eW] at hP hD
  refine lv_istore (lv' := [(5, .int (nI (ckC (xs (i + 1))))), (4, .int (nI i)), (0, .ref b), (1, .ref u), (2, .ref (am 0)), (3, .ref o)]) hx hb dL_law_864 hl (by decide) rfl (fun ls hl => ?_)
  refine lv_aload_n hx hb dL_law_866 rfl (lv_at hl 4 rfl) ?_
  refine k_arg (i := i) (k := 1) hx hb (by decide) (by omega) hLL hX hbl hbA hS (lv_at hl 2 rfl) (lv_at hl 1 rfl) dL_law_867 dL_law_868 dL_law_870 dL_law_871 dL_law_872 ?_
  refine k_Vi (As := [.int (xs (i + 1))]) (r := (MrowsR (xs (i + 1)) m9)) (w0 := (wM g am m9)) (w1 := (wM g am (Mcon (xs (i + 1)) m9))) (wr := (wOC g o u ah at9 a0 ak f1 c1)) (ws1 := (wA g o u ah at9 a0 ak am f1 c1 (Mcon (xs (i + 1)) m9))) hF (c_X4_rows l g am m9 (csz cs) hsz hjm (xs (i + 1))) (cwV 1 hts gL_law_X4_rows rfl rfl rfl (by decide +kernel) ⟨Nat.le_of_ble_eq_true rfl, Nat.le_of_ble_eq_true rfl⟩) hE hP hD hS hA (List.Perm.refl _) (List.Perm.refl _) 0 rfl rfl rfl rfl hl.1 rfl (Nat.le_of_ble_eq_true rfl) dL_law_873 ⟨by omega, by omega⟩ (fun H locs hP hD hS => ?_)
  obtain ⟨m2, em2⟩ : ∃ x, (Mcon (xs (i + 1)) m9) = x := ⟨_, rfl⟩
  rw [em2] at hP hD S1 qt
  obtain ⟨bv, ebv⟩ : ∃ x, (MrowsR (xs (i + 1)) m9) = x := ⟨_, rfl⟩
  rw [ebv] at ef ⊢
  refine lv_istore (lv' := [(6, .int bv), (5, .int (nI (ckC (xs (i + 1))))), (4, .int (nI i)), (0, .ref b), (1, .ref u), (2, .ref (am 0)), (3, .ref o)]) hx hb dL_law_876 hl (by decide) rfl (fun ls hl => ?_)
  refine lv_aload_n hx hb dL_law_878 rfl (lv_at hl 5 rfl) ?_
  refine k_Vi (As := []) (r := mth m2) (w0 := (wM g am m2)) (w1 := (wM g am m2)) (wr := (wOC g o u ah at9 a0 ak f1 c1)) (ws1 := (wA g o u ah at9 a0 ak am f1 c1 m2)) hF (c_X4_thrown l g am m2) (cwV 0 hts gL_law_X4_thrown rfl rfl rfl (by decide +kernel) ⟨Nat.le_of_ble_eq_true rfl, Nat.le_of_ble_eq_true rfl⟩) hE hP hD hS hA (List.Perm.refl _) (List.Perm.refl _) 0 rfl rfl rfl rfl hl.1 rfl (Nat.le_of_ble_eq_true rfl) dL_law_879 ⟨by omega, by omega⟩ (fun H locs hP hD hS => ?_)
  refine W.widen (k := cells + 3) (n := slots + 18) (by omega) (by omega) ?_
  refine k_tail (o := o) (cd := (ckC (xs (i + 1)))) (f1 := f1) (tgt := 1546) hx hb dL_law_882 dL_law_884 dL_law_889 dL_law_891 dL_law_894 dL_law_895 dL_law_896 dL_law_897 dL_law_899 dL_law_900 dL_law_901 dL_law_906 (by decide) hE hP rfl (lv_at hl 6 rfl) (lv_at hl 1 rfl) (lv_at hl 0 rfl) (Nat.lt_of_le_of_lt (le_L_rows _) (by decide)) ef qt ?_
  exact kk H locs ls f1 c1 m2 S1 hP hD hS (lv_sub hl [2, 3, 4, 5, 6] rfl)
set_option maxHeartbeats 1000000 in
set_option maxRecDepth 100000 in
theorem st_wanted {p : Program} {l : Launch} {e : Env} {s : State} {m : MethodId} {below : List Frame} {meth : Method} {c : Code} {H : Heap} {locs : List Loc} {cells slots : Nat} {Q : State → Prop} {ls : Array Slot} {g : kG} {sa : Nat → Nat} {b L i o u : Nat} {xs : Nat → Int32} {ah at9 a0 am : Nat → Nat} {ak : Nat → Nat → Nat} {f : Nat → Int64} {cs : CSt} {m9 : MSt} (LW : LwC p l s m c g sa b L xs) (hi : i + 4 ≤ L) (hcl : cells + 3 ≤ room_1.cells) (hsl : slots + 18 ≤ room_1.slots) (LI : LwI s g b o u ah at9 a0 ak am i H locs ls f cs m9) (kk : LwK p l e s m below meth c g b o u ah at9 a0 ak am i (cells + 3) (slots + 18) Q) : W p l e room_1 s m #[Value.ref b] below meth c H locs cells slots Q (F0 m 909 ls []) := by
  obtain ⟨hF, hfl, hE, hSt, hZ, hX, hbl, hLL⟩ := LW
  obtain ⟨hx, hb, hml, hown, hts⟩ := id hF
  obtain ⟨S, hP, hD, hS, hl⟩ := LI
  have hA : ∀ q : Nat, s.heap.size ≤ q → (fun q : Nat => s.heap.size ≤ q) q := fun _ h => h
  have hbA : ¬ (fun q : Nat => s.heap.size ≤ q) b := Nat.not_le.mpr hbl
  obtain ⟨-, -, hbo, hod, hsz, hjm, hbs, -, hn, hln, hch, -⟩ := id S
  have hbf := (sim_bf S).1
  refine lv_aload_n hx hb dL_law_909 rfl (lv_at hl 2 rfl) ?_
  refine k_arg (i := i) (k := 1) hx hb (by decide) (by omega) hLL hX hbl hbA hS (lv_at hl 1 rfl) (lv_at hl 0 rfl) dL_law_910 dL_law_911 dL_law_913 dL_law_914 dL_law_915 ?_
  refine lv_aload_n hx hb dL_law_916 rfl (lv_at hl 4 rfl) ?_
  obtain ⟨qt, q2, q3⟩ := q_wanted S (xs (i + 1))
  obtain ⟨f1, c1, eW, ef, S1⟩ := law_pick (g := g) (o := o) (u := u) (ah := ah) (at9 := at9) (a0 := a0) (ak := ak) (f := f) q2 q3
  refine k_SWi (As := [.ref u, .int (xs (i + 1)), .ref o]) (r := nI (ckC (xs (i + 1)))) (w0 := (wOC g o u ah at9 a0 ak f cs)) (w1 := (if (ckC (xs (i + 1))) = 0 then (wOC g o u ah at9 a0 ak (vp_updL f 0 (Int32.toInt64 (Hwant (ch cs) (xs (i + 1)).toNatClampNeg 8))) cs) else (wOC g o u ah at9 a0 ak f cs))) (wr := (wM g am m9)) (ws1 := (wM g am m9) ++ (if (ckC (xs (i + 1))) = 0 then (wOC g o u ah at9 a0 ak (vp_updL f 0 (Int32.toInt64 (Hwant (ch cs) (xs (i + 1)).toNatClampNeg 8))) cs) else (wOC g o u ah at9 a0 ak f cs))) hF (c_L_wanted l hfl g sa u ah at9 a0 ak (ch cs) (csg cs) (cn cs) hn hch (cod cs) (csz cs) hod hsz (chs cs) hbo hbs o f (xs (i + 1))) (vx_cwSW 3 hts gL_law_L_wanted rfl rfl rfl (by decide +kernel) ⟨Nat.le_of_ble_eq_true rfl, Nat.le_of_ble_eq_true rfl⟩) hE hSt hZ hP hD hS hA List.perm_append_comm List.perm_append_comm rfl hl.1 rfl (Nat.le_of_ble_eq_true rfl) dL_law_917 ⟨by omega, by omega⟩ (fun H locs hP hD hS => ?_)
  rw [eW] at hP hD
  refine lv_istore (lv' := [(5, .int (nI (ckC (xs (i + 1))))), (4, .int (nI i)), (0, .ref b), (1, .ref u), (2, .ref (am 0)), (3, .ref o)]) hx hb dL_law_920 hl (by decide) rfl (fun ls hl => ?_)
  refine lv_aload_n hx hb dL_law_922 rfl (lv_at hl 4 rfl) ?_
  refine k_arg (i := i) (k := 1) hx hb (by decide) (by omega) hLL hX hbl hbA hS (lv_at hl 2 rfl) (lv_at hl 1 rfl) dL_law_923 dL_law_924 dL_law_926 dL_law_927 dL_law_928 ?_
  refine k_Vi (As := [.int (xs (i + 1))]) (r := (MwanR (xs (i + 1)) m9)) (w0 := (wM g am m9)) (w1 := (wM g am (Mcon (xs (i + 1)) m9))) (wr := (wOC g o u ah at9 a0 ak f1 c1)) (ws1 := (wA g o u ah at9 a0 ak am f1 c1 (Mcon (xs (i + 1)) m9))) hF (c_X4_wanted l g am m9 (csz cs) hsz hjm (xs (i + 1))) (cwV 1 hts gL_law_X4_wanted rfl rfl rfl (by decide +kernel) ⟨Nat.le_of_ble_eq_true rfl, Nat.le_of_ble_eq_true rfl⟩) hE hP hD hS hA (List.Perm.refl _) (List.Perm.refl _) 0 rfl rfl rfl rfl hl.1 rfl (Nat.le_of_ble_eq_true rfl) dL_law_929 ⟨by omega, by omega⟩ (fun H locs hP hD hS => ?_)
  obtain ⟨m2, em2⟩ : ∃ x, (Mcon (xs (i + 1)) m9) = x := ⟨_, rfl⟩
  rw [em2] at hP hD S1 qt
  obtain ⟨bv, ebv⟩ : ∃ x, (MwanR (xs (i + 1)) m9) = x := ⟨_, rfl⟩
  rw [ebv] at ef ⊢
  refine lv_istore (lv' := [(6, .int bv), (5, .int (nI (ckC (xs (i + 1))))), (4, .int (nI i)), (0, .ref b), (1, .ref u), (2, .ref (am 0)), (3, .ref o)]) hx hb dL_law_932 hl (by decide) rfl (fun ls hl => ?_)
  refine lv_aload_n hx hb dL_law_934 rfl (lv_at hl 5 rfl) ?_
  refine k_Vi (As := []) (r := mth m2) (w0 := (wM g am m2)) (w1 := (wM g am m2)) (wr := (wOC g o u ah at9 a0 ak f1 c1)) (ws1 := (wA g o u ah at9 a0 ak am f1 c1 m2)) hF (c_X4_thrown l g am m2) (cwV 0 hts gL_law_X4_thrown rfl rfl rfl (by decide +kernel) ⟨Nat.le_of_ble_eq_true rfl, Nat.le_of_ble_eq_true rfl⟩) hE hP hD hS hA (List.Perm.refl _) (List.Perm.refl _) 0 rfl rfl rfl rfl hl.1 rfl (Nat.le_of_ble_eq_true rfl) dL_law_935 ⟨by omega, by omega⟩ (fun H locs hP hD hS => ?_)
  refine W.widen (k := cells + 3) (n := slots + 18) (by omega) (by omega) ?_
  refine k_tail (o := o) (cd := (ckC (xs (i + 1)))) (f1 := f1) (tgt := 1546) hx hb dL_law_938 dL_law_940 dL_law_945 dL_law_947 dL_law_950 dL_law_951 dL_law_952 dL_law_953 dL_law_955 dL_law_956 dL_law_957 dL_law_962 (by decide) hE hP rfl (lv_at hl 6 rfl) (lv_at hl 1 rfl) (lv_at hl 0 rfl) (Nat.lt_of_le_of_lt (le_L_wanted _) (by decide)) ef qt ?_
  exact kk H locs ls f1 c1 m2 S1 hP hD hS (lv_sub hl [2, 3, 4, 5, 6] rfl)
set_option maxHeartbeats 1000000 in
set_option maxRecDepth 100000 in
theorem st_pass {p : Program} {l : Launch} {e : Env} {s : State} {m : MethodId} {below : List Frame} {meth : Method} {c : Code} {H : Heap} {locs : List Loc} {cells slots : Nat} {Q : State → Prop} {ls : Array Slot} {g : kG} {sa : Nat → Nat} {b L i o u : Nat} {xs : Nat → Int32} {ah at9 a0 am : Nat → Nat} {ak : Nat → Nat → Nat} {f : Nat → Int64} {cs : CSt} {m9 : MSt} (LW : LwC p l s m c g sa b L xs) (hi : i + 4 ≤ L) (hcl : cells + 3 ≤ room_1.cells) (hsl : slots + 18 ≤ room_1.slots) (LI : LwI s g b o u ah at9 a0 ak am i H locs ls f cs m9) (kk : LwK p l e s m below meth c g b o u ah at9 a0 ak am i (cells + 3) (slots + 18) Q) : W p l e room_1 s m #[Value.ref b] below meth c H locs cells slots Q (F0 m 965 ls []) := by
  obtain ⟨hF, hfl, hE, hSt, hZ, hX, hbl, hLL⟩ := LW
  obtain ⟨hx, hb, hml, hown, hts⟩ := id hF
  obtain ⟨S, hP, hD, hS, hl⟩ := LI
  have hA : ∀ q : Nat, s.heap.size ≤ q → (fun q : Nat => s.heap.size ≤ q) q := fun _ h => h
  have hbA : ¬ (fun q : Nat => s.heap.size ≤ q) b := Nat.not_le.mpr hbl
  obtain ⟨-, -, hbo, hod, hsz, hjm, hbs, -, hn, hln, hch, -⟩ := id S
  have hbf := (sim_bf S).1
  refine lv_aload_n hx hb dL_law_965 rfl (lv_at hl 2 rfl) ?_
  refine k_arg (i := i) (k := 1) hx hb (by decide) (by omega) hLL hX hbl hbA hS (lv_at hl 1 rfl) (lv_at hl 0 rfl) dL_law_966 dL_law_967 dL_law_969 dL_law_970 dL_law_971 ?_
  refine lv_aload_n hx hb dL_law_972 rfl (lv_at hl 4 rfl) ?_
  obtain ⟨qt, q2, q3⟩ := q_pass S (xs (i + 1))
  obtain ⟨f1, c1, eW, ef, S1⟩ := law_pick (g := g) (o := o) (u := u) (ah := ah) (at9 := at9) (a0 := a0) (ak := ak) (f := f) q2 q3
  refine k_SWi (As := [.ref u, .int (xs (i + 1)), .ref o]) (r := nI (ckM (xs (i + 1)))) (w0 := (wOC g o u ah at9 a0 ak f cs)) (w1 := (if (ckM (xs (i + 1))) = 0 then (wOC g o u ah at9 a0 ak (vp_updL f 0 (Int32.toInt64 (nI (HpassQ (ch cs) (xs (i + 1)).toNatClampNeg)))) (kpC cs (HpassN (ch cs) (xs (i + 1)).toNatClampNeg))) else (wOC g o u ah at9 a0 ak f cs))) (wr := (wM g am m9)) (ws1 := (wM g am m9) ++ (if (ckM (xs (i + 1))) = 0 then (wOC g o u ah at9 a0 ak (vp_updL f 0 (Int32.toInt64 (nI (HpassQ (ch cs) (xs (i + 1)).toNatClampNeg)))) (kpC cs (HpassN (ch cs) (xs (i + 1)).toNatClampNeg))) else (wOC g o u ah at9 a0 ak f cs))) hF (c_L_pass l hfl g sa u ah at9 a0 ak (ch cs) (csg cs) (cn cs) hn hch (cod cs) (csz cs) hod hsz (chs cs) hbo hbs o f (xs (i + 1))) (vx_cwSW 3 hts gL_law_L_pass rfl rfl rfl (by decide +kernel) ⟨Nat.le_of_ble_eq_true rfl, Nat.le_of_ble_eq_true rfl⟩) hE hSt hZ hP hD hS hA List.perm_append_comm List.perm_append_comm rfl hl.1 rfl (Nat.le_of_ble_eq_true rfl) dL_law_973 ⟨by omega, by omega⟩ (fun H locs hP hD hS => ?_)
  rw [eW] at hP hD
  refine lv_istore (lv' := [(5, .int (nI (ckM (xs (i + 1))))), (4, .int (nI i)), (0, .ref b), (1, .ref u), (2, .ref (am 0)), (3, .ref o)]) hx hb dL_law_976 hl (by decide) rfl (fun ls hl => ?_)
  refine lv_aload_n hx hb dL_law_978 rfl (lv_at hl 4 rfl) ?_
  refine k_arg (i := i) (k := 1) hx hb (by decide) (by omega) hLL hX hbl hbA hS (lv_at hl 2 rfl) (lv_at hl 1 rfl) dL_law_979 dL_law_980 dL_law_982 dL_law_983 dL_law_984 ?_
  refine k_Vi (As := [.int (xs (i + 1))]) (r := (MpassR (xs (i + 1)) m9)) (w0 := (wM g am m9)) (w1 := (wM g am (MpassS (csz cs) (xs (i + 1)) m9))) (wr := (wOC g o u ah at9 a0 ak f1 c1)) (ws1 := (wA g o u ah at9 a0 ak am f1 c1 (MpassS (csz cs) (xs (i + 1)) m9))) hF (c_X4_pass l g am m9 (csz cs) hsz hjm (xs (i + 1))) (cwV 1 hts gL_law_X4_pass rfl rfl rfl (by decide +kernel) ⟨Nat.le_of_ble_eq_true rfl, Nat.le_of_ble_eq_true rfl⟩) hE hP hD hS hA (List.Perm.refl _) (List.Perm.refl _) 0 rfl rfl rfl rfl hl.1 rfl (Nat.le_of_ble_eq_true rfl) dL_law_985 ⟨by omega, by omega⟩ (fun H locs hP hD hS => ?_)
  obtain ⟨m2, em2⟩ : ∃ x, (MpassS (csz cs) (xs (i + 1)) m9) = x := ⟨_, rfl⟩
  rw [em2] at hP hD S1 qt
  obtain ⟨bv, ebv⟩ : ∃ x, (MpassR (xs (i + 1)) m9) = x := ⟨_, rfl⟩
  rw [ebv] at ef ⊢
  refine lv_istore (lv' := [(6, .int bv), (5, .int (nI (ckM (xs (i + 1))))), (4, .int (nI i)), (0, .ref b), (1, .ref u), (2, .ref (am 0)), (3, .ref o)]) hx hb dL_law_988 hl (by decide) rfl (fun ls hl => ?_)
  refine lv_aload_n hx hb dL_law_990 rfl (lv_at hl 5 rfl) ?_
  refine k_Vi (As := []) (r := mth m2) (w0 := (wM g am m2)) (w1 := (wM g am m2)) (wr := (wOC g o u ah at9 a0 ak f1 c1)) (ws1 := (wA g o u ah at9 a0 ak am f1 c1 m2)) hF (c_X4_thrown l g am m2) (cwV 0 hts gL_law_X4_thrown rfl rfl rfl (by decide +kernel) ⟨Nat.le_of_ble_eq_true rfl, Nat.le_of_ble_eq_true rfl⟩) hE hP hD hS hA (List.Perm.refl _) (List.Perm.refl _) 0 rfl rfl rfl rfl hl.1 rfl (Nat.le_of_ble_eq_true rfl) dL_law_991 ⟨by omega, by omega⟩ (fun H locs hP hD hS => ?_)
  refine W.widen (k := cells + 3) (n := slots + 18) (by omega) (by omega) ?_
  refine k_tail (o := o) (cd := (ckM (xs (i + 1)))) (f1 := f1) (tgt := 1546) hx hb dL_law_994 dL_law_996 dL_law_1001 dL_law_1003 dL_law_1006 dL_law_1007 dL_law_1008 dL_law_1009 dL_law_1011 dL_law_1012 dL_law_1013 dL_law_1018 (by decide) hE hP rfl (lv_at hl 6 rfl) (lv_at hl 1 rfl) (lv_at hl 0 rfl) (Nat.lt_of_le_of_lt (le_L_pass _) (by decide)) ef qt ?_
  exact kk H locs ls f1 c1 m2 S1 hP hD hS (lv_sub hl [2, 3, 4, 5, 6] rfl)
set_option maxHeartbeats 1000000 in
set_option maxRecDepth 100000 in
theorem st_play {p : Program} {l : Launch} {e : Env} {s : State} {m : MethodId} {below : List Frame} {meth : Method} {c : Code} {H : Heap} {locs : List Loc} {cells slots : Nat} {Q : State → Prop} {ls : Array Slot} {g : kG} {sa : Nat → Nat} {b L i o u : Nat} {xs : Nat → Int32} {ah at9 a0 am : Nat → Nat} {ak : Nat → Nat → Nat} {f : Nat → Int64} {cs : CSt} {m9 : MSt} (LW : LwC p l s m c g sa b L xs) (hi : i + 4 ≤ L) (hcl : cells + 3 ≤ room_1.cells) (hsl : slots + 18 ≤ room_1.slots) (LI : LwI s g b o u ah at9 a0 ak am i H locs ls f cs m9) (kk : LwK p l e s m below meth c g b o u ah at9 a0 ak am i (cells + 3) (slots + 18) Q) : W p l e room_1 s m #[Value.ref b] below meth c H locs cells slots Q (F0 m 1021 ls []) := by
  obtain ⟨hF, hfl, hE, hSt, hZ, hX, hbl, hLL⟩ := LW
  obtain ⟨hx, hb, hml, hown, hts⟩ := id hF
  obtain ⟨S, hP, hD, hS, hl⟩ := LI
  have hA : ∀ q : Nat, s.heap.size ≤ q → (fun q : Nat => s.heap.size ≤ q) q := fun _ h => h
  have hbA : ¬ (fun q : Nat => s.heap.size ≤ q) b := Nat.not_le.mpr hbl
  obtain ⟨-, -, hbo, hod, hsz, hjm, hbs, -, hn, hln, hch, -⟩ := id S
  have hbf := (sim_bf S).1
  refine lv_aload_n hx hb dL_law_1021 rfl (lv_at hl 2 rfl) ?_
  refine k_arg (i := i) (k := 1) hx hb (by decide) (by omega) hLL hX hbl hbA hS (lv_at hl 1 rfl) (lv_at hl 0 rfl) dL_law_1022 dL_law_1023 dL_law_1025 dL_law_1026 dL_law_1027 ?_
  refine lv_aload_n hx hb dL_law_1028 rfl (lv_at hl 4 rfl) ?_
  obtain ⟨qt, q2, q3⟩ := q_play S (xs (i + 1))
  obtain ⟨f1, c1, eW, ef, S1⟩ := law_pick (g := g) (o := o) (u := u) (ah := ah) (at9 := at9) (a0 := a0) (ak := ak) (f := f) q2 q3
  refine k_SWi (As := [.ref u, .int (xs (i + 1)), .ref o]) (r := nI (ckC (xs (i + 1)))) (w0 := (wOC g o u ah at9 a0 ak f cs)) (w1 := (if (ckC (xs (i + 1))) = 0 then (wOC g o u ah at9 a0 ak (vp_updL f 0 (Int32.toInt64 (bc (Hget (ch cs) (xs (i + 1)).toNatClampNeg 8)))) (kpC cs (Hperf (xs (i + 1)).toNatClampNeg (ch cs)))) else (wOC g o u ah at9 a0 ak f cs))) (wr := (wM g am m9)) (ws1 := (wM g am m9) ++ (if (ckC (xs (i + 1))) = 0 then (wOC g o u ah at9 a0 ak (vp_updL f 0 (Int32.toInt64 (bc (Hget (ch cs) (xs (i + 1)).toNatClampNeg 8)))) (kpC cs (Hperf (xs (i + 1)).toNatClampNeg (ch cs)))) else (wOC g o u ah at9 a0 ak f cs))) hF (c_L_play l hfl g sa u ah at9 a0 ak (ch cs) (csg cs) (cn cs) hn hch (cod cs) (csz cs) hod hsz (chs cs) hbo hbs o f (xs (i + 1))) (vx_cwSW 3 hts gL_law_L_play rfl rfl rfl (by decide +kernel) ⟨Nat.le_of_ble_eq_true rfl, Nat.le_of_ble_eq_true rfl⟩) hE hSt hZ hP hD hS hA List.perm_append_comm List.perm_append_comm rfl hl.1 rfl (Nat.le_of_ble_eq_true rfl) dL_law_1029 ⟨by omega, by omega⟩ (fun H locs hP hD hS => ?_)
  rw [eW] at hP hD
  refine lv_istore (lv' := [(5, .int (nI (ckC (xs (i + 1))))), (4, .int (nI i)), (0, .ref b), (1, .ref u), (2, .ref (am 0)), (3, .ref o)]) hx hb dL_law_1032 hl (by decide) rfl (fun ls hl => ?_)
  refine lv_aload_n hx hb dL_law_1034 rfl (lv_at hl 4 rfl) ?_
  refine k_arg (i := i) (k := 1) hx hb (by decide) (by omega) hLL hX hbl hbA hS (lv_at hl 2 rfl) (lv_at hl 1 rfl) dL_law_1035 dL_law_1036 dL_law_1038 dL_law_1039 dL_law_1040 ?_
  refine k_Vi (As := [.int (xs (i + 1))]) (r := (MplayR (xs (i + 1)) m9)) (w0 := (wM g am m9)) (w1 := (wM g am (MplayS (csz cs) (xs (i + 1)) m9))) (wr := (wOC g o u ah at9 a0 ak f1 c1)) (ws1 := (wA g o u ah at9 a0 ak am f1 c1 (MplayS (csz cs) (xs (i + 1)) m9))) hF (c_X4_play l g am m9 (csz cs) hsz hjm (xs (i + 1))) (cwV 1 hts gL_law_X4_play rfl rfl rfl (by decide +kernel) ⟨Nat.le_of_ble_eq_true rfl, Nat.le_of_ble_eq_true rfl⟩) hE hP hD hS hA (List.Perm.refl _) (List.Perm.refl _) 0 rfl rfl rfl rfl hl.1 rfl (Nat.le_of_ble_eq_true rfl) dL_law_1041 ⟨by omega, by omega⟩ (fun H locs hP hD hS => ?_)
  obtain ⟨m2, em2⟩ : ∃ x, (MplayS (csz cs) (xs (i + 1)) m9) = x := ⟨_, rfl⟩
  rw [em2] at hP hD S1 qt
  obtain ⟨bv, ebv⟩ : ∃ x, (MplayR (xs (i + 1)) m9) = x := ⟨_, rfl⟩
  rw [ebv] at ef ⊢
  refine lv_istore (lv' := [(6, .int bv), (5, .int (nI (ckC (xs (i + 1))))), (4, .int (nI i)), (0, .ref b), (1, .ref u), (2, .ref (am 0)), (3, .ref o)]) hx hb dL_law_1044 hl (by decide) rfl (fun ls hl => ?_)
  refine lv_aload_n hx hb dL_law_1046 rfl (lv_at hl 5 rfl) ?_
  refine k_Vi (As := []) (r := mth m2) (w0 := (wM g am m2)) (w1 := (wM g am m2)) (wr := (wOC g o u ah at9 a0 ak f1 c1)) (ws1 := (wA g o u ah at9 a0 ak am f1 c1 m2)) hF (c_X4_thrown l g am m2) (cwV 0 hts gL_law_X4_thrown rfl rfl rfl (by decide +kernel) ⟨Nat.le_of_ble_eq_true rfl, Nat.le_of_ble_eq_true rfl⟩) hE hP hD hS hA (List.Perm.refl _) (List.Perm.refl _) 0 rfl rfl rfl rfl hl.1 rfl (Nat.le_of_ble_eq_true rfl) dL_law_1047 ⟨by omega, by omega⟩ (fun H locs hP hD hS => ?_)
  refine W.widen (k := cells + 3) (n := slots + 18) (by omega) (by omega) ?_
  refine k_tail (o := o) (cd := (ckC (xs (i + 1)))) (f1 := f1) (tgt := 1546) hx hb dL_law_1050 dL_law_1052 dL_law_1057 dL_law_1059 dL_law_1062 dL_law_1063 dL_law_1064 dL_law_1065 dL_law_1067 dL_law_1068 dL_law_1069 dL_law_1074 (by decide) hE hP rfl (lv_at hl 6 rfl) (lv_at hl 1 rfl) (lv_at hl 0 rfl) (Nat.lt_of_le_of_lt (le_L_play _) (by decide)) ef qt ?_
  exact kk H locs ls f1 c1 m2 S1 hP hD hS (lv_sub hl [2, 3, 4, 5, 6] rfl)
