/-! the law, call by call (22..28) -/
set_option maxHeartbeats 1000000 in
set_option maxRecDepth 100000 in
theorem st_append {p : Program} {l : Launch} {e : Env} {s : State} {m : MethodId} {below : List Frame} {meth : Method} {c : Code} {H : Heap} {locs : List Loc} {cells slots : Nat} {Q : State → Prop} {ls : Array Slot} {g : kG} {sa : Nat → Nat} {b L i o u : Nat} {xs : Nat → Int32} {ah at9 a0 am : Nat → Nat} {ak : Nat → Nat → Nat} {f : Nat → Int64} {cs : CSt} {m9 : MSt} (LW : LwC p l s m c g sa b L xs) (hi : i + 4 ≤ L) (hcl : cells + 3 ≤ room_1.cells) (hsl : slots + 18 ≤ room_1.slots) (LI : LwI s g b o u ah at9 a0 ak am i H locs ls f cs m9) (kk : LwK p l e s m below meth c g b o u ah at9 a0 ak am i (cells + 3) (slots + 18) Q) : W p l e room_1 s m #[Value.ref b] below meth c H locs cells slots Q (F0 m 1349 ls []) := by
  obtain ⟨hF, hfl, hE, hSt, hZ, hX, hbl, hLL⟩ := LW
  obtain ⟨hx, hb, hml, hown, hts⟩ := id hF
  obtain ⟨S, hP, hD, hS, hl⟩ := LI
  have hA : ∀ q : Nat, s.heap.size ≤ q → (fun q : Nat => s.heap.size ≤ q) q := fun _ h => h
  have hbA : ¬ (fun q : Nat => s.heap.size ≤ q) b := Nat.not_le.mpr hbl
  obtain ⟨-, -, hbo, hod, hsz, hjm, hbs, -, hn, hln, hch, -⟩ := id S
  have hbf := (sim_bf S).1
  refine lv_aload_n hx hb dL_law_1349 rfl (lv_at hl 2 rfl) ?_
  refine k_arg (i := i) (k := 1) hx hb (by decide) (by omega) hLL hX hbl hbA hS (lv_at hl 1 rfl) (lv_at hl 0 rfl) dL_law_1350 dL_law_1351 dL_law_1353 dL_law_1354 dL_law_1355 ?_
  refine lv_aload_n hx hb dL_law_1356 rfl (lv_at hl 4 rfl) ?_
  obtain ⟨qt, q2, q3⟩ := q_append S (xs (i + 1))
  obtain ⟨f1, c1, eW, ef, S1⟩ := law_pick (g := g) (o := o) (u := u) (ah := ah) (at9 := at9) (a0 := a0) (ak := ak) (f := f) q2 q3
  refine k_SWi (As := [.ref u, .int (xs (i + 1)), .ref o]) (r := nI (cdApp (cn cs) (xs (i + 1)))) (w0 := (wOC g o u ah at9 a0 ak f cs)) (w1 := (if (cdApp (cn cs) (xs (i + 1))) = 0 then (wOC g o u ah at9 a0 ak (vp_updL f 0 (Int32.toInt64 (nI (cn cs + 1)))) ((ch cs, cod cs, csz cs, chs cs, upd (csg cs) (cn cs) (xs (i + 1)), cn cs + 1) : CSt)) else (wOC g o u ah at9 a0 ak f cs))) (wr := (wM g am m9)) (ws1 := (wM g am m9) ++ (if (cdApp (cn cs) (xs (i + 1))) = 0 then (wOC g o u ah at9 a0 ak (vp_updL f 0 (Int32.toInt64 (nI (cn cs + 1)))) ((ch cs, cod cs, csz cs, chs cs, upd (csg cs) (cn cs) (xs (i + 1)), cn cs + 1) : CSt)) else (wOC g o u ah at9 a0 ak f cs))) hF (c_L_append l hfl g sa u ah at9 a0 ak (ch cs) (csg cs) (cn cs) hn hch (cod cs) (csz cs) hod hsz (chs cs) hbo hbs o f (xs (i + 1))) (vx_cwSW 3 hts gL_law_L_append rfl rfl rfl (by decide +kernel) ⟨Nat.le_of_ble_eq_true rfl, Nat.le_of_ble_eq_true rfl⟩) hE hSt hZ hP hD hS hA List.perm_append_comm List.perm_append_comm rfl hl.1 rfl (Nat.le_of_ble_eq_true rfl) dL_law_1357 ⟨by omega, by omega⟩ (fun H locs hP hD hS => ?_)
  rw [eW] at hP hD
  refine lv_istore (lv' := [(5, .int (nI (cdApp (cn cs) (xs (i + 1))))), (4, .int (nI i)), (0, .ref b), (1, .ref u), (2, .ref (am 0)), (3, .ref o)]) hx hb dL_law_1360 hl (by decide) rfl (fun ls hl => ?_)
  refine lv_aload_n hx hb dL_law_1362 rfl (lv_at hl 4 rfl) ?_
  refine k_arg (i := i) (k := 1) hx hb (by decide) (by omega) hLL hX hbl hbA hS (lv_at hl 2 rfl) (lv_at hl 1 rfl) dL_law_1363 dL_law_1364 dL_law_1366 dL_law_1367 dL_law_1368 ?_
  refine k_Vi (As := [.int (xs (i + 1))]) (r := (MappR (cn cs) (xs (i + 1)))) (w0 := (wM g am m9)) (w1 := (wM g am (MappS (cn cs) (xs (i + 1)) m9))) (wr := (wOC g o u ah at9 a0 ak f1 c1)) (ws1 := (wA g o u ah at9 a0 ak am f1 c1 (MappS (cn cs) (xs (i + 1)) m9))) hF (c_X4_append l g am m9 (cn cs) hn hln (xs (i + 1))) (cwV 1 hts gL_law_X4_append rfl rfl rfl (by decide +kernel) ⟨Nat.le_of_ble_eq_true rfl, Nat.le_of_ble_eq_true rfl⟩) hE hP hD hS hA (List.Perm.refl _) (List.Perm.refl _) 0 rfl rfl rfl rfl hl.1 rfl (Nat.le_of_ble_eq_true rfl) dL_law_1369 ⟨by omega, by omega⟩ (fun H locs hP hD hS => ?_)
  obtain ⟨m2, em2⟩ : ∃ x, (MappS (cn cs) (xs (i + 1)) m9) = x := ⟨_, rfl⟩
  rw [em2] at hP hD S1 qt
  obtain ⟨bv, ebv⟩ : ∃ x, (MappR (cn cs) (xs (i + 1))) = x := ⟨_, rfl⟩
  rw [ebv] at ef ⊢
  refine lv_istore (lv' := [(6, .int bv), (5, .int (nI (cdApp (cn cs) (xs (i + 1))))), (4, .int (nI i)), (0, .ref b), (1, .ref u), (2, .ref (am 0)), (3, .ref o)]) hx hb dL_law_1372 hl (by decide) rfl (fun ls hl => ?_)
  refine lv_aload_n hx hb dL_law_1374 rfl (lv_at hl 5 rfl) ?_
  refine k_Vi (As := []) (r := mth m2) (w0 := (wM g am m2)) (w1 := (wM g am m2)) (wr := (wOC g o u ah at9 a0 ak f1 c1)) (ws1 := (wA g o u ah at9 a0 ak am f1 c1 m2)) hF (c_X4_thrown l g am m2) (cwV 0 hts gL_law_X4_thrown rfl rfl rfl (by decide +kernel) ⟨Nat.le_of_ble_eq_true rfl, Nat.le_of_ble_eq_true rfl⟩) hE hP hD hS hA (List.Perm.refl _) (List.Perm.refl _) 0 rfl rfl rfl rfl hl.1 rfl (Nat.le_of_ble_eq_true rfl) dL_law_1375 ⟨by omega, by omega⟩ (fun H locs hP hD hS => ?_)
  refine W.widen (k := cells + 3) (n := slots + 18) (by omega) (by omega) ?_
  refine k_tail (o := o) (cd := (cdApp (cn cs) (xs (i + 1)))) (f1 := f1) (tgt := 1546) hx hb dL_law_1378 dL_law_1380 dL_law_1385 dL_law_1387 dL_law_1390 dL_law_1391 dL_law_1392 dL_law_1393 dL_law_1395 dL_law_1396 dL_law_1397 dL_law_1402 (by decide) hE hP rfl (lv_at hl 6 rfl) (lv_at hl 1 rfl) (lv_at hl 0 rfl) (Nat.lt_of_le_of_lt (le_L_append _ _) (by decide)) ef qt ?_
  exact kk H locs ls f1 c1 m2 S1 hP hD hS (lv_sub hl [2, 3, 4, 5, 6] rfl)
set_option maxHeartbeats 1000000 in
set_option maxRecDepth 100000 in
theorem st_clearText {p : Program} {l : Launch} {e : Env} {s : State} {m : MethodId} {below : List Frame} {meth : Method} {c : Code} {H : Heap} {locs : List Loc} {cells slots : Nat} {Q : State → Prop} {ls : Array Slot} {g : kG} {sa : Nat → Nat} {b L i o u : Nat} {xs : Nat → Int32} {ah at9 a0 am : Nat → Nat} {ak : Nat → Nat → Nat} {f : Nat → Int64} {cs : CSt} {m9 : MSt} (LW : LwC p l s m c g sa b L xs) (hi : i + 4 ≤ L) (hcl : cells + 3 ≤ room_1.cells) (hsl : slots + 18 ≤ room_1.slots) (LI : LwI s g b o u ah at9 a0 ak am i H locs ls f cs m9) (kk : LwK p l e s m below meth c g b o u ah at9 a0 ak am i (cells + 3) (slots + 18) Q) : W p l e room_1 s m #[Value.ref b] below meth c H locs cells slots Q (F0 m 1405 ls []) := by
  obtain ⟨hF, hfl, hE, hSt, hZ, hX, hbl, hLL⟩ := LW
  obtain ⟨hx, hb, hml, hown, hts⟩ := id hF
  obtain ⟨S, hP, hD, hS, hl⟩ := LI
  have hA : ∀ q : Nat, s.heap.size ≤ q → (fun q : Nat => s.heap.size ≤ q) q := fun _ h => h
  have hbA : ¬ (fun q : Nat => s.heap.size ≤ q) b := Nat.not_le.mpr hbl
  obtain ⟨-, -, hbo, hod, hsz, hjm, hbs, -, hn, hln, hch, -⟩ := id S
  have hbf := (sim_bf S).1
  refine lv_aload_n hx hb dL_law_1405 rfl (lv_at hl 2 rfl) ?_
  refine k_Vi (As := []) (r := (nI (cn cs))) (w0 := (wC g u ah at9 a0 ak cs)) (w1 := (wC g u ah at9 a0 ak ((ch cs, cod cs, csz cs, chs cs, csg cs, 0) : CSt))) (wr := (wM g am m9) ++ (wO g o f)) (ws1 := (wA g o u ah at9 a0 ak am f ((ch cs, cod cs, csz cs, chs cs, csg cs, 0) : CSt) m9)) hF (c_X3_clearText l g u ah at9 a0 ak (ch cs) (csg cs) (cn cs) hn hch (cod cs) (csz cs) hod hsz (chs cs) hbo hbs ) (cwV 0 hts gL_law_X3_clearText rfl rfl rfl (by decide +kernel) ⟨Nat.le_of_ble_eq_true rfl, Nat.le_of_ble_eq_true rfl⟩) hE hP hD hS hA (pm_last _ _ _) (pm_last _ _ _).symm 7 rfl rfl rfl rfl hl.1 rfl (Nat.le_of_ble_eq_true rfl) dL_law_1406 ⟨by omega, by omega⟩ (fun H locs hP hD hS => ?_)
  have eqA : (nI (cn cs)) = (nI (cn cs)) := rfl
  have S1 : Sim ((ch cs, cod cs, csz cs, chs cs, csg cs, 0) : CSt) (sMln (sMth m9 (nI 0)) (nI 0)) := (q_clearText S)
  rw [eqA]
  obtain ⟨c1, ec1⟩ : ∃ x, ((ch cs, cod cs, csz cs, chs cs, csg cs, 0) : CSt) = x := ⟨_, rfl⟩
  rw [ec1] at hP hD S1
  refine lv_aload_n hx hb dL_law_1409 rfl (lv_at hl 3 rfl) ?_
  refine k_Vi (As := []) (r := (nI (cn cs))) (w0 := (wM g am m9)) (w1 := (wM g am (sMln (sMth m9 (nI 0)) (nI 0)))) (wr := (wOC g o u ah at9 a0 ak f c1)) (ws1 := (wA g o u ah at9 a0 ak am f c1 (sMln (sMth m9 (nI 0)) (nI 0)))) hF (c_X4_clearText l g am m9 (cn cs) hn hln ) (cwV 0 hts gL_law_X4_clearText rfl rfl rfl (by decide +kernel) ⟨Nat.le_of_ble_eq_true rfl, Nat.le_of_ble_eq_true rfl⟩) hE hP hD hS hA (List.Perm.refl _) (List.Perm.refl _) 0 rfl rfl rfl rfl hl.1 rfl (Nat.le_of_ble_eq_true rfl) dL_law_1410 ⟨by omega, by omega⟩ (fun H locs hP hD hS => ?_)
  obtain ⟨m2, em2⟩ : ∃ x, (sMln (sMth m9 (nI 0)) (nI 0)) = x := ⟨_, rfl⟩
  rw [em2] at hP hD S1
  refine W.widen (k := cells + 3) (n := slots + 18) (by omega) (by omega) ?_
  refine lv_icmp_eq (tgt := 1546) hx hb dL_law_1413 (by decide) (fun _ => ?_) (fun h9 => absurd rfl h9)
  exact kk H locs ls f c1 m2 S1 hP hD hS hl
set_option maxHeartbeats 1000000 in
set_option maxRecDepth 100000 in
theorem st_firstError {p : Program} {l : Launch} {e : Env} {s : State} {m : MethodId} {below : List Frame} {meth : Method} {c : Code} {H : Heap} {locs : List Loc} {cells slots : Nat} {Q : State → Prop} {ls : Array Slot} {g : kG} {sa : Nat → Nat} {b L i o u : Nat} {xs : Nat → Int32} {ah at9 a0 am : Nat → Nat} {ak : Nat → Nat → Nat} {f : Nat → Int64} {cs : CSt} {m9 : MSt} (LW : LwC p l s m c g sa b L xs) (hi : i + 4 ≤ L) (hcl : cells + 3 ≤ room_1.cells) (hsl : slots + 18 ≤ room_1.slots) (LI : LwI s g b o u ah at9 a0 ak am i H locs ls f cs m9) (kk : LwK p l e s m below meth c g b o u ah at9 a0 ak am i (cells + 3) (slots + 18) Q) : W p l e room_1 s m #[Value.ref b] below meth c H locs cells slots Q (F0 m 1418 ls []) := by
  obtain ⟨hF, hfl, hE, hSt, hZ, hX, hbl, hLL⟩ := LW
  obtain ⟨hx, hb, hml, hown, hts⟩ := id hF
  obtain ⟨S, hP, hD, hS, hl⟩ := LI
  have hA : ∀ q : Nat, s.heap.size ≤ q → (fun q : Nat => s.heap.size ≤ q) q := fun _ h => h
  have hbA : ¬ (fun q : Nat => s.heap.size ≤ q) b := Nat.not_le.mpr hbl
  obtain ⟨-, -, hbo, hod, hsz, hjm, hbs, -, hn, hln, hch, -⟩ := id S
  have hbf := (sim_bf S).1
  refine lv_aload_n hx hb dL_law_1418 rfl (lv_at hl 2 rfl) ?_
  refine k_Vi (As := []) (r := (nI (Tfw (csg cs) (cn cs) 0 (cn cs)))) (w0 := (wC g u ah at9 a0 ak cs)) (w1 := (wC g u ah at9 a0 ak cs)) (wr := (wM g am m9) ++ (wO g o f)) (ws1 := (wA g o u ah at9 a0 ak am f cs m9)) hF (c_X3_firstError l g u ah at9 a0 ak (ch cs) (csg cs) (cn cs) hn hch (cod cs) (csz cs) hod hsz (chs cs) hbo hbs ) (cwV 0 hts gL_law_X3_firstError rfl rfl rfl (by decide +kernel) ⟨Nat.le_of_ble_eq_true rfl, Nat.le_of_ble_eq_true rfl⟩) hE hP hD hS hA (pm_last _ _ _) (pm_last _ _ _).symm 7 rfl rfl rfl rfl hl.1 rfl (Nat.le_of_ble_eq_true rfl) dL_law_1419 ⟨by omega, by omega⟩ (fun H locs hP hD hS => ?_)
  have eqA : (nI (Tfw (csg cs) (cn cs) 0 (cn cs))) = (nI (if (rFin (mbf m9) (cn cs) (mrd m9)).2.1 = 0 then (rFin (mbf m9) (cn cs) (mrd m9)).1 else cn cs)) := (q_firstError S).1
  have S1 : Sim cs (MR (sMth m9 (nI 0)) (rFin (mbf m9) (cn cs) (mrd m9))) := (q_firstError S).2
  rw [eqA]
  refine lv_aload_n hx hb dL_law_1422 rfl (lv_at hl 3 rfl) ?_
  refine k_Vi (As := []) (r := (nI (if (rFin (mbf m9) (cn cs) (mrd m9)).2.1 = 0 then (rFin (mbf m9) (cn cs) (mrd m9)).1 else cn cs))) (w0 := (wM g am m9)) (w1 := (wM g am (MR (sMth m9 (nI 0)) (rFin (mbf m9) (cn cs) (mrd m9))))) (wr := (wOC g o u ah at9 a0 ak f cs)) (ws1 := (wA g o u ah at9 a0 ak am f cs (MR (sMth m9 (nI 0)) (rFin (mbf m9) (cn cs) (mrd m9))))) hF (c_X4_firstError l g am m9 (cn cs) hn hln hbf ) (cwV 0 hts gL_law_X4_firstError rfl rfl rfl (by decide +kernel) ⟨Nat.le_of_ble_eq_true rfl, Nat.le_of_ble_eq_true rfl⟩) hE hP hD hS hA (List.Perm.refl _) (List.Perm.refl _) 0 rfl rfl rfl rfl hl.1 rfl (Nat.le_of_ble_eq_true rfl) dL_law_1423 ⟨by omega, by omega⟩ (fun H locs hP hD hS => ?_)
  obtain ⟨m2, em2⟩ : ∃ x, (MR (sMth m9 (nI 0)) (rFin (mbf m9) (cn cs) (mrd m9))) = x := ⟨_, rfl⟩
  rw [em2] at hP hD S1
  refine W.widen (k := cells + 3) (n := slots + 18) (by omega) (by omega) ?_
  refine lv_icmp_eq (tgt := 1546) hx hb dL_law_1426 (by decide) (fun _ => ?_) (fun h9 => absurd rfl h9)
  exact kk H locs ls f cs m2 S1 hP hD hS hl
set_option maxHeartbeats 1000000 in
set_option maxRecDepth 100000 in
theorem st_run {p : Program} {l : Launch} {e : Env} {s : State} {m : MethodId} {below : List Frame} {meth : Method} {c : Code} {H : Heap} {locs : List Loc} {cells slots : Nat} {Q : State → Prop} {ls : Array Slot} {g : kG} {sa : Nat → Nat} {b L i o u : Nat} {xs : Nat → Int32} {ah at9 a0 am : Nat → Nat} {ak : Nat → Nat → Nat} {f : Nat → Int64} {cs : CSt} {m9 : MSt} (LW : LwC p l s m c g sa b L xs) (hi : i + 4 ≤ L) (hcl : cells + 3 ≤ room_1.cells) (hsl : slots + 18 ≤ room_1.slots) (LI : LwI s g b o u ah at9 a0 ak am i H locs ls f cs m9) (kk : LwK p l e s m below meth c g b o u ah at9 a0 ak am i (cells + 3) (slots + 18) Q) : W p l e room_1 s m #[Value.ref b] below meth c H locs cells slots Q (F0 m 1431 ls []) := by
  obtain ⟨hF, hfl, hE, hSt, hZ, hX, hbl, hLL⟩ := LW
  obtain ⟨hx, hb, hml, hown, hts⟩ := id hF
  obtain ⟨S, hP, hD, hS, hl⟩ := LI
  have hA : ∀ q : Nat, s.heap.size ≤ q → (fun q : Nat => s.heap.size ≤ q) q := fun _ h => h
  have hbA : ¬ (fun q : Nat => s.heap.size ≤ q) b := Nat.not_le.mpr hbl
  obtain ⟨-, -, hbo, hod, hsz, hjm, hbs, -, hn, hln, hch, -⟩ := id S
  have hbf := (sim_bf S).1
  refine lv_aload_n hx hb dL_law_1431 rfl (lv_at hl 2 rfl) ?_
  refine lv_aload_n hx hb dL_law_1432 rfl (lv_at hl 4 rfl) ?_
  obtain ⟨qt, q2, q3⟩ := q_run S 
  obtain ⟨f1, c1, eW, ef, S1⟩ := law_pick (g := g) (o := o) (u := u) (ah := ah) (at9 := at9) (a0 := a0) (ak := ak) (f := f) q2 q3
  refine k_SWi (As := [.ref u, .ref o]) (r := nI (if Tdone (csg cs) (cn cs) then 0 else 1)) (w0 := (wOC g o u ah at9 a0 ak f cs)) (w1 := (if (if Tdone (csg cs) (cn cs) then 0 else 1) = 0 then (wOC g o u ah at9 a0 ak (vp_updL f 0 (Int32.toInt64 (nI ((Ufin (csg cs) (cn cs) 0 (cn cs) (ch cs) 0).2)))) (((Ufin (csg cs) (cn cs) 0 (cn cs) (ch cs) 0).1, kOd (cod cs) (csz cs), kSz (csz cs), va_up (chs cs) (kJ (cod cs) (csz cs)) (ch cs), csg cs, 0) : CSt)) else (wOC g o u ah at9 a0 ak f cs))) (wr := (wM g am m9)) (ws1 := (wM g am m9) ++ (if (if Tdone (csg cs) (cn cs) then 0 else 1) = 0 then (wOC g o u ah at9 a0 ak (vp_updL f 0 (Int32.toInt64 (nI ((Ufin (csg cs) (cn cs) 0 (cn cs) (ch cs) 0).2)))) (((Ufin (csg cs) (cn cs) 0 (cn cs) (ch cs) 0).1, kOd (cod cs) (csz cs), kSz (csz cs), va_up (chs cs) (kJ (cod cs) (csz cs)) (ch cs), csg cs, 0) : CSt)) else (wOC g o u ah at9 a0 ak f cs))) hF (c_L_run l hfl g sa u ah at9 a0 ak (ch cs) (csg cs) (cn cs) hn hch (cod cs) (csz cs) hod hsz (chs cs) hbo hbs o f ) (vx_cwSW 2 hts gL_law_L_run rfl rfl rfl (by decide +kernel) ⟨Nat.le_of_ble_eq_true rfl, Nat.le_of_ble_eq_true rfl⟩) hE hSt hZ hP hD hS hA List.perm_append_comm List.perm_append_comm rfl hl.1 rfl (Nat.le_of_ble_eq_true rfl) dL_law_1433 ⟨by omega, by omega⟩ (fun H locs hP hD hS => ?_)
  rw [eW] at hP hD
  refine lv_istore (lv' := [(5, .int (nI (if Tdone (csg cs) (cn cs) then 0 else 1))), (4, .int (nI i)), (0, .ref b), (1, .ref u), (2, .ref (am 0)), (3, .ref o)]) hx hb dL_law_1436 hl (by decide) rfl (fun ls hl => ?_)
  refine lv_aload_n hx hb dL_law_1438 rfl (lv_at hl 4 rfl) ?_
  refine k_Vi (As := []) (r := (nI (MrunR (cn cs) m9))) (w0 := (wM g am m9)) (w1 := (wM g am (MrunM (csz cs) (cn cs) m9))) (wr := (wOC g o u ah at9 a0 ak f1 c1)) (ws1 := (wA g o u ah at9 a0 ak am f1 c1 (MrunM (csz cs) (cn cs) m9))) hF (c_X4_run l g am m9 (cn cs) hn hln hbf (csz cs) hsz hjm ) (cwV 0 hts gL_law_X4_run rfl rfl rfl (by decide +kernel) ⟨Nat.le_of_ble_eq_true rfl, Nat.le_of_ble_eq_true rfl⟩) hE hP hD hS hA (List.Perm.refl _) (List.Perm.refl _) 0 rfl rfl rfl rfl hl.1 rfl (Nat.le_of_ble_eq_true rfl) dL_law_1439 ⟨by omega, by omega⟩ (fun H locs hP hD hS => ?_)
  obtain ⟨m2, em2⟩ : ∃ x, (MrunM (csz cs) (cn cs) m9) = x := ⟨_, rfl⟩
  rw [em2] at hP hD S1 qt
  obtain ⟨bv, ebv⟩ : ∃ x, (nI (MrunR (cn cs) m9)) = x := ⟨_, rfl⟩
  rw [ebv] at ef ⊢
  refine lv_istore (lv' := [(6, .int bv), (5, .int (nI (if Tdone (csg cs) (cn cs) then 0 else 1))), (4, .int (nI i)), (0, .ref b), (1, .ref u), (2, .ref (am 0)), (3, .ref o)]) hx hb dL_law_1442 hl (by decide) rfl (fun ls hl => ?_)
  refine lv_aload_n hx hb dL_law_1444 rfl (lv_at hl 5 rfl) ?_
  refine k_Vi (As := []) (r := mth m2) (w0 := (wM g am m2)) (w1 := (wM g am m2)) (wr := (wOC g o u ah at9 a0 ak f1 c1)) (ws1 := (wA g o u ah at9 a0 ak am f1 c1 m2)) hF (c_X4_thrown l g am m2) (cwV 0 hts gL_law_X4_thrown rfl rfl rfl (by decide +kernel) ⟨Nat.le_of_ble_eq_true rfl, Nat.le_of_ble_eq_true rfl⟩) hE hP hD hS hA (List.Perm.refl _) (List.Perm.refl _) 0 rfl rfl rfl rfl hl.1 rfl (Nat.le_of_ble_eq_true rfl) dL_law_1445 ⟨by omega, by omega⟩ (fun H locs hP hD hS => ?_)
  refine W.widen (k := cells + 3) (n := slots + 18) (by omega) (by omega) ?_
  refine k_tail (o := o) (cd := (if Tdone (csg cs) (cn cs) then 0 else 1)) (f1 := f1) (tgt := 1546) hx hb dL_law_1448 dL_law_1450 dL_law_1455 dL_law_1457 dL_law_1460 dL_law_1461 dL_law_1462 dL_law_1463 dL_law_1465 dL_law_1466 dL_law_1467 dL_law_1472 (by decide) hE hP rfl (lv_at hl 6 rfl) (lv_at hl 1 rfl) (lv_at hl 0 rfl) (Nat.lt_of_le_of_lt (le_L_run _ _) (by decide)) ef qt ?_
  exact kk H locs ls f1 c1 m2 S1 hP hD hS (lv_sub hl [2, 3, 4, 5, 6] rfl)
set_option maxHeartbeats 1000000 in
set_option maxRecDepth 100000 in
theorem st_undo {p : Program} {l : Launch} {e : Env} {s : State} {m : MethodId} {below : List Frame} {meth : Method} {c : Code} {H : Heap} {locs : List Loc} {cells slots : Nat} {Q : State → Prop} {ls : Array Slot} {g : kG} {sa : Nat → Nat} {b L i o u : Nat} {xs : Nat → Int32} {ah at9 a0 am : Nat → Nat} {ak : Nat → Nat → Nat} {f : Nat → Int64} {cs : CSt} {m9 : MSt} (LW : LwC p l s m c g sa b L xs) (hi : i + 4 ≤ L) (hcl : cells + 3 ≤ room_1.cells) (hsl : slots + 18 ≤ room_1.slots) (LI : LwI s g b o u ah at9 a0 ak am i H locs ls f cs m9) (kk : LwK p l e s m below meth c g b o u ah at9 a0 ak am i (cells + 3) (slots + 18) Q) : W p l e room_1 s m #[Value.ref b] below meth c H locs cells slots Q (F0 m 1475 ls []) := by
  obtain ⟨hF, hfl, hE, hSt, hZ, hX, hbl, hLL⟩ := LW
  obtain ⟨hx, hb, hml, hown, hts⟩ := id hF
  obtain ⟨S, hP, hD, hS, hl⟩ := LI
  have hA : ∀ q : Nat, s.heap.size ≤ q → (fun q : Nat => s.heap.size ≤ q) q := fun _ h => h
  have hbA : ¬ (fun q : Nat => s.heap.size ≤ q) b := Nat.not_le.mpr hbl
  obtain ⟨-, -, hbo, hod, hsz, hjm, hbs, -, hn, hln, hch, -⟩ := id S
  have hbf := (sim_bf S).1
  refine lv_aload_n hx hb dL_law_1475 rfl (lv_at hl 2 rfl) ?_
  refine lv_aload_n hx hb dL_law_1476 rfl (lv_at hl 4 rfl) ?_
  obtain ⟨qt, q2, q3⟩ := q_undo S 
  obtain ⟨f1, c1, eW, ef, S1⟩ := law_pick (g := g) (o := o) (u := u) (ah := ah) (at9 := at9) (a0 := a0) (ak := ak) (f := f) q2 q3
  refine k_SWi (As := [.ref u, .ref o]) (r := nI (if csz cs = 0 then 1 else 0)) (w0 := (wOC g o u ah at9 a0 ak f cs)) (w1 := (if (if csz cs = 0 then 1 else 0) = 0 then (wOC g o u ah at9 a0 ak (vp_updL f 0 (Int32.toInt64 (nI (csz cs - 1)))) ((chs cs ((cod cs + (csz cs - 1)) % 6), cod cs, csz cs - 1, chs cs, csg cs, cn cs) : CSt)) else (wOC g o u ah at9 a0 ak f cs))) (wr := (wM g am m9)) (ws1 := (wM g am m9) ++ (if (if csz cs = 0 then 1 else 0) = 0 then (wOC g o u ah at9 a0 ak (vp_updL f 0 (Int32.toInt64 (nI (csz cs - 1)))) ((chs cs ((cod cs + (csz cs - 1)) % 6), cod cs, csz cs - 1, chs cs, csg cs, cn cs) : CSt)) else (wOC g o u ah at9 a0 ak f cs))) hF (c_L_undo l hfl g sa u ah at9 a0 ak (ch cs) (csg cs) (cn cs) hn hch (cod cs) (csz cs) hod hsz (chs cs) hbo hbs o f ) (vx_cwSW 2 hts gL_law_L_undo rfl rfl rfl (by decide +kernel) ⟨Nat.le_of_ble_eq_true rfl, Nat.le_of_ble_eq_true rfl⟩) hE hSt hZ hP hD hS hA List.perm_append_comm List.perm_append_comm rfl hl.1 rfl (Nat.le_of_ble_eq_true rfl) dL_law_1477 ⟨by omega, by omega⟩ (fun H locs hP hD hS => ?_)
  rw [eW] at hP hD
  refine lv_istore (lv' := [(5, .int (nI (if csz cs = 0 then 1 else 0))), (4, .int (nI i)), (0, .ref b), (1, .ref u), (2, .ref (am 0)), (3, .ref o)]) hx hb dL_law_1480 hl (by decide) rfl (fun ls hl => ?_)
  refine lv_aload_n hx hb dL_law_1482 rfl (lv_at hl 4 rfl) ?_
  refine k_Vi (As := []) (r := (MundoR (csz cs))) (w0 := (wM g am m9)) (w1 := (wM g am (MundoS (csz cs) m9))) (wr := (wOC g o u ah at9 a0 ak f1 c1)) (ws1 := (wA g o u ah at9 a0 ak am f1 c1 (MundoS (csz cs) m9))) hF (c_X4_undo l g am m9 (csz cs) hsz hjm ) (cwV 0 hts gL_law_X4_undo rfl rfl rfl (by decide +kernel) ⟨Nat.le_of_ble_eq_true rfl, Nat.le_of_ble_eq_true rfl⟩) hE hP hD hS hA (List.Perm.refl _) (List.Perm.refl _) 0 rfl rfl rfl rfl hl.1 rfl (Nat.le_of_ble_eq_true rfl) dL_law_1483 ⟨by omega, by omega⟩ (fun H locs hP hD hS => ?_)
  obtain ⟨m2, em2⟩ : ∃ x, (MundoS (csz cs) m9) = x := ⟨_, rfl⟩
  rw [em2] at hP hD S1 qt
  obtain ⟨bv, ebv⟩ : ∃ x, (MundoR (csz cs)) = x := ⟨_, rfl⟩
  rw [ebv] at ef ⊢
  refine lv_istore (lv' := [(6, .int bv), (5, .int (nI (if csz cs = 0 then 1 else 0))), (4, .int (nI i)), (0, .ref b), (1, .ref u), (2, .ref (am 0)), (3, .ref o)]) hx hb dL_law_1486 hl (by decide) rfl (fun ls hl => ?_)
  refine lv_aload_n hx hb dL_law_1488 rfl (lv_at hl 5 rfl) ?_
  refine k_Vi (As := []) (r := mth m2) (w0 := (wM g am m2)) (w1 := (wM g am m2)) (wr := (wOC g o u ah at9 a0 ak f1 c1)) (ws1 := (wA g o u ah at9 a0 ak am f1 c1 m2)) hF (c_X4_thrown l g am m2) (cwV 0 hts gL_law_X4_thrown rfl rfl rfl (by decide +kernel) ⟨Nat.le_of_ble_eq_true rfl, Nat.le_of_ble_eq_true rfl⟩) hE hP hD hS hA (List.Perm.refl _) (List.Perm.refl _) 0 rfl rfl rfl rfl hl.1 rfl (Nat.le_of_ble_eq_true rfl) dL_law_1489 ⟨by omega, by omega⟩ (fun H locs hP hD hS => ?_)
  refine W.widen (k := cells + 3) (n := slots + 18) (by omega) (by omega) ?_
  refine k_tail (o := o) (cd := (if csz cs = 0 then 1 else 0)) (f1 := f1) (tgt := 1546) hx hb dL_law_1492 dL_law_1494 dL_law_1499 dL_law_1501 dL_law_1504 dL_law_1505 dL_law_1506 dL_law_1507 dL_law_1509 dL_law_1510 dL_law_1511 dL_law_1516 (by decide) hE hP rfl (lv_at hl 6 rfl) (lv_at hl 1 rfl) (lv_at hl 0 rfl) (Nat.lt_of_le_of_lt (le_L_undo _) (by decide)) ef qt ?_
  exact kk H locs ls f1 c1 m2 S1 hP hD hS (lv_sub hl [2, 3, 4, 5, 6] rfl)
set_option maxHeartbeats 1000000 in
set_option maxRecDepth 100000 in
theorem st_savedStates {p : Program} {l : Launch} {e : Env} {s : State} {m : MethodId} {below : List Frame} {meth : Method} {c : Code} {H : Heap} {locs : List Loc} {cells slots : Nat} {Q : State → Prop} {ls : Array Slot} {g : kG} {sa : Nat → Nat} {b L i o u : Nat} {xs : Nat → Int32} {ah at9 a0 am : Nat → Nat} {ak : Nat → Nat → Nat} {f : Nat → Int64} {cs : CSt} {m9 : MSt} (LW : LwC p l s m c g sa b L xs) (hi : i + 4 ≤ L) (hcl : cells + 3 ≤ room_1.cells) (hsl : slots + 18 ≤ room_1.slots) (LI : LwI s g b o u ah at9 a0 ak am i H locs ls f cs m9) (kk : LwK p l e s m below meth c g b o u ah at9 a0 ak am i (cells + 3) (slots + 18) Q) : W p l e room_1 s m #[Value.ref b] below meth c H locs cells slots Q (F0 m 1519 ls []) := by
  obtain ⟨hF, hfl, hE, hSt, hZ, hX, hbl, hLL⟩ := LW
  obtain ⟨hx, hb, hml, hown, hts⟩ := id hF
  obtain ⟨S, hP, hD, hS, hl⟩ := LI
  have hA : ∀ q : Nat, s.heap.size ≤ q → (fun q : Nat => s.heap.size ≤ q) q := fun _ h => h
  have hbA : ¬ (fun q : Nat => s.heap.size ≤ q) b := Nat.not_le.mpr hbl
  obtain ⟨-, -, hbo, hod, hsz, hjm, hbs, -, hn, hln, hch, -⟩ := id S
  have hbf := (sim_bf S).1
  refine lv_aload_n hx hb dL_law_1519 rfl (lv_at hl 2 rfl) ?_
  refine k_Vi (As := []) (r := (nI (csz cs))) (w0 := (wC g u ah at9 a0 ak cs)) (w1 := (wC g u ah at9 a0 ak cs)) (wr := (wM g am m9) ++ (wO g o f)) (ws1 := (wA g o u ah at9 a0 ak am f cs m9)) hF (c_X3_savedStates l g u ah at9 a0 ak (ch cs) (csg cs) (cn cs) hn hch (cod cs) (csz cs) hod hsz (chs cs) hbo hbs ) (cwV 0 hts gL_law_X3_savedStates rfl rfl rfl (by decide +kernel) ⟨Nat.le_of_ble_eq_true rfl, Nat.le_of_ble_eq_true rfl⟩) hE hP hD hS hA (pm_last _ _ _) (pm_last _ _ _).symm 7 rfl rfl rfl rfl hl.1 rfl (Nat.le_of_ble_eq_true rfl) dL_law_1520 ⟨by omega, by omega⟩ (fun H locs hP hD hS => ?_)
  have eqA : (nI (csz cs)) = (nI (csz cs)) := rfl
  have S1 : Sim cs (sMth m9 (nI 0)) := (sim_th S _)
  rw [eqA]
  refine lv_aload_n hx hb dL_law_1523 rfl (lv_at hl 3 rfl) ?_
  refine k_Vi (As := []) (r := (nI (csz cs))) (w0 := (wM g am m9)) (w1 := (wM g am (sMth m9 (nI 0)))) (wr := (wOC g o u ah at9 a0 ak f cs)) (ws1 := (wA g o u ah at9 a0 ak am f cs (sMth m9 (nI 0)))) hF (c_X4_savedStates l g am m9 (csz cs) hsz hjm ) (cwV 0 hts gL_law_X4_savedStates rfl rfl rfl (by decide +kernel) ⟨Nat.le_of_ble_eq_true rfl, Nat.le_of_ble_eq_true rfl⟩) hE hP hD hS hA (List.Perm.refl _) (List.Perm.refl _) 0 rfl rfl rfl rfl hl.1 rfl (Nat.le_of_ble_eq_true rfl) dL_law_1524 ⟨by omega, by omega⟩ (fun H locs hP hD hS => ?_)
  obtain ⟨m2, em2⟩ : ∃ x, (sMth m9 (nI 0)) = x := ⟨_, rfl⟩
  rw [em2] at hP hD S1
  refine W.widen (k := cells + 3) (n := slots + 18) (by omega) (by omega) ?_
  refine lv_icmp_eq (tgt := 1546) hx hb dL_law_1527 (by decide) (fun _ => ?_) (fun h9 => absurd rfl h9)
  exact kk H locs ls f cs m2 S1 hP hD hS hl
set_option maxHeartbeats 1000000 in
set_option maxRecDepth 100000 in
theorem st_digest {p : Program} {l : Launch} {e : Env} {s : State} {m : MethodId} {below : List Frame} {meth : Method} {c : Code} {H : Heap} {locs : List Loc} {cells slots : Nat} {Q : State → Prop} {ls : Array Slot} {g : kG} {sa : Nat → Nat} {b L i o u : Nat} {xs : Nat → Int32} {ah at9 a0 am : Nat → Nat} {ak : Nat → Nat → Nat} {f : Nat → Int64} {cs : CSt} {m9 : MSt} (LW : LwC p l s m c g sa b L xs) (hi : i + 4 ≤ L) (hcl : cells + 3 ≤ room_1.cells) (hsl : slots + 18 ≤ room_1.slots) (LI : LwI s g b o u ah at9 a0 ak am i H locs ls f cs m9) (kk : LwK p l e s m below meth c g b o u ah at9 a0 ak am i (cells + 3) (slots + 18) Q) : W p l e room_1 s m #[Value.ref b] below meth c H locs cells slots Q (F0 m 1532 ls []) := by
  obtain ⟨hF, hfl, hE, hSt, hZ, hX, hbl, hLL⟩ := LW
  obtain ⟨hx, hb, hml, hown, hts⟩ := id hF
  obtain ⟨S, hP, hD, hS, hl⟩ := LI
  have hA : ∀ q : Nat, s.heap.size ≤ q → (fun q : Nat => s.heap.size ≤ q) q := fun _ h => h
  have hbA : ¬ (fun q : Nat => s.heap.size ≤ q) b := Nat.not_le.mpr hbl
  obtain ⟨-, -, hbo, hod, hsz, hjm, hbs, -, hn, hln, hch, -⟩ := id S
  have hbf := (sim_bf S).1
  refine lv_aload_n hx hb dL_law_1532 rfl (lv_at hl 2 rfl) ?_
  refine k_Vl (As := []) (r := (Udig (ch cs))) (w0 := (wC g u ah at9 a0 ak cs)) (w1 := (wC g u ah at9 a0 ak cs)) (wr := (wM g am m9) ++ (wO g o f)) (ws1 := (wA g o u ah at9 a0 ak am f cs m9)) hF (c_X3_digest l g u ah at9 a0 ak (ch cs) (csg cs) (cn cs) hn hch (cod cs) (csz cs) hod hsz (chs cs) hbo hbs ) (cwV 0 hts gL_law_X3_digest rfl rfl rfl (by decide +kernel) ⟨Nat.le_of_ble_eq_true rfl, Nat.le_of_ble_eq_true rfl⟩) hE hP hD hS hA (pm_last _ _ _) (pm_last _ _ _).symm 7 rfl rfl rfl rfl hl.1 rfl (Nat.le_of_ble_eq_true rfl) dL_law_1533 ⟨by omega, by omega⟩ (fun H locs hP hD hS => ?_)
  have eqA : (Udig (ch cs)) = (Mdig (ms m9)) := (q_digest S).1
  have S1 : Sim cs (MdigS m9) := (q_digest S).2
  rw [eqA]
  refine lv_aload_n hx hb dL_law_1536 rfl (lv_at hl 3 rfl) ?_
  refine k_Vl (As := []) (r := (Mdig (ms m9))) (w0 := (wM g am m9)) (w1 := (wM g am (MdigS m9))) (wr := (wOC g o u ah at9 a0 ak f cs)) (ws1 := (wA g o u ah at9 a0 ak am f cs (MdigS m9))) hF (c_X4_digest l g am m9 (csz cs) hsz hjm ) (cwV 0 hts gL_law_X4_digest rfl rfl rfl (by decide +kernel) ⟨Nat.le_of_ble_eq_true rfl, Nat.le_of_ble_eq_true rfl⟩) hE hP hD hS hA (List.Perm.refl _) (List.Perm.refl _) 0 rfl rfl rfl rfl hl.1 rfl (Nat.le_of_ble_eq_true rfl) dL_law_1537 ⟨by omega, by omega⟩ (fun H locs hP hD hS => ?_)
  obtain ⟨m2, em2⟩ : ∃ x, (MdigS m9) = x := ⟨_, rfl⟩
  rw [em2] at hP hD S1
  refine W.widen (k := cells + 3) (n := slots + 18) (by omega) (by omega) ?_
  refine W.lcmp hx hb dL_law_1540 ?_
  refine lv_if_eq (tgt := 1546) hx hb dL_law_1541 (by decide) (fun _ => ?_) (fun h9 => absurd ((lg_cmp_eq _ _).mpr rfl) h9)
  exact kk H locs ls f cs m2 S1 hP hD hS hl
