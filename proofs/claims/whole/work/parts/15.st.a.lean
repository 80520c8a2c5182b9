/-! the law, call by call (0..6) -/
set_option maxHeartbeats 1000000 in
set_option maxRecDepth 100000 in
theorem st_come {p : Program} {l : Launch} {e : Env} {s : State} {m : MethodId} {below : List Frame} {meth : Method} {c : Code} {H : Heap} {locs : List Loc} {cells slots : Nat} {Q : State → Prop} {ls : Array Slot} {g : kG} {sa : Nat → Nat} {b L i o u : Nat} {xs : Nat → Int32} {ah at9 a0 am : Nat → Nat} {ak : Nat → Nat → Nat} {f : Nat → Int64} {cs : CSt} {m9 : MSt} (LW : LwC p l s m c g sa b L xs) (hi : i + 4 ≤ L) (hcl : cells + 3 ≤ room_1.cells) (hsl : slots + 18 ≤ room_1.slots) (LI : LwI s g b o u ah at9 a0 ak am i H locs ls f cs m9) (kk : LwK p l e s m below meth c g b o u ah at9 a0 ak am i (cells + 3) (slots + 18) Q) : W p l e room_1 s m #[Value.ref b] below meth c H locs cells slots Q (F0 m 168 ls []) := by
  obtain ⟨hF, hfl, hE, hSt, hZ, hX, hbl, hLL⟩ := LW
  obtain ⟨hx, hb, hml, hown, hts⟩ := id hF
  obtain ⟨S, hP, hD, hS, hl⟩ := LI
  have hA : ∀ q : Nat, s.heap.size ≤ q → (fun q : Nat => s.heap.size ≤ q) q := fun _ h => h
  have hbA : ¬ (fun q : Nat => s.heap.size ≤ q) b := Nat.not_le.mpr hbl
  obtain ⟨-, -, hbo, hod, hsz, hjm, hbs, -, hn, hln, hch, -⟩ := id S
  have hbf := (sim_bf S).1
  refine lv_aload_n hx hb dL_law_168 rfl (lv_at hl 2 rfl) ?_
  refine k_arg (i := i) (k := 1) hx hb (by decide) (by omega) hLL hX hbl hbA hS (lv_at hl 1 rfl) (lv_at hl 0 rfl) dL_law_169 dL_law_170 dL_law_172 dL_law_173 dL_law_174 ?_
  refine k_arg (i := i) (k := 2) hx hb (by decide) (by omega) hLL hX hbl hbA hS (lv_at hl 1 rfl) (lv_at hl 0 rfl) dL_law_175 dL_law_176 dL_law_178 dL_law_179 dL_law_180 ?_
  refine lv_aload_n hx hb dL_law_181 rfl (lv_at hl 4 rfl) ?_
  obtain ⟨qt, q2, q3⟩ := q_come S (xs (i + 1)) (xs (i + 2))
  obtain ⟨f1, c1, eW, ef, S1⟩ := law_pick (g := g) (o := o) (u := u) (ah := ah) (at9 := at9) (a0 := a0) (ak := ak) (f := f) q2 q3
  refine k_SWi (As := [.ref u, .int (xs (i + 1)), .int (xs (i + 2)), .ref o]) (r := nI (cdCome (ch cs) (xs (i + 1)) (xs (i + 2)))) (w0 := (wOC g o u ah at9 a0 ak f cs)) (w1 := (if (cdCome (ch cs) (xs (i + 1)) (xs (i + 2))) = 0 then (wOC g o u ah at9 a0 ak (vp_updL f 0 (Int32.toInt64 (hL (Hseat (pl (xs (i + 1)) (xs (i + 2))) (ch cs)) (pl (xs (i + 1)) (xs (i + 2)))))) (kpC cs (Hseat (pl (xs (i + 1)) (xs (i + 2))) (ch cs)))) else (wOC g o u ah at9 a0 ak f cs))) (wr := (wM g am m9)) (ws1 := (wM g am m9) ++ (if (cdCome (ch cs) (xs (i + 1)) (xs (i + 2))) = 0 then (wOC g o u ah at9 a0 ak (vp_updL f 0 (Int32.toInt64 (hL (Hseat (pl (xs (i + 1)) (xs (i + 2))) (ch cs)) (pl (xs (i + 1)) (xs (i + 2)))))) (kpC cs (Hseat (pl (xs (i + 1)) (xs (i + 2))) (ch cs)))) else (wOC g o u ah at9 a0 ak f cs))) hF (c_L_come l hfl g sa u ah at9 a0 ak (ch cs) (csg cs) (cn cs) hn hch (cod cs) (csz cs) hod hsz (chs cs) hbo hbs o f (xs (i + 1)) (xs (i + 2))) (vx_cwSW 4 hts gL_law_L_come rfl rfl rfl (by decide +kernel) ⟨Nat.le_of_ble_eq_true rfl, Nat.le_of_ble_eq_true rfl⟩) hE hSt hZ hP hD hS hA List.perm_append_comm List.perm_append_comm rfl hl.1 rfl (Nat.le_of_ble_eq_true rfl) dL_law_182 ⟨by omega, by omega⟩ (fun H locs hP hD hS => ?_)
  rw [eW] at hP hD
  refine lv_istore (lv' := [(5, .int (nI (cdCome (ch cs) (xs (i + 1)) (xs (i + 2))))), (4, .int (nI i)), (0, .ref b), (1, .ref u), (2, .ref (am 0)), (3, .ref o)]) hx hb dL_law_185 hl (by decide) rfl (fun ls hl => ?_)
  refine lv_aload_n hx hb dL_law_187 rfl (lv_at hl 4 rfl) ?_
  refine k_arg (i := i) (k := 1) hx hb (by decide) (by omega) hLL hX hbl hbA hS (lv_at hl 2 rfl) (lv_at hl 1 rfl) dL_law_188 dL_law_189 dL_law_191 dL_law_192 dL_law_193 ?_
  refine k_arg (i := i) (k := 2) hx hb (by decide) (by omega) hLL hX hbl hbA hS (lv_at hl 2 rfl) (lv_at hl 1 rfl) dL_law_194 dL_law_195 dL_law_197 dL_law_198 dL_law_199 ?_
  refine k_Vi (As := [.int (xs (i + 1)), .int (xs (i + 2))]) (r := (McomeR (xs (i + 1)) (xs (i + 2)) m9)) (w0 := (wM g am m9)) (w1 := (wM g am (Mcome (csz cs) (xs (i + 1)) (xs (i + 2)) m9))) (wr := (wOC g o u ah at9 a0 ak f1 c1)) (ws1 := (wA g o u ah at9 a0 ak am f1 c1 (Mcome (csz cs) (xs (i + 1)) (xs (i + 2)) m9))) hF (c_X4_come l g am m9 (csz cs) hsz hjm (xs (i + 1)) (xs (i + 2))) (cwV 2 hts gL_law_X4_come rfl rfl rfl (by decide +kernel) ⟨Nat.le_of_ble_eq_true rfl, Nat.le_of_ble_eq_true rfl⟩) hE hP hD hS hA (List.Perm.refl _) (List.Perm.refl _) 0 rfl rfl rfl rfl hl.1 rfl (Nat.le_of_ble_eq_true rfl) dL_law_200 ⟨by omega, by omega⟩ (fun H locs hP hD hS => ?_)
  obtain ⟨m2, em2⟩ : ∃ x, (Mcome (csz cs) (xs (i + 1)) (xs (i + 2)) m9) = x := ⟨_, rfl⟩
  rw [em2] at hP hD S1 qt
  obtain ⟨bv, ebv⟩ : ∃ x, (McomeR (xs (i + 1)) (xs (i + 2)) m9) = x := ⟨_, rfl⟩
  rw [ebv] at ef ⊢
  refine lv_istore (lv' := [(6, .int bv), (5, .int (nI (cdCome (ch cs) (xs (i + 1)) (xs (i + 2))))), (4, .int (nI i)), (0, .ref b), (1, .ref u), (2, .ref (am 0)), (3, .ref o)]) hx hb dL_law_203 hl (by decide) rfl (fun ls hl => ?_)
  refine lv_aload_n hx hb dL_law_205 rfl (lv_at hl 5 rfl) ?_
  refine k_Vi (As := []) (r := mth m2) (w0 := (wM g am m2)) (w1 := (wM g am m2)) (wr := (wOC g o u ah at9 a0 ak f1 c1)) (ws1 := (wA g o u ah at9 a0 ak am f1 c1 m2)) hF (c_X4_thrown l g am m2) (cwV 0 hts gL_law_X4_thrown rfl rfl rfl (by decide +kernel) ⟨Nat.le_of_ble_eq_true rfl, Nat.le_of_ble_eq_true rfl⟩) hE hP hD hS hA (List.Perm.refl _) (List.Perm.refl _) 0 rfl rfl rfl rfl hl.1 rfl (Nat.le_of_ble_eq_true rfl) dL_law_206 ⟨by omega, by omega⟩ (fun H locs hP hD hS => ?_)
  refine W.widen (k := cells + 3) (n := slots + 18) (by omega) (by omega) ?_
  refine k_tail (o := o) (cd := (cdCome (ch cs) (xs (i + 1)) (xs (i + 2)))) (f1 := f1) (tgt := 1546) hx hb dL_law_209 dL_law_211 dL_law_216 dL_law_218 dL_law_221 dL_law_222 dL_law_223 dL_law_224 dL_law_226 dL_law_227 dL_law_228 dL_law_233 (by decide) hE hP rfl (lv_at hl 6 rfl) (lv_at hl 1 rfl) (lv_at hl 0 rfl) (Nat.lt_of_le_of_lt (le_L_come _ _ _) (by decide)) ef qt ?_
  exact kk H locs ls f1 c1 m2 S1 hP hD hS (lv_sub hl [2, 3, 4, 5, 6] rfl)
set_option maxHeartbeats 1000000 in
set_option maxRecDepth 100000 in
theorem st_leave {p : Program} {l : Launch} {e : Env} {s : State} {m : MethodId} {below : List Frame} {meth : Method} {c : Code} {H : Heap} {locs : List Loc} {cells slots : Nat} {Q : State → Prop} {ls : Array Slot} {g : kG} {sa : Nat → Nat} {b L i o u : Nat} {xs : Nat → Int32} {ah at9 a0 am : Nat → Nat} {ak : Nat → Nat → Nat} {f : Nat → Int64} {cs : CSt} {m9 : MSt} (LW : LwC p l s m c g sa b L xs) (hi : i + 4 ≤ L) (hcl : cells + 3 ≤ room_1.cells) (hsl : slots + 18 ≤ room_1.slots) (LI : LwI s g b o u ah at9 a0 ak am i H locs ls f cs m9) (kk : LwK p l e s m below meth c g b o u ah at9 a0 ak am i (cells + 3) (slots + 18) Q) : W p l e room_1 s m #[Value.ref b] below meth c H locs cells slots Q (F0 m 236 ls []) := by
  obtain ⟨hF, hfl, hE, hSt, hZ, hX, hbl, hLL⟩ := LW
  obtain ⟨hx, hb, hml, hown, hts⟩ := id hF
  obtain ⟨S, hP, hD, hS, hl⟩ := LI
  have hA : ∀ q : Nat, s.heap.size ≤ q → (fun q : Nat => s.heap.size ≤ q) q := fun _ h => h
  have hbA : ¬ (fun q : Nat => s.heap.size ≤ q) b := Nat.not_le.mpr hbl
  obtain ⟨-, -, hbo, hod, hsz, hjm, hbs, -, hn, hln, hch, -⟩ := id S
  have hbf := (sim_bf S).1
  refine lv_aload_n hx hb dL_law_236 rfl (lv_at hl 2 rfl) ?_
  refine k_arg (i := i) (k := 1) hx hb (by decide) (by omega) hLL hX hbl hbA hS (lv_at hl 1 rfl) (lv_at hl 0 rfl) dL_law_237 dL_law_238 dL_law_240 dL_law_241 dL_law_242 ?_
  refine k_arg (i := i) (k := 2) hx hb (by decide) (by omega) hLL hX hbl hbA hS (lv_at hl 1 rfl) (lv_at hl 0 rfl) dL_law_243 dL_law_244 dL_law_246 dL_law_247 dL_law_248 ?_
  refine k_arg (i := i) (k := 3) hx hb (by decide) (by omega) hLL hX hbl hbA hS (lv_at hl 1 rfl) (lv_at hl 0 rfl) dL_law_249 dL_law_250 dL_law_252 dL_law_253 dL_law_254 ?_
  refine k_boo hx hb dL_law_255 dL_law_258 dL_law_259 dL_law_262 ?_
  refine lv_aload_n hx hb dL_law_263 rfl (lv_at hl 4 rfl) ?_
  obtain ⟨qt, q2, q3⟩ := q_leave S (xs (i + 1)) (xs (i + 2)) (b01 (¬ (xs (i + 3)) = 0))
  obtain ⟨f1, c1, eW, ef, S1⟩ := law_pick (g := g) (o := o) (u := u) (ah := ah) (at9 := at9) (a0 := a0) (ak := ak) (f := f) q2 q3
  refine k_SWi (As := [.ref u, .int (xs (i + 1)), .int (xs (i + 2)), .int (nI (b01 (¬ (xs (i + 3)) = 0))), .ref o]) (r := nI (cdLeave (ch cs) (xs (i + 1)) (xs (i + 2)))) (w0 := (wOC g o u ah at9 a0 ak f cs)) (w1 := (if (cdLeave (ch cs) (xs (i + 1)) (xs (i + 2))) = 0 then (wOC g o u ah at9 a0 ak (vp_updL f 0 (Int32.toInt64 (hL (Hunseat (pl (xs (i + 1)) (xs (i + 2))) (b01 (¬ (xs (i + 3)) = 0)) (ch cs)) (pl (xs (i + 1)) (xs (i + 2)))))) (kpC cs (Hunseat (pl (xs (i + 1)) (xs (i + 2))) (b01 (¬ (xs (i + 3)) = 0)) (ch cs)))) else (wOC g o u ah at9 a0 ak f cs))) (wr := (wM g am m9)) (ws1 := (wM g am m9) ++ (if (cdLeave (ch cs) (xs (i + 1)) (xs (i + 2))) = 0 then (wOC g o u ah at9 a0 ak (vp_updL f 0 (Int32.toInt64 (hL (Hunseat (pl (xs (i + 1)) (xs (i + 2))) (b01 (¬ (xs (i + 3)) = 0)) (ch cs)) (pl (xs (i + 1)) (xs (i + 2)))))) (kpC cs (Hunseat (pl (xs (i + 1)) (xs (i + 2))) (b01 (¬ (xs (i + 3)) = 0)) (ch cs)))) else (wOC g o u ah at9 a0 ak f cs))) hF (c_L_leave l hfl g sa u ah at9 a0 ak (ch cs) (csg cs) (cn cs) hn hch (cod cs) (csz cs) hod hsz (chs cs) hbo hbs o f (xs (i + 1)) (xs (i + 2)) (b01 (¬ (xs (i + 3)) = 0)) b01_lt) (vx_cwSW 5 hts gL_law_L_leave rfl rfl rfl (by decide +kernel) ⟨Nat.le_of_ble_eq_true rfl, Nat.le_of_ble_eq_true rfl⟩) hE hSt hZ hP hD hS hA List.perm_append_comm List.perm_append_comm rfl hl.1 rfl (Nat.le_of_ble_eq_true rfl) dL_law_264 ⟨by omega, by omega⟩ (fun H locs hP hD hS => ?_)
  rw [eW] at hP hD
  refine lv_istore (lv' := [(5, .int (nI (cdLeave (ch cs) (xs (i + 1)) (xs (i + 2))))), (4, .int (nI i)), (0, .ref b), (1, .ref u), (2, .ref (am 0)), (3, .ref o)]) hx hb dL_law_267 hl (by decide) rfl (fun ls hl => ?_)
  refine lv_aload_n hx hb dL_law_269 rfl (lv_at hl 4 rfl) ?_
  refine k_arg (i := i) (k := 1) hx hb (by decide) (by omega) hLL hX hbl hbA hS (lv_at hl 2 rfl) (lv_at hl 1 rfl) dL_law_270 dL_law_271 dL_law_273 dL_law_274 dL_law_275 ?_
  refine k_arg (i := i) (k := 2) hx hb (by decide) (by omega) hLL hX hbl hbA hS (lv_at hl 2 rfl) (lv_at hl 1 rfl) dL_law_276 dL_law_277 dL_law_279 dL_law_280 dL_law_281 ?_
  refine k_arg (i := i) (k := 3) hx hb (by decide) (by omega) hLL hX hbl hbA hS (lv_at hl 2 rfl) (lv_at hl 1 rfl) dL_law_282 dL_law_283 dL_law_285 dL_law_286 dL_law_287 ?_
  refine k_boo hx hb dL_law_288 dL_law_291 dL_law_292 dL_law_295 ?_
  refine k_Vi (As := [.int (xs (i + 1)), .int (xs (i + 2)), .int (nI (b01 (¬ (xs (i + 3)) = 0)))]) (r := (MleaveR (xs (i + 1)) (xs (i + 2)) (b01 (¬ (xs (i + 3)) = 0)) m9)) (w0 := (wM g am m9)) (w1 := (wM g am (Mleave (csz cs) (xs (i + 1)) (xs (i + 2)) (b01 (¬ (xs (i + 3)) = 0)) m9))) (wr := (wOC g o u ah at9 a0 ak f1 c1)) (ws1 := (wA g o u ah at9 a0 ak am f1 c1 (Mleave (csz cs) (xs (i + 1)) (xs (i + 2)) (b01 (¬ (xs (i + 3)) = 0)) m9))) hF (c_X4_leave l g am m9 (csz cs) hsz hjm (xs (i + 1)) (xs (i + 2)) (b01 (¬ (xs (i + 3)) = 0)) b01_lt) (cwV 3 hts gL_law_X4_leave rfl rfl rfl (by decide +kernel) ⟨Nat.le_of_ble_eq_true rfl, Nat.le_of_ble_eq_true rfl⟩) hE hP hD hS hA (List.Perm.refl _) (List.Perm.refl _) 0 rfl rfl rfl rfl hl.1 rfl (Nat.le_of_ble_eq_true rfl) dL_law_296 ⟨by omega, by omega⟩ (fun H locs hP hD hS => ?_)
  obtain ⟨m2, em2⟩ : ∃ x, (Mleave (csz cs) (xs (i + 1)) (xs (i + 2)) (b01 (¬ (xs (i + 3)) = 0)) m9) = x := ⟨_, rfl⟩
  rw [em2] at hP hD S1 qt
  obtain ⟨bv, ebv⟩ : ∃ x, (MleaveR (xs (i + 1)) (xs (i + 2)) (b01 (¬ (xs (i + 3)) = 0)) m9) = x := ⟨_, rfl⟩
  rw [ebv] at ef ⊢
  refine lv_istore (lv' := [(6, .int bv), (5, .int (nI (cdLeave (ch cs) (xs (i + 1)) (xs (i + 2))))), (4, .int (nI i)), (0, .ref b), (1, .ref u), (2, .ref (am 0)), (3, .ref o)]) hx hb dL_law_299 hl (by decide) rfl (fun ls hl => ?_)
  refine lv_aload_n hx hb dL_law_301 rfl (lv_at hl 5 rfl) ?_
  refine k_Vi (As := []) (r := mth m2) (w0 := (wM g am m2)) (w1 := (wM g am m2)) (wr := (wOC g o u ah at9 a0 ak f1 c1)) (ws1 := (wA g o u ah at9 a0 ak am f1 c1 m2)) hF (c_X4_thrown l g am m2) (cwV 0 hts gL_law_X4_thrown rfl rfl rfl (by decide +kernel) ⟨Nat.le_of_ble_eq_true rfl, Nat.le_of_ble_eq_true rfl⟩) hE hP hD hS hA (List.Perm.refl _) (List.Perm.refl _) 0 rfl rfl rfl rfl hl.1 rfl (Nat.le_of_ble_eq_true rfl) dL_law_302 ⟨by omega, by omega⟩ (fun H locs hP hD hS => ?_)
  refine W.widen (k := cells + 3) (n := slots + 18) (by omega) (by omega) ?_
  refine k_tail (o := o) (cd := (cdLeave (ch cs) (xs (i + 1)) (xs (i + 2)))) (f1 := f1) (tgt := 1546) hx hb dL_law_305 dL_law_307 dL_law_312 dL_law_314 dL_law_317 dL_law_318 dL_law_319 dL_law_320 dL_law_322 dL_law_323 dL_law_324 dL_law_329 (by decide) hE hP rfl (lv_at hl 6 rfl) (lv_at hl 1 rfl) (lv_at hl 0 rfl) (Nat.lt_of_le_of_lt (le_L_leave _ _ _) (by decide)) ef qt ?_
  exact kk H locs ls f1 c1 m2 S1 hP hD hS (lv_sub hl [2, 3, 4, 5, 6] rfl)
set_option maxHeartbeats 1000000 in
set_option maxRecDepth 100000 in
theorem st_listeners {p : Program} {l : Launch} {e : Env} {s : State} {m : MethodId} {below : List Frame} {meth : Method} {c : Code} {H : Heap} {locs : List Loc} {cells slots : Nat} {Q : State → Prop} {ls : Array Slot} {g : kG} {sa : Nat → Nat} {b L i o u : Nat} {xs : Nat → Int32} {ah at9 a0 am : Nat → Nat} {ak : Nat → Nat → Nat} {f : Nat → Int64} {cs : CSt} {m9 : MSt} (LW : LwC p l s m c g sa b L xs) (hi : i + 4 ≤ L) (hcl : cells + 3 ≤ room_1.cells) (hsl : slots + 18 ≤ room_1.slots) (LI : LwI s g b o u ah at9 a0 ak am i H locs ls f cs m9) (kk : LwK p l e s m below meth c g b o u ah at9 a0 ak am i (cells + 3) (slots + 18) Q) : W p l e room_1 s m #[Value.ref b] below meth c H locs cells slots Q (F0 m 332 ls []) := by
  obtain ⟨hF, hfl, hE, hSt, hZ, hX, hbl, hLL⟩ := LW
  obtain ⟨hx, hb, hml, hown, hts⟩ := id hF
  obtain ⟨S, hP, hD, hS, hl⟩ := LI
  have hA : ∀ q : Nat, s.heap.size ≤ q → (fun q : Nat => s.heap.size ≤ q) q := fun _ h => h
  have hbA : ¬ (fun q : Nat => s.heap.size ≤ q) b := Nat.not_le.mpr hbl
  obtain ⟨-, -, hbo, hod, hsz, hjm, hbs, -, hn, hln, hch, -⟩ := id S
  have hbf := (sim_bf S).1
  refine lv_aload_n hx hb dL_law_332 rfl (lv_at hl 2 rfl) ?_
  refine k_arg (i := i) (k := 1) hx hb (by decide) (by omega) hLL hX hbl hbA hS (lv_at hl 1 rfl) (lv_at hl 0 rfl) dL_law_333 dL_law_334 dL_law_336 dL_law_337 dL_law_338 ?_
  refine k_arg (i := i) (k := 2) hx hb (by decide) (by omega) hLL hX hbl hbA hS (lv_at hl 1 rfl) (lv_at hl 0 rfl) dL_law_339 dL_law_340 dL_law_342 dL_law_343 dL_law_344 ?_
  refine lv_aload_n hx hb dL_law_345 rfl (lv_at hl 4 rfl) ?_
  obtain ⟨qt, q2, q3⟩ := q_listeners S (xs (i + 1)) (xs (i + 2))
  obtain ⟨f1, c1, eW, ef, S1⟩ := law_pick (g := g) (o := o) (u := u) (ah := ah) (at9 := at9) (a0 := a0) (ak := ak) (f := f) q2 q3
  refine k_SWi (As := [.ref u, .int (xs (i + 1)), .int (xs (i + 2)), .ref o]) (r := nI (cdPair (xs (i + 1)) (xs (i + 2)))) (w0 := (wOC g o u ah at9 a0 ak f cs)) (w1 := (if (cdPair (xs (i + 1)) (xs (i + 2))) = 0 then (wOC g o u ah at9 a0 ak (vp_updL f 0 (Int32.toInt64 (hL (ch cs) (pl (xs (i + 1)) (xs (i + 2)))))) cs) else (wOC g o u ah at9 a0 ak f cs))) (wr := (wM g am m9)) (ws1 := (wM g am m9) ++ (if (cdPair (xs (i + 1)) (xs (i + 2))) = 0 then (wOC g o u ah at9 a0 ak (vp_updL f 0 (Int32.toInt64 (hL (ch cs) (pl (xs (i + 1)) (xs (i + 2)))))) cs) else (wOC g o u ah at9 a0 ak f cs))) hF (c_L_listeners l hfl g sa u ah at9 a0 ak (ch cs) (csg cs) (cn cs) hn hch (cod cs) (csz cs) hod hsz (chs cs) hbo hbs o f (xs (i + 1)) (xs (i + 2))) (vx_cwSW 4 hts gL_law_L_listeners rfl rfl rfl (by decide +kernel) ⟨Nat.le_of_ble_eq_true rfl, Nat.le_of_ble_eq_true rfl⟩) hE hSt hZ hP hD hS hA List.perm_append_comm List.perm_append_comm rfl hl.1 rfl (Nat.le_of_ble_eq_true rfl) dL_law_346 ⟨by omega, by omega⟩ (fun H locs hP hD hS => ?_)
  rw [eW] at hP hD
  refine lv_istore (lv' := [(5, .int (nI (cdPair (xs (i + 1)) (xs (i + 2))))), (4, .int (nI i)), (0, .ref b), (1, .ref u), (2, .ref (am 0)), (3, .ref o)]) hx hb dL_law_349 hl (by decide) rfl (fun ls hl => ?_)
  refine lv_aload_n hx hb dL_law_351 rfl (lv_at hl 4 rfl) ?_
  refine k_arg (i := i) (k := 1) hx hb (by decide) (by omega) hLL hX hbl hbA hS (lv_at hl 2 rfl) (lv_at hl 1 rfl) dL_law_352 dL_law_353 dL_law_355 dL_law_356 dL_law_357 ?_
  refine k_arg (i := i) (k := 2) hx hb (by decide) (by omega) hLL hX hbl hbA hS (lv_at hl 2 rfl) (lv_at hl 1 rfl) dL_law_358 dL_law_359 dL_law_361 dL_law_362 dL_law_363 ?_
  refine k_Vi (As := [.int (xs (i + 1)), .int (xs (i + 2))]) (r := (MlisR (xs (i + 1)) (xs (i + 2)) m9)) (w0 := (wM g am m9)) (w1 := (wM g am (Mpair (xs (i + 1)) (xs (i + 2)) m9))) (wr := (wOC g o u ah at9 a0 ak f1 c1)) (ws1 := (wA g o u ah at9 a0 ak am f1 c1 (Mpair (xs (i + 1)) (xs (i + 2)) m9))) hF (c_X4_listeners l g am m9 (csz cs) hsz hjm (xs (i + 1)) (xs (i + 2))) (cwV 2 hts gL_law_X4_listeners rfl rfl rfl (by decide +kernel) ⟨Nat.le_of_ble_eq_true rfl, Nat.le_of_ble_eq_true rfl⟩) hE hP hD hS hA (List.Perm.refl _) (List.Perm.refl _) 0 rfl rfl rfl rfl hl.1 rfl (Nat.le_of_ble_eq_true rfl) dL_law_364 ⟨by omega, by omega⟩ (fun H locs hP hD hS => ?_)
  obtain ⟨m2, em2⟩ : ∃ x, (Mpair (xs (i + 1)) (xs (i + 2)) m9) = x := ⟨_, rfl⟩
  rw [em2] at hP hD S1 qt
  obtain ⟨bv, ebv⟩ : ∃ x, (MlisR (xs (i + 1)) (xs (i + 2)) m9) = x := ⟨_, rfl⟩
  rw [ebv] at ef ⊢
  refine lv_istore (lv' := [(6, .int bv), (5, .int (nI (cdPair (xs (i + 1)) (xs (i + 2))))), (4, .int (nI i)), (0, .ref b), (1, .ref u), (2, .ref (am 0)), (3, .ref o)]) hx hb dL_law_367 hl (by decide) rfl (fun ls hl => ?_)
  refine lv_aload_n hx hb dL_law_369 rfl (lv_at hl 5 rfl) ?_
  refine k_Vi (As := []) (r := mth m2) (w0 := (wM g am m2)) (w1 := (wM g am m2)) (wr := (wOC g o u ah at9 a0 ak f1 c1)) (ws1 := (wA g o u ah at9 a0 ak am f1 c1 m2)) hF (c_X4_thrown l g am m2) (cwV 0 hts gL_law_X4_thrown rfl rfl rfl (by decide +kernel) ⟨Nat.le_of_ble_eq_true rfl, Nat.le_of_ble_eq_true rfl⟩) hE hP hD hS hA (List.Perm.refl _) (List.Perm.refl _) 0 rfl rfl rfl rfl hl.1 rfl (Nat.le_of_ble_eq_true rfl) dL_law_370 ⟨by omega, by omega⟩ (fun H locs hP hD hS => ?_)
  refine W.widen (k := cells + 3) (n := slots + 18) (by omega) (by omega) ?_
  refine k_tail (o := o) (cd := (cdPair (xs (i + 1)) (xs (i + 2)))) (f1 := f1) (tgt := 1546) hx hb dL_law_373 dL_law_375 dL_law_380 dL_law_382 dL_law_385 dL_law_386 dL_law_387 dL_law_388 dL_law_390 dL_law_391 dL_law_392 dL_law_397 (by decide) hE hP rfl (lv_at hl 6 rfl) (lv_at hl 1 rfl) (lv_at hl 0 rfl) (Nat.lt_of_le_of_lt (le_L_listeners _ _) (by decide)) ef qt ?_
  exact kk H locs ls f1 c1 m2 S1 hP hD hS (lv_sub hl [2, 3, 4, 5, 6] rfl)
set_option maxHeartbeats 1000000 in
set_option maxRecDepth 100000 in
theorem st_setOpen {p : Program} {l : Launch} {e : Env} {s : State} {m : MethodId} {below : List Frame} {meth : Method} {c : Code} {H : Heap} {locs : List Loc} {cells slots : Nat} {Q : State → Prop} {ls : Array Slot} {g : kG} {sa : Nat → Nat} {b L i o u : Nat} {xs : Nat → Int32} {ah at9 a0 am : Nat → Nat} {ak : Nat → Nat → Nat} {f : Nat → Int64} {cs : CSt} {m9 : MSt} (LW : LwC p l s m c g sa b L xs) (hi : i + 4 ≤ L) (hcl : cells + 3 ≤ room_1.cells) (hsl : slots + 18 ≤ room_1.slots) (LI : LwI s g b o u ah at9 a0 ak am i H locs ls f cs m9) (kk : LwK p l e s m below meth c g b o u ah at9 a0 ak am i (cells + 3) (slots + 18) Q) : W p l e room_1 s m #[Value.ref b] below meth c H locs cells slots Q (F0 m 400 ls []) := by
  obtain ⟨hF, hfl, hE, hSt, hZ, hX, hbl, hLL⟩ := LW
  obtain ⟨hx, hb, hml, hown, hts⟩ := id hF
  obtain ⟨S, hP, hD, hS, hl⟩ := LI
  have hA : ∀ q : Nat, s.heap.size ≤ q → (fun q : Nat => s.heap.size ≤ q) q := fun _ h => h
  have hbA : ¬ (fun q : Nat => s.heap.size ≤ q) b := Nat.not_le.mpr hbl
  obtain ⟨-, -, hbo, hod, hsz, hjm, hbs, -, hn, hln, hch, -⟩ := id S
  have hbf := (sim_bf S).1
  refine lv_aload_n hx hb dL_law_400 rfl (lv_at hl 2 rfl) ?_
  refine k_arg (i := i) (k := 1) hx hb (by decide) (by omega) hLL hX hbl hbA hS (lv_at hl 1 rfl) (lv_at hl 0 rfl) dL_law_401 dL_law_402 dL_law_404 dL_law_405 dL_law_406 ?_
  refine k_arg (i := i) (k := 2) hx hb (by decide) (by omega) hLL hX hbl hbA hS (lv_at hl 1 rfl) (lv_at hl 0 rfl) dL_law_407 dL_law_408 dL_law_410 dL_law_411 dL_law_412 ?_
  refine k_boo hx hb dL_law_413 dL_law_416 dL_law_417 dL_law_420 ?_
  refine lv_aload_n hx hb dL_law_421 rfl (lv_at hl 4 rfl) ?_
  obtain ⟨qt, q2, q3⟩ := q_setOpen S (xs (i + 1)) (b01 (¬ (xs (i + 2)) = 0)) b01_lt
  obtain ⟨f1, c1, eW, ef, S1⟩ := law_pickB (g := g) (o := o) (u := u) (ah := ah) (at9 := at9) (a0 := a0) (ak := ak) (f := f) q2 q3
  refine k_SWi (As := [.ref u, .int (xs (i + 1)), .int (nI (b01 (¬ (xs (i + 2)) = 0))), .ref o]) (r := nI (ckR (xs (i + 1)))) (w0 := (wOC g o u ah at9 a0 ak f cs)) (w1 := (if (ckR (xs (i + 1))) = 0 then (wOC g o u ah at9 a0 ak (vp_updL f 0 (bL (Hopen (ch cs) (xs (i + 1)).toNatClampNeg))) (kpC cs (UOpen (xs (i + 1)) (b01 (¬ (xs (i + 2)) = 0)) (ch cs)))) else (wOC g o u ah at9 a0 ak f cs))) (wr := (wM g am m9)) (ws1 := (wM g am m9) ++ (if (ckR (xs (i + 1))) = 0 then (wOC g o u ah at9 a0 ak (vp_updL f 0 (bL (Hopen (ch cs) (xs (i + 1)).toNatClampNeg))) (kpC cs (UOpen (xs (i + 1)) (b01 (¬ (xs (i + 2)) = 0)) (ch cs)))) else (wOC g o u ah at9 a0 ak f cs))) hF (c_L_setOpen l hfl g sa u ah at9 a0 ak (ch cs) (csg cs) (cn cs) hn hch (cod cs) (csz cs) hod hsz (chs cs) hbo hbs o f (xs (i + 1)) (b01 (¬ (xs (i + 2)) = 0)) b01_lt) (vx_cwSW 4 hts gL_law_L_setOpen rfl rfl rfl (by decide +kernel) ⟨Nat.le_of_ble_eq_true rfl, Nat.le_of_ble_eq_true rfl⟩) hE hSt hZ hP hD hS hA List.perm_append_comm List.perm_append_comm rfl hl.1 rfl (Nat.le_of_ble_eq_true rfl) dL_law_422 ⟨by omega, by omega⟩ (fun H locs hP hD hS => ?_)
  rw [eW] at hP hD
  refine lv_istore (lv' := [(5, .int (nI (ckR (xs (i + 1))))), (4, .int (nI i)), (0, .ref b), (1, .ref u), (2, .ref (am 0)), (3, .ref o)]) hx hb dL_law_425 hl (by decide) rfl (fun ls hl => ?_)
  refine lv_aload_n hx hb dL_law_427 rfl (lv_at hl 4 rfl) ?_
  refine k_arg (i := i) (k := 1) hx hb (by decide) (by omega) hLL hX hbl hbA hS (lv_at hl 2 rfl) (lv_at hl 1 rfl) dL_law_428 dL_law_429 dL_law_431 dL_law_432 dL_law_433 ?_
  refine k_arg (i := i) (k := 2) hx hb (by decide) (by omega) hLL hX hbl hbA hS (lv_at hl 2 rfl) (lv_at hl 1 rfl) dL_law_434 dL_law_435 dL_law_437 dL_law_438 dL_law_439 ?_
  refine k_boo hx hb dL_law_440 dL_law_443 dL_law_444 dL_law_447 ?_
  refine k_Vi (As := [.int (xs (i + 1)), .int (nI (b01 (¬ (xs (i + 2)) = 0)))]) (r := (MopenR (xs (i + 1)) m9)) (w0 := (wM g am m9)) (w1 := (wM g am (MopenS (csz cs) (xs (i + 1)) (b01 (¬ (xs (i + 2)) = 0)) m9))) (wr := (wOC g o u ah at9 a0 ak f1 c1)) (ws1 := (wA g o u ah at9 a0 ak am f1 c1 (MopenS (csz cs) (xs (i + 1)) (b01 (¬ (xs (i + 2)) = 0)) m9))) hF (c_X4_setOpen l g am m9 (csz cs) hsz hjm (xs (i + 1)) (b01 (¬ (xs (i + 2)) = 0)) b01_lt) (cwV 2 hts gL_law_X4_setOpen rfl rfl rfl (by decide +kernel) ⟨Nat.le_of_ble_eq_true rfl, Nat.le_of_ble_eq_true rfl⟩) hE hP hD hS hA (List.Perm.refl _) (List.Perm.refl _) 0 rfl rfl rfl rfl hl.1 rfl (Nat.le_of_ble_eq_true rfl) dL_law_448 ⟨by omega, by omega⟩ (fun H locs hP hD hS => ?_)
  obtain ⟨m2, em2⟩ : ∃ x, (MopenS (csz cs) (xs (i + 1)) (b01 (¬ (xs (i + 2)) = 0)) m9) = x := ⟨_, rfl⟩
  rw [em2] at hP hD S1 qt
  obtain ⟨bv, ebv⟩ : ∃ x, (MopenR (xs (i + 1)) m9) = x := ⟨_, rfl⟩
  rw [ebv] at ef ⊢
  refine lv_istore (lv' := [(6, .int bv), (5, .int (nI (ckR (xs (i + 1))))), (4, .int (nI i)), (0, .ref b), (1, .ref u), (2, .ref (am 0)), (3, .ref o)]) hx hb dL_law_451 hl (by decide) rfl (fun ls hl => ?_)
  refine lv_aload_n hx hb dL_law_453 rfl (lv_at hl 5 rfl) ?_
  refine k_Vi (As := []) (r := mth m2) (w0 := (wM g am m2)) (w1 := (wM g am m2)) (wr := (wOC g o u ah at9 a0 ak f1 c1)) (ws1 := (wA g o u ah at9 a0 ak am f1 c1 m2)) hF (c_X4_thrown l g am m2) (cwV 0 hts gL_law_X4_thrown rfl rfl rfl (by decide +kernel) ⟨Nat.le_of_ble_eq_true rfl, Nat.le_of_ble_eq_true rfl⟩) hE hP hD hS hA (List.Perm.refl _) (List.Perm.refl _) 0 rfl rfl rfl rfl hl.1 rfl (Nat.le_of_ble_eq_true rfl) dL_law_454 ⟨by omega, by omega⟩ (fun H locs hP hD hS => ?_)
  refine W.widen (k := cells + 3) (n := slots + 18) (by omega) (by omega) ?_
  refine k_tailB (o := o) (cd := (ckR (xs (i + 1)))) (f1 := f1) (tgt := 1546) hx hb dL_law_457 dL_law_459 dL_law_464 dL_law_466 dL_law_469 dL_law_470 dL_law_471 dL_law_472 dL_law_474 dL_law_477 dL_law_478 dL_law_481 dL_law_482 dL_law_483 dL_law_488 (by decide) hE hP rfl (lv_at hl 6 rfl) (lv_at hl 1 rfl) (lv_at hl 0 rfl) (Nat.lt_of_le_of_lt (le_L_setOpen _) (by decide)) ef qt ?_
  exact kk H locs ls f1 c1 m2 S1 hP hD hS (lv_sub hl [2, 3, 4, 5, 6] rfl)
set_option maxHeartbeats 1000000 in
set_option maxRecDepth 100000 in
theorem st_setQuick {p : Program} {l : Launch} {e : Env} {s : State} {m : MethodId} {below : List Frame} {meth : Method} {c : Code} {H : Heap} {locs : List Loc} {cells slots : Nat} {Q : State → Prop} {ls : Array Slot} {g : kG} {sa : Nat → Nat} {b L i o u : Nat} {xs : Nat → Int32} {ah at9 a0 am : Nat → Nat} {ak : Nat → Nat → Nat} {f : Nat → Int64} {cs : CSt} {m9 : MSt} (LW : LwC p l s m c g sa b L xs) (hi : i + 4 ≤ L) (hcl : cells + 3 ≤ room_1.cells) (hsl : slots + 18 ≤ room_1.slots) (LI : LwI s g b o u ah at9 a0 ak am i H locs ls f cs m9) (kk : LwK p l e s m below meth c g b o u ah at9 a0 ak am i (cells + 3) (slots + 18) Q) : W p l e room_1 s m #[Value.ref b] below meth c H locs cells slots Q (F0 m 491 ls []) := by
  obtain ⟨hF, hfl, hE, hSt, hZ, hX, hbl, hLL⟩ := LW
  obtain ⟨hx, hb, hml, hown, hts⟩ := id hF
  obtain ⟨S, hP, hD, hS, hl⟩ := LI
  have hA : ∀ q : Nat, s.heap.size ≤ q → (fun q : Nat => s.heap.size ≤ q) q := fun _ h => h
  have hbA : ¬ (fun q : Nat => s.heap.size ≤ q) b := Nat.not_le.mpr hbl
  obtain ⟨-, -, hbo, hod, hsz, hjm, hbs, -, hn, hln, hch, -⟩ := id S
  have hbf := (sim_bf S).1
  refine lv_aload_n hx hb dL_law_491 rfl (lv_at hl 2 rfl) ?_
  refine k_arg (i := i) (k := 1) hx hb (by decide) (by omega) hLL hX hbl hbA hS (lv_at hl 1 rfl) (lv_at hl 0 rfl) dL_law_492 dL_law_493 dL_law_495 dL_law_496 dL_law_497 ?_
  refine k_boo hx hb dL_law_498 dL_law_501 dL_law_502 dL_law_505 ?_
  refine k_Vi (As := [.int (nI (b01 (¬ (xs (i + 1)) = 0)))]) (r := (hqk (ch cs))) (w0 := (wC g u ah at9 a0 ak cs)) (w1 := (wC g u ah at9 a0 ak (kpC cs (sHqk (ch cs) (nI (b01 (¬ (xs (i + 1)) = 0))))))) (wr := (wM g am m9) ++ (wO g o f)) (ws1 := (wA g o u ah at9 a0 ak am f (kpC cs (sHqk (ch cs) (nI (b01 (¬ (xs (i + 1)) = 0))))) m9)) hF (c_X3_setQuick l g u ah at9 a0 ak (ch cs) (csg cs) (cn cs) hn hch (cod cs) (csz cs) hod hsz (chs cs) hbo hbs (b01 (¬ (xs (i + 1)) = 0)) b01_lt) (cwV 1 hts gL_law_X3_setQuick rfl rfl rfl (by decide +kernel) ⟨Nat.le_of_ble_eq_true rfl, Nat.le_of_ble_eq_true rfl⟩) hE hP hD hS hA (pm_last _ _ _) (pm_last _ _ _).symm 7 rfl rfl rfl rfl hl.1 rfl (Nat.le_of_ble_eq_true rfl) dL_law_506 ⟨by omega, by omega⟩ (fun H locs hP hD hS => ?_)
  have eqA : (hqk (ch cs)) = (bI (ms m9 3 = nI 1)) := (q_setQuick S (b01 (¬ (xs (i + 1)) = 0)) b01_lt).1
  have S1 : Sim (kpC cs (sHqk (ch cs) (nI (b01 (¬ (xs (i + 1)) = 0))))) (sMs (Mkeep (csz cs) (sMth m9 (nI 0))) (upd (ms m9) 3 (nI (b01 (¬ (xs (i + 1)) = 0))))) := (q_setQuick S (b01 (¬ (xs (i + 1)) = 0)) b01_lt).2
  rw [eqA]
  obtain ⟨c1, ec1⟩ : ∃ x, (kpC cs (sHqk (ch cs) (nI (b01 (¬ (xs (i + 1)) = 0))))) = x := ⟨_, rfl⟩
  rw [ec1] at hP hD S1
  refine lv_aload_n hx hb dL_law_509 rfl (lv_at hl 3 rfl) ?_
  refine k_arg (i := i) (k := 1) hx hb (by decide) (by omega) hLL hX hbl hbA hS (lv_at hl 1 rfl) (lv_at hl 0 rfl) dL_law_510 dL_law_511 dL_law_513 dL_law_514 dL_law_515 ?_
  refine k_boo hx hb dL_law_516 dL_law_519 dL_law_520 dL_law_523 ?_
  refine k_Vi (As := [.int (nI (b01 (¬ (xs (i + 1)) = 0)))]) (r := (bI (ms m9 3 = nI 1))) (w0 := (wM g am m9)) (w1 := (wM g am (sMs (Mkeep (csz cs) (sMth m9 (nI 0))) (upd (ms m9) 3 (nI (b01 (¬ (xs (i + 1)) = 0))))))) (wr := (wOC g o u ah at9 a0 ak f c1)) (ws1 := (wA g o u ah at9 a0 ak am f c1 (sMs (Mkeep (csz cs) (sMth m9 (nI 0))) (upd (ms m9) 3 (nI (b01 (¬ (xs (i + 1)) = 0))))))) hF (c_X4_setQuick l g am m9 (csz cs) hsz hjm (b01 (¬ (xs (i + 1)) = 0)) b01_lt) (cwV 1 hts gL_law_X4_setQuick rfl rfl rfl (by decide +kernel) ⟨Nat.le_of_ble_eq_true rfl, Nat.le_of_ble_eq_true rfl⟩) hE hP hD hS hA (List.Perm.refl _) (List.Perm.refl _) 0 rfl rfl rfl rfl hl.1 rfl (Nat.le_of_ble_eq_true rfl) dL_law_524 ⟨by omega, by omega⟩ (fun H locs hP hD hS => ?_)
  obtain ⟨m2, em2⟩ : ∃ x, (sMs (Mkeep (csz cs) (sMth m9 (nI 0))) (upd (ms m9) 3 (nI (b01 (¬ (xs (i + 1)) = 0))))) = x := ⟨_, rfl⟩
  rw [em2] at hP hD S1
  refine W.widen (k := cells + 3) (n := slots + 18) (by omega) (by omega) ?_
  refine lv_icmp_eq (tgt := 1546) hx hb dL_law_527 (by decide) (fun _ => ?_) (fun h9 => absurd rfl h9)
  exact kk H locs ls f c1 m2 S1 hP hD hS hl
set_option maxHeartbeats 1000000 in
set_option maxRecDepth 100000 in
theorem st_setTimes {p : Program} {l : Launch} {e : Env} {s : State} {m : MethodId} {below : List Frame} {meth : Method} {c : Code} {H : Heap} {locs : List Loc} {cells slots : Nat} {Q : State → Prop} {ls : Array Slot} {g : kG} {sa : Nat → Nat} {b L i o u : Nat} {xs : Nat → Int32} {ah at9 a0 am : Nat → Nat} {ak : Nat → Nat → Nat} {f : Nat → Int64} {cs : CSt} {m9 : MSt} (LW : LwC p l s m c g sa b L xs) (hi : i + 4 ≤ L) (hcl : cells + 3 ≤ room_1.cells) (hsl : slots + 18 ≤ room_1.slots) (LI : LwI s g b o u ah at9 a0 ak am i H locs ls f cs m9) (kk : LwK p l e s m below meth c g b o u ah at9 a0 ak am i (cells + 3) (slots + 18) Q) : W p l e room_1 s m #[Value.ref b] below meth c H locs cells slots Q (F0 m 532 ls []) := by
  obtain ⟨hF, hfl, hE, hSt, hZ, hX, hbl, hLL⟩ := LW
  obtain ⟨hx, hb, hml, hown, hts⟩ := id hF
  obtain ⟨S, hP, hD, hS, hl⟩ := LI
  have hA : ∀ q : Nat, s.heap.size ≤ q → (fun q : Nat => s.heap.size ≤ q) q := fun _ h => h
  have hbA : ¬ (fun q : Nat => s.heap.size ≤ q) b := Nat.not_le.mpr hbl
  obtain ⟨-, -, hbo, hod, hsz, hjm, hbs, -, hn, hln, hch, -⟩ := id S
  have hbf := (sim_bf S).1
  refine lv_aload_n hx hb dL_law_532 rfl (lv_at hl 2 rfl) ?_
  refine k_arg (i := i) (k := 1) hx hb (by decide) (by omega) hLL hX hbl hbA hS (lv_at hl 1 rfl) (lv_at hl 0 rfl) dL_law_533 dL_law_534 dL_law_536 dL_law_537 dL_law_538 ?_
  refine k_arg (i := i) (k := 2) hx hb (by decide) (by omega) hLL hX hbl hbA hS (lv_at hl 1 rfl) (lv_at hl 0 rfl) dL_law_539 dL_law_540 dL_law_542 dL_law_543 dL_law_544 ?_
  refine k_arg (i := i) (k := 3) hx hb (by decide) (by omega) hLL hX hbl hbA hS (lv_at hl 1 rfl) (lv_at hl 0 rfl) dL_law_545 dL_law_546 dL_law_548 dL_law_549 dL_law_550 ?_
  refine lv_aload_n hx hb dL_law_551 rfl (lv_at hl 4 rfl) ?_
  obtain ⟨qt, q2, q3⟩ := q_setTimes S (xs (i + 1)) (xs (i + 2)) (xs (i + 3))
  obtain ⟨f1, c1, eW, ef, S1⟩ := law_pick (g := g) (o := o) (u := u) (ah := ah) (at9 := at9) (a0 := a0) (ak := ak) (f := f) q2 q3
  refine k_SWi (As := [.ref u, .int (xs (i + 1)), .int (xs (i + 2)), .int (xs (i + 3)), .ref o]) (r := nI (cdTimes (xs (i + 1)) (xs (i + 2)) (xs (i + 3)))) (w0 := (wOC g o u ah at9 a0 ak f cs)) (w1 := (if (cdTimes (xs (i + 1)) (xs (i + 2)) (xs (i + 3))) = 0 then (wOC g o u ah at9 a0 ak (vp_updL f 0 (Int32.toInt64 (hfd (ch cs)))) (kpC cs (UTimes (xs (i + 1)) (xs (i + 2)) (xs (i + 3)) (ch cs)))) else (wOC g o u ah at9 a0 ak f cs))) (wr := (wM g am m9)) (ws1 := (wM g am m9) ++ (if (cdTimes (xs (i + 1)) (xs (i + 2)) (xs (i + 3))) = 0 then (wOC g o u ah at9 a0 ak (vp_updL f 0 (Int32.toInt64 (hfd (ch cs)))) (kpC cs (UTimes (xs (i + 1)) (xs (i + 2)) (xs (i + 3)) (ch cs)))) else (wOC g o u ah at9 a0 ak f cs))) hF (c_L_setTimes l hfl g sa u ah at9 a0 ak (ch cs) (csg cs) (cn cs) hn hch (cod cs) (csz cs) hod hsz (chs cs) hbo hbs o f (xs (i + 1)) (xs (i + 2)) (xs (i + 3))) (vx_cwSW 5 hts gL_law_L_setTimes rfl rfl rfl (by decide +kernel) ⟨Nat.le_of_ble_eq_true rfl, Nat.le_of_ble_eq_true rfl⟩) hE hSt hZ hP hD hS hA List.perm_append_comm List.perm_append_comm rfl hl.1 rfl (Nat.le_of_ble_eq_true rfl) dL_law_552 ⟨by omega, by omega⟩ (fun H locs hP hD hS => ?_)
  rw [eW] at hP hD
  refine lv_istore (lv' := [(5, .int (nI (cdTimes (xs (i + 1)) (xs (i + 2)) (xs (i + 3))))), (4, .int (nI i)), (0, .ref b), (1, .ref u), (2, .ref (am 0)), (3, .ref o)]) hx hb dL_law_555 hl (by decide) rfl (fun ls hl => ?_)
  refine lv_aload_n hx hb dL_law_557 rfl (lv_at hl 4 rfl) ?_
  refine k_arg (i := i) (k := 1) hx hb (by decide) (by omega) hLL hX hbl hbA hS (lv_at hl 2 rfl) (lv_at hl 1 rfl) dL_law_558 dL_law_559 dL_law_561 dL_law_562 dL_law_563 ?_
  refine k_arg (i := i) (k := 2) hx hb (by decide) (by omega) hLL hX hbl hbA hS (lv_at hl 2 rfl) (lv_at hl 1 rfl) dL_law_564 dL_law_565 dL_law_567 dL_law_568 dL_law_569 ?_
  refine k_arg (i := i) (k := 3) hx hb (by decide) (by omega) hLL hX hbl hbA hS (lv_at hl 2 rfl) (lv_at hl 1 rfl) dL_law_570 dL_law_571 dL_law_573 dL_law_574 dL_law_575 ?_
  refine k_Vi (As := [.int (xs (i + 1)), .int (xs (i + 2)), .int (xs (i + 3))]) (r := (MtimesR (xs (i + 1)) (xs (i + 2)) (xs (i + 3)) m9)) (w0 := (wM g am m9)) (w1 := (wM g am (MtimesS (csz cs) (xs (i + 1)) (xs (i + 2)) (xs (i + 3)) m9))) (wr := (wOC g o u ah at9 a0 ak f1 c1)) (ws1 := (wA g o u ah at9 a0 ak am f1 c1 (MtimesS (csz cs) (xs (i + 1)) (xs (i + 2)) (xs (i + 3)) m9))) hF (c_X4_setTimes l g am m9 (csz cs) hsz hjm (xs (i + 1)) (xs (i + 2)) (xs (i + 3))) (cwV 3 hts gL_law_X4_setTimes rfl rfl rfl (by decide +kernel) ⟨Nat.le_of_ble_eq_true rfl, Nat.le_of_ble_eq_true rfl⟩) hE hP hD hS hA (List.Perm.refl _) (List.Perm.refl _) 0 rfl rfl rfl rfl hl.1 rfl (Nat.le_of_ble_eq_true rfl) dL_law_576 ⟨by omega, by omega⟩ (fun H locs hP hD hS => ?_)
  obtain ⟨m2, em2⟩ : ∃ x, (MtimesS (csz cs) (xs (i + 1)) (xs (i + 2)) (xs (i + 3)) m9) = x := ⟨_, rfl⟩
  rw [em2] at hP hD S1 qt
  obtain ⟨bv, ebv⟩ : ∃ x, (MtimesR (xs (i + 1)) (xs (i + 2)) (xs (i + 3)) m9) = x := ⟨_, rfl⟩
  rw [ebv] at ef ⊢
  refine lv_istore (lv' := [(6, .int bv), (5, .int (nI (cdTimes (xs (i + 1)) (xs (i + 2)) (xs (i + 3))))), (4, .int (nI i)), (0, .ref b), (1, .ref u), (2, .ref (am 0)), (3, .ref o)]) hx hb dL_law_579 hl (by decide) rfl (fun ls hl => ?_)
  refine lv_aload_n hx hb dL_law_581 rfl (lv_at hl 5 rfl) ?_
  refine k_Vi (As := []) (r := mth m2) (w0 := (wM g am m2)) (w1 := (wM g am m2)) (wr := (wOC g o u ah at9 a0 ak f1 c1)) (ws1 := (wA g o u ah at9 a0 ak am f1 c1 m2)) hF (c_X4_thrown l g am m2) (cwV 0 hts gL_law_X4_thrown rfl rfl rfl (by decide +kernel) ⟨Nat.le_of_ble_eq_true rfl, Nat.le_of_ble_eq_true rfl⟩) hE hP hD hS hA (List.Perm.refl _) (List.Perm.refl _) 0 rfl rfl rfl rfl hl.1 rfl (Nat.le_of_ble_eq_true rfl) dL_law_582 ⟨by omega, by omega⟩ (fun H locs hP hD hS => ?_)
  refine W.widen (k := cells + 3) (n := slots + 18) (by omega) (by omega) ?_
  refine k_tail (o := o) (cd := (cdTimes (xs (i + 1)) (xs (i + 2)) (xs (i + 3)))) (f1 := f1) (tgt := 1546) hx hb dL_law_585 dL_law_587 dL_law_592 dL_law_594 dL_law_597 dL_law_598 dL_law_599 dL_law_600 dL_law_602 dL_law_603 dL_law_604 dL_law_609 (by decide) hE hP rfl (lv_at hl 6 rfl) (lv_at hl 1 rfl) (lv_at hl 0 rfl) (Nat.lt_of_le_of_lt (le_L_setTimes _ _ _) (by decide)) ef qt ?_
  exact kk H locs ls f1 c1 m2 S1 hP hD hS (lv_sub hl [2, 3, 4, 5, 6] rfl)
set_option maxHeartbeats 1000000 in
set_option maxRecDepth 100000 in
theorem st_setPresent {p : Program} {l : Launch} {e : Env} {s : State} {m : MethodId} {below : List Frame} {meth : Method} {c : Code} {H : Heap} {locs : List Loc} {cells slots : Nat} {Q : State → Prop} {ls : Array Slot} {g : kG} {sa : Nat → Nat} {b L i o u : Nat} {xs : Nat → Int32} {ah at9 a0 am : Nat → Nat} {ak : Nat → Nat → Nat} {f : Nat → Int64} {cs : CSt} {m9 : MSt} (LW : LwC p l s m c g sa b L xs) (hi : i + 4 ≤ L) (hcl : cells + 3 ≤ room_1.cells) (hsl : slots + 18 ≤ room_1.slots) (LI : LwI s g b o u ah at9 a0 ak am i H locs ls f cs m9) (kk : LwK p l e s m below meth c g b o u ah at9 a0 ak am i (cells + 3) (slots + 18) Q) : W p l e room_1 s m #[Value.ref b] below meth c H locs cells slots Q (F0 m 612 ls []) := by
  obtain ⟨hF, hfl, hE, hSt, hZ, hX, hbl, hLL⟩ := LW
  obtain ⟨hx, hb, hml, hown, hts⟩ := id hF
  obtain ⟨S, hP, hD, hS, hl⟩ := LI
  have hA : ∀ q : Nat, s.heap.size ≤ q → (fun q : Nat => s.heap.size ≤ q) q := fun _ h => h
  have hbA : ¬ (fun q : Nat => s.heap.size ≤ q) b := Nat.not_le.mpr hbl
  obtain ⟨-, -, hbo, hod, hsz, hjm, hbs, -, hn, hln, hch, -⟩ := id S
  have hbf := (sim_bf S).1
  refine lv_aload_n hx hb dL_law_612 rfl (lv_at hl 2 rfl) ?_
  refine k_arg (i := i) (k := 1) hx hb (by decide) (by omega) hLL hX hbl hbA hS (lv_at hl 1 rfl) (lv_at hl 0 rfl) dL_law_613 dL_law_614 dL_law_616 dL_law_617 dL_law_618 ?_
  refine k_arg (i := i) (k := 2) hx hb (by decide) (by omega) hLL hX hbl hbA hS (lv_at hl 1 rfl) (lv_at hl 0 rfl) dL_law_619 dL_law_620 dL_law_622 dL_law_623 dL_law_624 ?_
  refine k_boo hx hb dL_law_625 dL_law_628 dL_law_629 dL_law_632 ?_
  refine lv_aload_n hx hb dL_law_633 rfl (lv_at hl 4 rfl) ?_
  obtain ⟨qt, q2, q3⟩ := q_setPresent S (xs (i + 1)) (b01 (¬ (xs (i + 2)) = 0)) b01_lt
  obtain ⟨f1, c1, eW, ef, S1⟩ := law_pick (g := g) (o := o) (u := u) (ah := ah) (at9 := at9) (a0 := a0) (ak := ak) (f := f) q2 q3
  refine k_SWi (As := [.ref u, .int (xs (i + 1)), .int (nI (b01 (¬ (xs (i + 2)) = 0))), .ref o]) (r := nI (cdPres (xs (i + 1)))) (w0 := (wOC g o u ah at9 a0 ak f cs)) (w1 := (if (cdPres (xs (i + 1))) = 0 then (wOC g o u ah at9 a0 ak (vp_updL f 0 (Int32.toInt64 (Hchief (UPres (xs (i + 1)) (b01 (¬ (xs (i + 2)) = 0)) (ch cs))))) (kpC cs (UPres (xs (i + 1)) (b01 (¬ (xs (i + 2)) = 0)) (ch cs)))) else (wOC g o u ah at9 a0 ak f cs))) (wr := (wM g am m9)) (ws1 := (wM g am m9) ++ (if (cdPres (xs (i + 1))) = 0 then (wOC g o u ah at9 a0 ak (vp_updL f 0 (Int32.toInt64 (Hchief (UPres (xs (i + 1)) (b01 (¬ (xs (i + 2)) = 0)) (ch cs))))) (kpC cs (UPres (xs (i + 1)) (b01 (¬ (xs (i + 2)) = 0)) (ch cs)))) else (wOC g o u ah at9 a0 ak f cs))) hF (c_L_setPresent l hfl g sa u ah at9 a0 ak (ch cs) (csg cs) (cn cs) hn hch (cod cs) (csz cs) hod hsz (chs cs) hbo hbs o f (xs (i + 1)) (b01 (¬ (xs (i + 2)) = 0)) b01_lt) (vx_cwSW 4 hts gL_law_L_setPresent rfl rfl rfl (by decide +kernel) ⟨Nat.le_of_ble_eq_true rfl, Nat.le_of_ble_eq_true rfl⟩) hE hSt hZ hP hD hS hA List.perm_append_comm List.perm_append_comm rfl hl.1 rfl (Nat.le_of_ble_eq_true rfl) dL_law_634 ⟨by omega, by omega⟩ (fun H locs hP hD hS => ?_)
  rw [eW] at hP hD
  refine lv_istore (lv' := [(5, .int (nI (cdPres (xs (i + 1))))), (4, .int (nI i)), (0, .ref b), (1, .ref u), (2, .ref (am 0)), (3, .ref o)]) hx hb dL_law_637 hl (by decide) rfl (fun ls hl => ?_)
  refine lv_aload_n hx hb dL_law_639 rfl (lv_at hl 4 rfl) ?_
  refine k_arg (i := i) (k := 1) hx hb (by decide) (by omega) hLL hX hbl hbA hS (lv_at hl 2 rfl) (lv_at hl 1 rfl) dL_law_640 dL_law_641 dL_law_643 dL_law_644 dL_law_645 ?_
  refine k_arg (i := i) (k := 2) hx hb (by decide) (by omega) hLL hX hbl hbA hS (lv_at hl 2 rfl) (lv_at hl 1 rfl) dL_law_646 dL_law_647 dL_law_649 dL_law_650 dL_law_651 ?_
  refine k_boo hx hb dL_law_652 dL_law_655 dL_law_656 dL_law_659 ?_
  refine k_Vi (As := [.int (xs (i + 1)), .int (nI (b01 (¬ (xs (i + 2)) = 0)))]) (r := (MpresR (xs (i + 1)) (b01 (¬ (xs (i + 2)) = 0)) m9)) (w0 := (wM g am m9)) (w1 := (wM g am (MpresS (csz cs) (xs (i + 1)) (b01 (¬ (xs (i + 2)) = 0)) m9))) (wr := (wOC g o u ah at9 a0 ak f1 c1)) (ws1 := (wA g o u ah at9 a0 ak am f1 c1 (MpresS (csz cs) (xs (i + 1)) (b01 (¬ (xs (i + 2)) = 0)) m9))) hF (c_X4_setPresent l g am m9 (csz cs) hsz hjm (xs (i + 1)) (b01 (¬ (xs (i + 2)) = 0)) b01_lt) (cwV 2 hts gL_law_X4_setPresent rfl rfl rfl (by decide +kernel) ⟨Nat.le_of_ble_eq_true rfl, Nat.le_of_ble_eq_true rfl⟩) hE hP hD hS hA (List.Perm.refl _) (List.Perm.refl _) 0 rfl rfl rfl rfl hl.1 rfl (Nat.le_of_ble_eq_true rfl) dL_law_660 ⟨by omega, by omega⟩ (fun H locs hP hD hS => ?_)
  obtain ⟨m2, em2⟩ : ∃ x, (MpresS (csz cs) (xs (i + 1)) (b01 (¬ (xs (i + 2)) = 0)) m9) = x := ⟨_, rfl⟩
  rw [em2] at hP hD S1 qt
  obtain ⟨bv, ebv⟩ : ∃ x, (MpresR (xs (i + 1)) (b01 (¬ (xs (i + 2)) = 0)) m9) = x := ⟨_, rfl⟩
  rw [ebv] at ef ⊢
  refine lv_istore (lv' := [(6, .int bv), (5, .int (nI (cdPres (xs (i + 1))))), (4, .int (nI i)), (0, .ref b), (1, .ref u), (2, .ref (am 0)), (3, .ref o)]) hx hb dL_law_663 hl (by decide) rfl (fun ls hl => ?_)
  refine lv_aload_n hx hb dL_law_665 rfl (lv_at hl 5 rfl) ?_
  refine k_Vi (As := []) (r := mth m2) (w0 := (wM g am m2)) (w1 := (wM g am m2)) (wr := (wOC g o u ah at9 a0 ak f1 c1)) (ws1 := (wA g o u ah at9 a0 ak am f1 c1 m2)) hF (c_X4_thrown l g am m2) (cwV 0 hts gL_law_X4_thrown rfl rfl rfl (by decide +kernel) ⟨Nat.le_of_ble_eq_true rfl, Nat.le_of_ble_eq_true rfl⟩) hE hP hD hS hA (List.Perm.refl _) (List.Perm.refl _) 0 rfl rfl rfl rfl hl.1 rfl (Nat.le_of_ble_eq_true rfl) dL_law_666 ⟨by omega, by omega⟩ (fun H locs hP hD hS => ?_)
  refine W.widen (k := cells + 3) (n := slots + 18) (by omega) (by omega) ?_
  refine k_tail (o := o) (cd := (cdPres (xs (i + 1)))) (f1 := f1) (tgt := 1546) hx hb dL_law_669 dL_law_671 dL_law_676 dL_law_678 dL_law_681 dL_law_682 dL_law_683 dL_law_684 dL_law_686 dL_law_687 dL_law_688 dL_law_693 (by decide) hE hP rfl (lv_at hl 6 rfl) (lv_at hl 1 rfl) (lv_at hl 0 rfl) (Nat.lt_of_le_of_lt (le_L_setPresent _) (by decide)) ef qt ?_
  exact kk H locs ls f1 c1 m2 S1 hP hD hS (lv_sub hl [2, 3, 4, 5, 6] rfl)
