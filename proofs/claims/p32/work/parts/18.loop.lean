/-! the loop of the law, its start -/
set_option maxHeartbeats 4000000 in
set_option maxRecDepth 100000 in
/-- the law's loop -/
theorem law_loop {p : Program} {l : Launch} {e : Env} {s : State} {m : MethodId} {below : List Frame} {meth : Method} {c : Code} {g : kG} {b L u : Nat} {xs : Nat → Int32} {ah at9 a0 : Nat → Nat} {ak : Nat → Nat → Nat} (hF : CallFix p m c cL_law 11 s #[Value.ref b] wsL_law RL) (hr : meth.sig.returnType = ret) (hlocks : meth.locks = false) (hE : kE g s) (hX : va_X b L xs s s.heap) (hbl : b < s.heap.size) (hL : L ≤ 260) {H : Heap} {locs : List Loc} {ls : Array Slot} (hP : va_P g.1 vwCl (wC g u ah at9 a0 ak cs00) H) (hD : va_D (fun q : Nat => s.heap.size ≤ q) (wC g u ah at9 a0 ak cs00)) (hS : va_S (fun q : Nat => s.heap.size ≤ q) s.heap H locs) (hl : lv_has ls 11 [(2, .int (nI 0)), (0, .ref b), (1, .ref u)]) : W p l e room_1 s m #[Value.ref b] below meth c H locs 33 872 (lw_Z below #[Value.ref b] s) (F0 m 10 ls []) := by
  obtain ⟨hx, hb, hml, hown, hts⟩ := id hF
  have hA : ∀ q : Nat, s.heap.size ≤ q → (fun q : Nat => s.heap.size ≤ q) q := fun _ h => h
  have hbA : ¬ (fun q : Nat => s.heap.size ≤ q) b := Nat.not_le.mpr hbl
  have hL31 : L < 2 ^ 31 := Nat.lt_of_le_of_lt hL (by decide)
  refine k_loop (N := 36) (Inv := fun (i : Nat) (H : Heap) (locs : List Loc) (ls : Array Slot) => ∃ (cs : CSt), GS i cs ∧ va_P g.1 vwCl (wC g u ah at9 a0 ak cs) H ∧ va_D (fun q : Nat => s.heap.size ≤ q) (wC g u ah at9 a0 ak cs) ∧ va_S (fun q : Nat => s.heap.size ≤ q) s.heap H locs ∧ lv_has ls 11 [(2, .int (nI i)), (0, .ref b), (1, .ref u)]) 0 (Nat.zero_le _) ⟨cs00, gs_0, hP, hD, hS, hl⟩ (fun i hle ih H locs ls hinv => ?_)
  obtain ⟨cs, G, hP, hD, hS, hl⟩ := hinv
  refine lv_iload_n hx hb dL_law_10 rfl (lv_at hl 0 rfl) ?_
  refine lv_bipush (v := (nI 36)) hx hb dL_law_11 (by decide) ?_
  refine k_geN (tgt := 242) hx hb (by omega) (by decide) dL_law_13 (by decide) (fun c1 => ?_) (fun hlt => ?_)
  · refine lv_iconst (v := 1) hx hb dL_law_242 (by decide) ?_
    refine va_forget (fun q hq => hS.2.2 q hq) ?_
    refine W.widen (k := 600130) (n := 7301080) (Nat.le_of_ble_eq_true rfl) (Nat.le_of_ble_eq_true rfl) ?_
    refine W.base ?_
    exact lw_ret (Drawn.sameBut.refl s.drawn lw_cs) hx hb hr hlocks dL_law_243
  · have K10 : ∀ (c9 : CSt) (H : Heap) (locs : List Loc) (ls : Array Slot), GS (i + 1) c9 → va_P g.1 vwCl (wC g u ah at9 a0 ak c9) H → va_D (fun q : Nat => s.heap.size ≤ q) (wC g u ah at9 a0 ak c9) → va_S (fun q : Nat => s.heap.size ≤ q) s.heap H locs → lv_has ls 11 [(2, .int (nI (i + 1))), (0, .ref b), (1, .ref u)] → W p l e room_1 s m #[Value.ref b] below meth c H locs 33 872 (lw_Z below #[Value.ref b] s) (F0 m 10 ls []) := fun c9 H locs ls G9 hP9 hD9 hS9 hl9 => ih H locs ls hlt ⟨c9, G9, hP9, hD9, hS9, hl9⟩
    obtain ⟨hod, hz5, hG, hGs⟩ := id G
    have hI := hG.1
    have hbo := hG.2.1
    have hbs : ∀ j, Hbo (chs cs j) := fun j => (hGs j).2.1
    refine lv_aload_n hx hb dL_law_16 rfl (lv_at hl 1 rfl) ?_
    refine lv_iconst (v := (nI 2)) hx hb dL_law_17 (by decide) ?_
    refine lv_iload_n hx hb dL_law_18 rfl (lv_at hl 0 rfl) ?_
    refine lv_imul hx hb dL_law_19 ?_
    refine k_top (pk_mul _ _) ?_
    refine k_cell hF hL31 (by omega) hX hbl hbA (va_cwS 2 hts gL_law_L_cell rfl rfl rfl (by decide +kernel) ⟨(Nat.le_of_ble_eq_true rfl), (Nat.le_of_ble_eq_true rfl)⟩) hP hD hS hA hl.1 rfl (Nat.le_of_ble_eq_true rfl) dL_law_20 ⟨(Nat.le_of_ble_eq_true rfl), (Nat.le_of_ble_eq_true rfl)⟩ (fun H locs hP hD hS => ?_)
    obtain ⟨v, ev⟩ : ∃ x : Int32, cellV xs L (2 * i) = x := ⟨_, rfl⟩
    refine k_top ev ?_
    refine lv_istore_n (lv' := [(3, .int v), (2, .int (nI i)), (0, .ref b), (1, .ref u)]) hx hb dL_law_23 rfl hl (by decide) rfl (fun ls hl => ?_)
    refine lv_aload_n hx hb dL_law_24 rfl (lv_at hl 2 rfl) ?_
    refine lv_iconst (v := (nI 2)) hx hb dL_law_25 (by decide) ?_
    refine lv_iload_n hx hb dL_law_26 rfl (lv_at hl 1 rfl) ?_
    refine lv_imul hx hb dL_law_27 ?_
    refine k_top (pk_mul _ _) ?_
    refine lv_iconst (v := (nI 1)) hx hb dL_law_28 (by decide) ?_
    refine lv_iadd hx hb dL_law_29 ?_
    refine k_top (nI_add _ _) ?_
    refine k_cell hF hL31 (by omega) hX hbl hbA (va_cwS 2 hts gL_law_L_cell rfl rfl rfl (by decide +kernel) ⟨(Nat.le_of_ble_eq_true rfl), (Nat.le_of_ble_eq_true rfl)⟩) hP hD hS hA hl.1 rfl (Nat.le_of_ble_eq_true rfl) dL_law_30 ⟨(Nat.le_of_ble_eq_true rfl), (Nat.le_of_ble_eq_true rfl)⟩ (fun H locs hP hD hS => ?_)
    obtain ⟨w, ew⟩ : ∃ x : Int32, cellV xs L ((2 * i) + 1) = x := ⟨_, rfl⟩
    refine k_top ew ?_
    refine lv_istore (lv' := [(4, .int w), (3, .int v), (2, .int (nI i)), (0, .ref b), (1, .ref u)]) hx hb dL_law_33 hl (by decide) rfl (fun ls hl => ?_)
    refine lv_aload_n hx hb dL_law_35 rfl (lv_at hl 4 rfl) ?_
    refine k_Vi (As := []) (r := (nI (csz cs))) hF (c_X3_savedStates l g u ah at9 a0 ak (ch cs) (csg cs) (cn cs) (cod cs) (csz cs) (chs cs)) (cwV 0 hts gL_law_X3_savedStates rfl rfl rfl (by decide +kernel) ⟨Nat.le_of_ble_eq_true rfl, Nat.le_of_ble_eq_true rfl⟩) hE hP hD hS hA (k_pall _) ((k_pall _).symm) 0 rfl rfl rfl rfl hl.1 rfl (Nat.le_of_ble_eq_true rfl) dL_law_36 ⟨Nat.le_of_ble_eq_true rfl, Nat.le_of_ble_eq_true rfl⟩ (fun H locs hP hD hS => ?_)
    have hP : va_P g.1 vwCl ((wU u (ah 0) (a0 0) (at9 0)) ++ ((wH g ah (ch cs)) ++ ((wT g at9 ((csg cs), (nI (cn cs)))) ++ ((wK0 g a0 ak ((nI (cod cs)), (nI (csz cs)))) ++ (wHs g ak (chs cs) 6))))) _ := hP
    have hD : va_D (fun q : Nat => s.heap.size ≤ q) ((wU u (ah 0) (a0 0) (at9 0)) ++ ((wH g ah (ch cs)) ++ ((wT g at9 ((csg cs), (nI (cn cs)))) ++ ((wK0 g a0 ak ((nI (cod cs)), (nI (csz cs)))) ++ (wHs g ak (chs cs) 6))))) := hD
    refine lv_iconst (v := (nI 5)) hx hb dL_law_39 (by decide) ?_
    refine k_ltN (tgt := 53) hx hb (by omega) (by decide) dL_law_40 (by decide) (fun c1 => ?_) (fun c1 => ?_)
    ·
      exact law_mid hF hE hlt (law_tail hF hE hlt K10) cs H locs ls G (by omega) hP hD hS (lv_sub hl [2, 1, 0, 3, 4] rfl)
    ·
      obtain ⟨q9, hq9⟩ : ∃ q : Nat, csz cs = q + 1 + 1 := ⟨csz cs - 2, by omega⟩
      rw [hq9] at hP hD
      have hP : va_P g.1 vwCl ((wU u (ah 0) (a0 0) (at9 0)) ++ ((wH g ah (ch cs)) ++ ((wT g at9 ((csg cs), (nI (cn cs)))) ++ ((wK0 g a0 ak ((nI (cod cs)), (nI (q9 + 1 + 1)))) ++ (wHs g ak (chs cs) 6))))) _ := hP
      have hD : va_D (fun q : Nat => s.heap.size ≤ q) ((wU u (ah 0) (a0 0) (at9 0)) ++ ((wH g ah (ch cs)) ++ ((wT g at9 ((csg cs), (nI (cn cs)))) ++ ((wK0 g a0 ak ((nI (cod cs)), (nI (q9 + 1 + 1)))) ++ (wHs g ak (chs cs) 6))))) := hD
      refine lv_aload_n hx hb dL_law_43 rfl (lv_at hl 4 rfl) ?_
      refine k_Vi (As := []) (r := (nI (q9 + 1))) hF (c_X3_undo l g u ah at9 a0 ak (ch cs) (csg cs) (cn cs) (cod cs) (q9 + 1) (chs cs) (by omega) (by omega) hbs) (cwV 0 hts gL_law_X3_undo rfl rfl rfl (by decide +kernel) ⟨Nat.le_of_ble_eq_true rfl, Nat.le_of_ble_eq_true rfl⟩) hE hP hD hS hA (k_pall _) ((k_pall _).symm) 0 rfl rfl rfl rfl hl.1 rfl (Nat.le_of_ble_eq_true rfl) dL_law_44 ⟨Nat.le_of_ble_eq_true rfl, Nat.le_of_ble_eq_true rfl⟩ (fun H locs hP hD hS => ?_)
      have hP : va_P g.1 vwCl ((wU u (ah 0) (a0 0) (at9 0)) ++ ((wH g ah ((chs cs) (((cod cs) + (q9 + 1)) % 6))) ++ ((wT g at9 ((csg cs), (nI (cn cs)))) ++ ((wK0 g a0 ak ((nI (cod cs)), (nI (q9 + 1)))) ++ (wHs g ak (chs cs) 6))))) _ := hP
      have hD : va_D (fun q : Nat => s.heap.size ≤ q) ((wU u (ah 0) (a0 0) (at9 0)) ++ ((wH g ah ((chs cs) (((cod cs) + (q9 + 1)) % 6))) ++ ((wT g at9 ((csg cs), (nI (cn cs)))) ++ ((wK0 g a0 ak ((nI (cod cs)), (nI (q9 + 1)))) ++ (wHs g ak (chs cs) 6))))) := hD
      obtain ⟨z2, ez2⟩ : ∃ x : HSt, ((chs cs) (((cod cs) + (q9 + 1)) % 6)) = x := ⟨_, rfl⟩
      rw [ez2] at hP hD
      refine lv_pop hx hb dL_law_47 rfl ?_
      refine lv_aload_n hx hb dL_law_48 rfl (lv_at hl 4 rfl) ?_
      refine k_Vi (As := []) (r := (nI q9)) hF (c_X3_undo l g u ah at9 a0 ak z2 (csg cs) (cn cs) (cod cs) q9 (chs cs) (by omega) (by omega) hbs) (cwV 0 hts gL_law_X3_undo rfl rfl rfl (by decide +kernel) ⟨Nat.le_of_ble_eq_true rfl, Nat.le_of_ble_eq_true rfl⟩) hE hP hD hS hA (k_pall _) ((k_pall _).symm) 0 rfl rfl rfl rfl hl.1 rfl (Nat.le_of_ble_eq_true rfl) dL_law_49 ⟨Nat.le_of_ble_eq_true rfl, Nat.le_of_ble_eq_true rfl⟩ (fun H locs hP hD hS => ?_)
      have hP : va_P g.1 vwCl ((wU u (ah 0) (a0 0) (at9 0)) ++ ((wH g ah ((chs cs) (((cod cs) + q9) % 6))) ++ ((wT g at9 ((csg cs), (nI (cn cs)))) ++ ((wK0 g a0 ak ((nI (cod cs)), (nI q9))) ++ (wHs g ak (chs cs) 6))))) _ := hP
      have hD : va_D (fun q : Nat => s.heap.size ≤ q) ((wU u (ah 0) (a0 0) (at9 0)) ++ ((wH g ah ((chs cs) (((cod cs) + q9) % 6))) ++ ((wT g at9 ((csg cs), (nI (cn cs)))) ++ ((wK0 g a0 ak ((nI (cod cs)), (nI q9))) ++ (wHs g ak (chs cs) 6))))) := hD
      obtain ⟨z3, ez3⟩ : ∃ x : HSt, ((chs cs) (((cod cs) + q9) % 6)) = x := ⟨_, rfl⟩
      rw [ez3] at hP hD
      refine lv_pop hx hb dL_law_52 rfl ?_
      exact law_mid hF hE hlt (law_tail hF hE hlt K10) (z3, cod cs, q9, chs cs, csg cs, cn cs) H locs ls ⟨hod, by show q9 ≤ 5; omega, by show GH i z3; rw [← ez3]; exact hGs _, hGs⟩ (by show q9 ≤ 4; omega) hP hD hS (lv_sub hl [2, 1, 0, 3, 4] rfl)
set_option maxHeartbeats 4000000 in
set_option maxRecDepth 100000 in
/-- the law, from its entry -/
theorem whole_start {p : Program} {e : Env} {s : State} {m : MethodId} {below : List Frame} {meth : Method} {c : Code} (l : Launch) (hflags : l.flags = flags0) {b L : Nat} {xs : Nat → Int32} (hL : L ≤ 260) (C0 : lw_At p s m meth c b L xs) : W p l e room_1 s m #[Value.ref b] below meth c s.heap [] 0 0 (lw_Z below #[Value.ref b] s) (entryFrame m ([Value.ref b] : List Value).toArray 11) := by
  obtain ⟨hx, hb, hr, hml, hown, hts0, hX, hbl, hlocks, hgv⟩ := id C0
  have hts : ∀ w ∈ wsL_law, w.before #[Value.ref b] s = true := fun w h => hts0 w (wsL_law_in w h)
  obtain ⟨g, hE⟩ := law_kE hts0
  have hown : s.vm.findClass RL = some m.cls := hown
  have hF : CallFix p m c cL_law 11 s #[Value.ref b] wsL_law RL := ⟨hx, hb, hml, hown, hts⟩
  have hA : ∀ q : Nat, s.heap.size ≤ q → (fun q : Nat => s.heap.size ≤ q) q := fun _ h => h
  have hS : va_S (fun q : Nat => s.heap.size ≤ q) s.heap s.heap [] := va_S.rf
  have hP : va_P g.1 vwCl [] s.heap := fun k q h => by simp at h
  have hD : va_D (fun q : Nat => s.heap.size ≤ q) [] := ⟨fun i j p q h => by simp at h, fun k q h => by simp at h⟩
  have hl := lv_entry ([.ref b]) (n := 11) (Nat.le_of_ble_eq_true rfl)
  rw [lg_entry_eq]
  generalize (lg_sl ([.ref b]) ++ List.replicate (11 - (lg_sl ([.ref b])).length) Slot.unset).toArray = ls at hl ⊢
  have hl : lv_has ls 11 [(0, .ref b)] := hl
  refine va_new (ci := 3) (C := RX3) (T := TX3) (N := 3) (fs := raw3) hx hb hts inlX3 tyX3 tyX3_ok hown (hts0 (.classLink RL 11 RX3) (List.mem_append_right _ (List.mem_of_getElem? (i := 14) (by decide +kernel)))) (hts0 (.instantiable RX3 3) (List.mem_append_right _ (List.mem_of_getElem? (i := 15) (by decide +kernel)))) (hts0 (.initialized RX3) (List.mem_append_right _ (List.mem_of_getElem? (i := 1) (by decide +kernel)))) hE.1 hP hD hS hA rfl (fun j hj => by rcases (show j = 0 ∨ j = 1 ∨ j = 2 by omega) with rfl | rfl | rfl <;> rfl) (Nat.le_of_ble_eq_true rfl) (Nat.le_of_ble_eq_true rfl) dL_law_0 (fun q1 H hP hD hS => ?_)
  have hP : va_P g.1 vwCl [(q1, .inr (3, raw3))] H := hP
  have hD : va_D (fun q : Nat => s.heap.size ≤ q) [(q1, .inr (3, raw3))] := hD
  refine lv_dup hx hb dL_law_3 rfl ?_
  refine k_In (As := []) (w0 := [(q1, .inr (3, raw3))]) (wr := []) hF (c_X3_init l g q1) ⟨callB_of 0 hts gL_law_X3_init rfl rfl rfl (hts0 (.initialized RX3) (List.mem_append_right _ (List.mem_of_getElem? (i := 1) (by decide +kernel)))) (hts0 (.methodLink RL 100 yX3_init) (List.mem_append_right _ (List.mem_of_getElem? (i := 16) (by decide +kernel)))) (by decide +kernel) ⟨(Nat.le_of_ble_eq_true rfl), (Nat.le_of_ble_eq_true rfl)⟩, rfl, (hts0 (.instanceMethod yX3_init) (List.mem_append_right _ (List.mem_of_getElem? (i := 17) (by decide +kernel))))⟩ hE hP hD hS hA (k_pall _) (fun _ => (k_pall _).symm) rfl hl.1 rfl (Nat.le_of_ble_eq_true rfl) dL_law_4 ⟨(Nat.le_of_ble_eq_true rfl), (Nat.le_of_ble_eq_true rfl)⟩ (fun u1 H locs hu hP hD hS => ?_)
  obtain ⟨ah, at9, a0, ak⟩ := u1
  have hP : va_P g.1 vwCl (wC g q1 ah at9 a0 ak cs00) H := hP
  have hD : va_D (fun q : Nat => s.heap.size ≤ q) (wC g q1 ah at9 a0 ak cs00) := hD
  refine lv_astore_n (lv' := [(1, .ref q1), (0, .ref b)]) hx hb dL_law_7 rfl hl (by decide) rfl (fun ls hl => ?_)
  refine lv_iconst (v := nI 0) hx hb dL_law_8 (by decide) ?_
  refine lv_istore_n (lv' := [(2, .int (nI 0)), (1, .ref q1), (0, .ref b)]) hx hb dL_law_9 rfl hl (by decide) rfl (fun ls hl => ?_)
  refine W.widen (k := 33) (n := 872) (Nat.le_of_ble_eq_true rfl) (Nat.le_of_ble_eq_true rfl) ?_
  exact law_loop hF hr hlocks hE hX hbl hL hP hD hS (lv_sub hl [0, 2, 1] rfl)
