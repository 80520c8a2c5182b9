/-! a turn of the law -/
set_option maxHeartbeats 4000000 in
set_option maxRecDepth 100000 in
/-- a turn's end: what holds there -/
theorem law_tail {p : Program} {l : Launch} {e : Env} {s : State} {m : MethodId} {below : List Frame} {meth : Method} {c : Code} {g : kG} {b u : Nat} {ah at9 a0 : Nat → Nat} {ak : Nat → Nat → Nat} {Q : State → Prop} {i : Nat} (hF : CallFix p m c cL_law 11 s #[Value.ref b] wsL_law RL) (hE : kE g s) (hi : i < 36) {v w : Int32}
    (K10 : ∀ (cs : CSt) (H : Heap) (locs : List Loc) (ls : Array Slot), GS (i + 1) cs → va_P g.1 vwCl (wC g u ah at9 a0 ak cs) H → va_D (fun q : Nat => s.heap.size ≤ q) (wC g u ah at9 a0 ak cs) → va_S (fun q : Nat => s.heap.size ≤ q) s.heap H locs → lv_has ls 11 [(2, .int (nI (i + 1))), (0, .ref b), (1, .ref u)] → W p l e room_1 s m #[Value.ref b] below meth c H locs 33 872 Q (F0 m 10 ls [])) : ∀ (cs : CSt) (H : Heap) (locs : List Loc) (ls : Array Slot), GS (i + 1) cs → va_P g.1 vwCl (wC g u ah at9 a0 ak cs) H → va_D (fun q : Nat => s.heap.size ≤ q) (wC g u ah at9 a0 ak cs) → va_S (fun q : Nat => s.heap.size ≤ q) s.heap H locs → lv_has ls 11 [(2, .int (nI i)), (3, .int v), (4, .int w), (0, .ref b), (1, .ref u)] → W p l e room_1 s m #[Value.ref b] below meth c H locs 33 872 Q (F0 m 179 ls []) := by
  obtain ⟨hx, hb, hml, hown, hts⟩ := id hF
  have hA : ∀ q : Nat, s.heap.size ≤ q → (fun q : Nat => s.heap.size ≤ q) q := fun _ h => h
  intro cs H locs ls G hP hD hS hl
  obtain ⟨hod, hz5, hG, hGs⟩ := id G
  have hI := hG.1
  have hbo := hG.2.1
  have hbs : ∀ j, Hbo (chs cs j) := fun j => (hGs j).2.1
  refine lv_iload_n hx hb dL_law_179 rfl (lv_at hl 0 rfl) ?_
  refine lv_iconst (v := (nI 3)) hx hb dL_law_180 (by decide) ?_
  refine lv_irem hx hb dL_law_181 (by decide) ?_
  refine k_top (pk_rem (by omega) (by decide) (by decide)) ?_
  refine k_ifn0 (tgt := 192) hx hb (by omega) dL_law_182 (by decide) (fun c1 => ?_) (fun c1 => ?_)
  ·
    refine lv_aload_n hx hb dL_law_192 rfl (lv_at hl 4 rfl) ?_
    refine lv_iload hx hb dL_law_193 (lv_at hl 2 rfl) ?_
    refine lv_iconst (v := (nI 2)) hx hb dL_law_195 (by decide) ?_
    refine lv_ishr hx hb dL_law_196 ?_
    refine lv_bipush (v := (nI 6)) hx hb dL_law_197 (by decide) ?_
    refine k_Si (w0 := []) (w1 := []) (As := [.int (w >>> ((nI 2) &&& 31)), .int (nI 6)]) (r := (nI (lowN (w >>> ((nI 2) &&& 31)) 6))) hF (c_L_low l g (w >>> ((nI 2) &&& 31)) 6 (by decide) (by decide)) (va_cwS 2 hts gL_law_L_low rfl rfl rfl (by decide +kernel) ⟨Nat.le_of_ble_eq_true rfl, Nat.le_of_ble_eq_true rfl⟩) hE hP hD hS hA (List.Perm.refl _) (List.Perm.refl _) rfl hl.1 rfl (Nat.le_of_ble_eq_true rfl) dL_law_199 ⟨Nat.le_of_ble_eq_true rfl, Nat.le_of_ble_eq_true rfl⟩ (fun H locs hP hD hS => ?_)
    have hP : va_P g.1 vwCl ((wU u (ah 0) (a0 0) (at9 0)) ++ ((wH g ah (ch cs)) ++ ((wT g at9 ((csg cs), (nI (cn cs)))) ++ ((wK0 g a0 ak ((nI (cod cs)), (nI (csz cs)))) ++ (wHs g ak (chs cs) 6))))) _ := hP
    have hD : va_D (fun q : Nat => s.heap.size ≤ q) ((wU u (ah 0) (a0 0) (at9 0)) ++ ((wH g ah (ch cs)) ++ ((wT g at9 ((csg cs), (nI (cn cs)))) ++ ((wK0 g a0 ak ((nI (cod cs)), (nI (csz cs)))) ++ (wHs g ak (chs cs) 6))))) := hD
    refine k_Si (As := [.ref u, .int (nI (lowN (w >>> ((nI 2) &&& 31)) 6))]) (r := (nI 1)) hF (c_L_isPlayed l g u ah at9 a0 ak (ch cs) (csg cs) (cn cs) (cod cs) (csz cs) (chs cs) (by omega) (by omega) hbo hbs hI (lowN (w >>> ((nI 2) &&& 31)) 6) (lowN_lt _ (by decide))) (va_cwS 2 hts gL_law_L_isPlayed rfl rfl rfl (by decide +kernel) ⟨Nat.le_of_ble_eq_true rfl, Nat.le_of_ble_eq_true rfl⟩) hE hP hD hS hA (k_pall _) ((k_pall _).symm) rfl hl.1 rfl (Nat.le_of_ble_eq_true rfl) dL_law_202 ⟨Nat.le_of_ble_eq_true rfl, Nat.le_of_ble_eq_true rfl⟩ (fun H locs hP hD hS => ?_)
    have hP : va_P g.1 vwCl ((wU u (ah 0) (a0 0) (at9 0)) ++ ((wH g ah (ch cs)) ++ ((wT g at9 ((csg cs), (nI (cn cs)))) ++ ((wK0 g a0 ak ((nI (cod cs)), (nI (csz cs)))) ++ (wHs g ak (va_up (chs cs) (((cod cs) + (csz cs)) % 6) (ch cs)) 6))))) _ := hP
    have hD : va_D (fun q : Nat => s.heap.size ≤ q) ((wU u (ah 0) (a0 0) (at9 0)) ++ ((wH g ah (ch cs)) ++ ((wT g at9 ((csg cs), (nI (cn cs)))) ++ ((wK0 g a0 ak ((nI (cod cs)), (nI (csz cs)))) ++ (wHs g ak (va_up (chs cs) (((cod cs) + (csz cs)) % 6) (ch cs)) 6))))) := hD
    refine k_if0 (tgt := 234) hx hb (by decide) dL_law_205 (by decide) (fun c2 => ?_) (fun c2 => ?_)
    ·
      exact absurd c2 (by decide)
    ·
      refine lv_aload_n hx hb dL_law_208 rfl (lv_at hl 4 rfl) ?_
      refine lv_iload hx hb dL_law_209 (lv_at hl 2 rfl) ?_
      refine lv_iconst (v := (nI 5)) hx hb dL_law_211 (by decide) ?_
      refine lv_ishr hx hb dL_law_212 ?_
      refine lv_bipush (v := (nI 8)) hx hb dL_law_213 (by decide) ?_
      refine k_Si (w0 := []) (w1 := []) (As := [.int (w >>> ((nI 5) &&& 31)), .int (nI 8)]) (r := (nI (lowN (w >>> ((nI 5) &&& 31)) 8))) hF (c_L_low l g (w >>> ((nI 5) &&& 31)) 8 (by decide) (by decide)) (va_cwS 2 hts gL_law_L_low rfl rfl rfl (by decide +kernel) ⟨Nat.le_of_ble_eq_true rfl, Nat.le_of_ble_eq_true rfl⟩) hE hP hD hS hA (List.Perm.refl _) (List.Perm.refl _) rfl hl.1 rfl (Nat.le_of_ble_eq_true rfl) dL_law_215 ⟨Nat.le_of_ble_eq_true rfl, Nat.le_of_ble_eq_true rfl⟩ (fun H locs hP hD hS => ?_)
      have hP : va_P g.1 vwCl ((wU u (ah 0) (a0 0) (at9 0)) ++ ((wH g ah (ch cs)) ++ ((wT g at9 ((csg cs), (nI (cn cs)))) ++ ((wK0 g a0 ak ((nI (cod cs)), (nI (csz cs)))) ++ (wHs g ak (va_up (chs cs) (((cod cs) + (csz cs)) % 6) (ch cs)) 6))))) _ := hP
      have hD : va_D (fun q : Nat => s.heap.size ≤ q) ((wU u (ah 0) (a0 0) (at9 0)) ++ ((wH g ah (ch cs)) ++ ((wT g at9 ((csg cs), (nI (cn cs)))) ++ ((wK0 g a0 ak ((nI (cod cs)), (nI (csz cs)))) ++ (wHs g ak (va_up (chs cs) (((cod cs) + (csz cs)) % 6) (ch cs)) 6))))) := hD
      refine lv_iload hx hb dL_law_218 (lv_at hl 2 rfl) ?_
      refine lv_bipush (v := (nI 8)) hx hb dL_law_220 (by decide) ?_
      refine lv_ishr hx hb dL_law_222 ?_
      refine lv_bipush (v := (nI 6)) hx hb dL_law_223 (by decide) ?_
      refine k_Si (w0 := []) (w1 := []) (As := [.int (w >>> ((nI 8) &&& 31)), .int (nI 6)]) (r := (nI (lowN (w >>> ((nI 8) &&& 31)) 6))) hF (c_L_low l g (w >>> ((nI 8) &&& 31)) 6 (by decide) (by decide)) (va_cwS 2 hts gL_law_L_low rfl rfl rfl (by decide +kernel) ⟨Nat.le_of_ble_eq_true rfl, Nat.le_of_ble_eq_true rfl⟩) hE hP hD hS hA (List.Perm.refl _) (List.Perm.refl _) rfl hl.1 rfl (Nat.le_of_ble_eq_true rfl) dL_law_225 ⟨Nat.le_of_ble_eq_true rfl, Nat.le_of_ble_eq_true rfl⟩ (fun H locs hP hD hS => ?_)
      have hP : va_P g.1 vwCl ((wU u (ah 0) (a0 0) (at9 0)) ++ ((wH g ah (ch cs)) ++ ((wT g at9 ((csg cs), (nI (cn cs)))) ++ ((wK0 g a0 ak ((nI (cod cs)), (nI (csz cs)))) ++ (wHs g ak (va_up (chs cs) (((cod cs) + (csz cs)) % 6) (ch cs)) 6))))) _ := hP
      have hD : va_D (fun q : Nat => s.heap.size ≤ q) ((wU u (ah 0) (a0 0) (at9 0)) ++ ((wH g ah (ch cs)) ++ ((wT g at9 ((csg cs), (nI (cn cs)))) ++ ((wK0 g a0 ak ((nI (cod cs)), (nI (csz cs)))) ++ (wHs g ak (va_up (chs cs) (((cod cs) + (csz cs)) % 6) (ch cs)) 6))))) := hD
      refine k_Si (As := [.ref u, .int (nI (lowN (w >>> ((nI 5) &&& 31)) 8)), .int (nI (lowN (w >>> ((nI 8) &&& 31)) 6))]) (r := (nI 1)) hF (c_L_isTimed l g u ah at9 a0 ak (ch cs) (csg cs) (cn cs) (cod cs) (csz cs) (va_up (chs cs) (((cod cs) + (csz cs)) % 6) (ch cs)) (by omega) (by omega) hbo (k_bs hbs hbo) hI (lowN (w >>> ((nI 5) &&& 31)) 8) (lowN (w >>> ((nI 8) &&& 31)) 6) (lowN_lt _ (by decide)) (lowN_lt _ (by decide))) (va_cwS 3 hts gL_law_L_isTimed rfl rfl rfl (by decide +kernel) ⟨Nat.le_of_ble_eq_true rfl, Nat.le_of_ble_eq_true rfl⟩) hE hP hD hS hA (k_pall _) ((k_pall _).symm) rfl hl.1 rfl (Nat.le_of_ble_eq_true rfl) dL_law_228 ⟨Nat.le_of_ble_eq_true rfl, Nat.le_of_ble_eq_true rfl⟩ (fun H locs hP hD hS => ?_)
      have hP : va_P g.1 vwCl ((wU u (ah 0) (a0 0) (at9 0)) ++ ((wH g ah (ch cs)) ++ ((wT g at9 ((csg cs), (nI (cn cs)))) ++ ((wK0 g a0 ak ((nI (cod cs)), (nI (csz cs)))) ++ (wHs g ak (va_up (va_up (chs cs) (((cod cs) + (csz cs)) % 6) (ch cs)) (((cod cs) + (csz cs)) % 6) (ch cs)) 6))))) _ := hP
      have hD : va_D (fun q : Nat => s.heap.size ≤ q) ((wU u (ah 0) (a0 0) (at9 0)) ++ ((wH g ah (ch cs)) ++ ((wT g at9 ((csg cs), (nI (cn cs)))) ++ ((wK0 g a0 ak ((nI (cod cs)), (nI (csz cs)))) ++ (wHs g ak (va_up (va_up (chs cs) (((cod cs) + (csz cs)) % 6) (ch cs)) (((cod cs) + (csz cs)) % 6) (ch cs)) 6))))) := hD
      rw [va_twice] at hP hD
      have hP : va_P g.1 vwCl ((wU u (ah 0) (a0 0) (at9 0)) ++ ((wH g ah (ch cs)) ++ ((wT g at9 ((csg cs), (nI (cn cs)))) ++ ((wK0 g a0 ak ((nI (cod cs)), (nI (csz cs)))) ++ (wHs g ak (va_up (chs cs) (((cod cs) + (csz cs)) % 6) (ch cs)) 6))))) _ := hP
      have hD : va_D (fun q : Nat => s.heap.size ≤ q) ((wU u (ah 0) (a0 0) (at9 0)) ++ ((wH g ah (ch cs)) ++ ((wT g at9 ((csg cs), (nI (cn cs)))) ++ ((wK0 g a0 ak ((nI (cod cs)), (nI (csz cs)))) ++ (wHs g ak (va_up (chs cs) (((cod cs) + (csz cs)) % 6) (ch cs)) 6))))) := hD
      refine k_ifn0 (tgt := 236) hx hb (by decide) dL_law_231 (by decide) (fun c3 => ?_) (fun c3 => ?_)
      ·
        refine lv_iinc (v := (nI (i + 1))) (lv' := [(2, .int (nI (i + 1))), (3, .int v), (4, .int w), (0, .ref b), (1, .ref u)]) hx hb dL_law_236 hl (k := 0) rfl (k_inc1 _) (by decide) rfl (fun ls hl => ?_)
        refine lv_goto (tgt := 10) hx hb dL_law_239 (by decide) ?_
        exact K10 (p5 cs) H locs ls (gs_p5 G) hP hD hS (lv_sub hl [0, 3, 4] rfl)
      ·
        exact absurd c3 (by decide)
  ·
    refine lv_aload_n hx hb dL_law_185 rfl (lv_at hl 4 rfl) ?_
    refine k_Si (As := [.ref u]) (r := (nI 1)) hF (c_L_holds l g u ah at9 a0 ak (ch cs) (csg cs) (cn cs) (cod cs) (csz cs) (chs cs) (i + 1) hG (by omega)) (va_cwS 1 hts gL_law_L_holds rfl rfl rfl (by decide +kernel) ⟨Nat.le_of_ble_eq_true rfl, Nat.le_of_ble_eq_true rfl⟩) hE hP hD hS hA (k_pall _) ((k_pall _).symm) rfl hl.1 rfl (Nat.le_of_ble_eq_true rfl) dL_law_186 ⟨Nat.le_of_ble_eq_true rfl, Nat.le_of_ble_eq_true rfl⟩ (fun H locs hP hD hS => ?_)
    have hP : va_P g.1 vwCl ((wU u (ah 0) (a0 0) (at9 0)) ++ ((wH g ah (ch cs)) ++ ((wT g at9 ((csg cs), (nI (cn cs)))) ++ ((wK0 g a0 ak ((nI (cod cs)), (nI (csz cs)))) ++ (wHs g ak (chs cs) 6))))) _ := hP
    have hD : va_D (fun q : Nat => s.heap.size ≤ q) ((wU u (ah 0) (a0 0) (at9 0)) ++ ((wH g ah (ch cs)) ++ ((wT g at9 ((csg cs), (nI (cn cs)))) ++ ((wK0 g a0 ak ((nI (cod cs)), (nI (csz cs)))) ++ (wHs g ak (chs cs) 6))))) := hD
    refine k_if0 (tgt := 234) hx hb (by decide) dL_law_189 (by decide) (fun c4 => ?_) (fun c4 => ?_)
    ·
      exact absurd c4 (by decide)
    ·
      refine lv_aload_n hx hb dL_law_192 rfl (lv_at hl 4 rfl) ?_
      refine lv_iload hx hb dL_law_193 (lv_at hl 2 rfl) ?_
      refine lv_iconst (v := (nI 2)) hx hb dL_law_195 (by decide) ?_
      refine lv_ishr hx hb dL_law_196 ?_
      refine lv_bipush (v := (nI 6)) hx hb dL_law_197 (by decide) ?_
      refine k_Si (w0 := []) (w1 := []) (As := [.int (w >>> ((nI 2) &&& 31)), .int (nI 6)]) (r := (nI (lowN (w >>> ((nI 2) &&& 31)) 6))) hF (c_L_low l g (w >>> ((nI 2) &&& 31)) 6 (by decide) (by decide)) (va_cwS 2 hts gL_law_L_low rfl rfl rfl (by decide +kernel) ⟨Nat.le_of_ble_eq_true rfl, Nat.le_of_ble_eq_true rfl⟩) hE hP hD hS hA (List.Perm.refl _) (List.Perm.refl _) rfl hl.1 rfl (Nat.le_of_ble_eq_true rfl) dL_law_199 ⟨Nat.le_of_ble_eq_true rfl, Nat.le_of_ble_eq_true rfl⟩ (fun H locs hP hD hS => ?_)
      have hP : va_P g.1 vwCl ((wU u (ah 0) (a0 0) (at9 0)) ++ ((wH g ah (ch cs)) ++ ((wT g at9 ((csg cs), (nI (cn cs)))) ++ ((wK0 g a0 ak ((nI (cod cs)), (nI (csz cs)))) ++ (wHs g ak (chs cs) 6))))) _ := hP
      have hD : va_D (fun q : Nat => s.heap.size ≤ q) ((wU u (ah 0) (a0 0) (at9 0)) ++ ((wH g ah (ch cs)) ++ ((wT g at9 ((csg cs), (nI (cn cs)))) ++ ((wK0 g a0 ak ((nI (cod cs)), (nI (csz cs)))) ++ (wHs g ak (chs cs) 6))))) := hD
      refine k_Si (As := [.ref u, .int (nI (lowN (w >>> ((nI 2) &&& 31)) 6))]) (r := (nI 1)) hF (c_L_isPlayed l g u ah at9 a0 ak (ch cs) (csg cs) (cn cs) (cod cs) (csz cs) (chs cs) (by omega) (by omega) hbo hbs hI (lowN (w >>> ((nI 2) &&& 31)) 6) (lowN_lt _ (by decide))) (va_cwS 2 hts gL_law_L_isPlayed rfl rfl rfl (by decide +kernel) ⟨Nat.le_of_ble_eq_true rfl, Nat.le_of_ble_eq_true rfl⟩) hE hP hD hS hA (k_pall _) ((k_pall _).symm) rfl hl.1 rfl (Nat.le_of_ble_eq_true rfl) dL_law_202 ⟨Nat.le_of_ble_eq_true rfl, Nat.le_of_ble_eq_true rfl⟩ (fun H locs hP hD hS => ?_)
      have hP : va_P g.1 vwCl ((wU u (ah 0) (a0 0) (at9 0)) ++ ((wH g ah (ch cs)) ++ ((wT g at9 ((csg cs), (nI (cn cs)))) ++ ((wK0 g a0 ak ((nI (cod cs)), (nI (csz cs)))) ++ (wHs g ak (va_up (chs cs) (((cod cs) + (csz cs)) % 6) (ch cs)) 6))))) _ := hP
      have hD : va_D (fun q : Nat => s.heap.size ≤ q) ((wU u (ah 0) (a0 0) (at9 0)) ++ ((wH g ah (ch cs)) ++ ((wT g at9 ((csg cs), (nI (cn cs)))) ++ ((wK0 g a0 ak ((nI (cod cs)), (nI (csz cs)))) ++ (wHs g ak (va_up (chs cs) (((cod cs) + (csz cs)) % 6) (ch cs)) 6))))) := hD
      refine k_if0 (tgt := 234) hx hb (by decide) dL_law_205 (by decide) (fun c5 => ?_) (fun c5 => ?_)
      ·
        exact absurd c5 (by decide)
      ·
        refine lv_aload_n hx hb dL_law_208 rfl (lv_at hl 4 rfl) ?_
        refine lv_iload hx hb dL_law_209 (lv_at hl 2 rfl) ?_
        refine lv_iconst (v := (nI 5)) hx hb dL_law_211 (by decide) ?_
        refine lv_ishr hx hb dL_law_212 ?_
        refine lv_bipush (v := (nI 8)) hx hb dL_law_213 (by decide) ?_
        refine k_Si (w0 := []) (w1 := []) (As := [.int (w >>> ((nI 5) &&& 31)), .int (nI 8)]) (r := (nI (lowN (w >>> ((nI 5) &&& 31)) 8))) hF (c_L_low l g (w >>> ((nI 5) &&& 31)) 8 (by decide) (by decide)) (va_cwS 2 hts gL_law_L_low rfl rfl rfl (by decide +kernel) ⟨Nat.le_of_ble_eq_true rfl, Nat.le_of_ble_eq_true rfl⟩) hE hP hD hS hA (List.Perm.refl _) (List.Perm.refl _) rfl hl.1 rfl (Nat.le_of_ble_eq_true rfl) dL_law_215 ⟨Nat.le_of_ble_eq_true rfl, Nat.le_of_ble_eq_true rfl⟩ (fun H locs hP hD hS => ?_)
        have hP : va_P g.1 vwCl ((wU u (ah 0) (a0 0) (at9 0)) ++ ((wH g ah (ch cs)) ++ ((wT g at9 ((csg cs), (nI (cn cs)))) ++ ((wK0 g a0 ak ((nI (cod cs)), (nI (csz cs)))) ++ (wHs g ak (va_up (chs cs) (((cod cs) + (csz cs)) % 6) (ch cs)) 6))))) _ := hP
        have hD : va_D (fun q : Nat => s.heap.size ≤ q) ((wU u (ah 0) (a0 0) (at9 0)) ++ ((wH g ah (ch cs)) ++ ((wT g at9 ((csg cs), (nI (cn cs)))) ++ ((wK0 g a0 ak ((nI (cod cs)), (nI (csz cs)))) ++ (wHs g ak (va_up (chs cs) (((cod cs) + (csz cs)) % 6) (ch cs)) 6))))) := hD
        refine lv_iload hx hb dL_law_218 (lv_at hl 2 rfl) ?_
        refine lv_bipush (v := (nI 8)) hx hb dL_law_220 (by decide) ?_
        refine lv_ishr hx hb dL_law_222 ?_
        refine lv_bipush (v := (nI 6)) hx hb dL_law_223 (by decide) ?_
        refine k_Si (w0 := []) (w1 := []) (As := [.int (w >>> ((nI 8) &&& 31)), .int (nI 6)]) (r := (nI (lowN (w >>> ((nI 8) &&& 31)) 6))) hF (c_L_low l g (w >>> ((nI 8) &&& 31)) 6 (by decide) (by decide)) (va_cwS 2 hts gL_law_L_low rfl rfl rfl (by decide +kernel) ⟨Nat.le_of_ble_eq_true rfl, Nat.le_of_ble_eq_true rfl⟩) hE hP hD hS hA (List.Perm.refl _) (List.Perm.refl _) rfl hl.1 rfl (Nat.le_of_ble_eq_true rfl) dL_law_225 ⟨Nat.le_of_ble_eq_true rfl, Nat.le_of_ble_eq_true rfl⟩ (fun H locs hP hD hS => ?_)
        have hP : va_P g.1 vwCl ((wU u (ah 0) (a0 0) (at9 0)) ++ ((wH g ah (ch cs)) ++ ((wT g at9 ((csg cs), (nI (cn cs)))) ++ ((wK0 g a0 ak ((nI (cod cs)), (nI (csz cs)))) ++ (wHs g ak (va_up (chs cs) (((cod cs) + (csz cs)) % 6) (ch cs)) 6))))) _ := hP
        have hD : va_D (fun q : Nat => s.heap.size ≤ q) ((wU u (ah 0) (a0 0) (at9 0)) ++ ((wH g ah (ch cs)) ++ ((wT g at9 ((csg cs), (nI (cn cs)))) ++ ((wK0 g a0 ak ((nI (cod cs)), (nI (csz cs)))) ++ (wHs g ak (va_up (chs cs) (((cod cs) + (csz cs)) % 6) (ch cs)) 6))))) := hD
        refine k_Si (As := [.ref u, .int (nI (lowN (w >>> ((nI 5) &&& 31)) 8)), .int (nI (lowN (w >>> ((nI 8) &&& 31)) 6))]) (r := (nI 1)) hF (c_L_isTimed l g u ah at9 a0 ak (ch cs) (csg cs) (cn cs) (cod cs) (csz cs) (va_up (chs cs) (((cod cs) + (csz cs)) % 6) (ch cs)) (by omega) (by omega) hbo (k_bs hbs hbo) hI (lowN (w >>> ((nI 5) &&& 31)) 8) (lowN (w >>> ((nI 8) &&& 31)) 6) (lowN_lt _ (by decide)) (lowN_lt _ (by decide))) (va_cwS 3 hts gL_law_L_isTimed rfl rfl rfl (by decide +kernel) ⟨Nat.le_of_ble_eq_true rfl, Nat.le_of_ble_eq_true rfl⟩) hE hP hD hS hA (k_pall _) ((k_pall _).symm) rfl hl.1 rfl (Nat.le_of_ble_eq_true rfl) dL_law_228 ⟨Nat.le_of_ble_eq_true rfl, Nat.le_of_ble_eq_true rfl⟩ (fun H locs hP hD hS => ?_)
        have hP : va_P g.1 vwCl ((wU u (ah 0) (a0 0) (at9 0)) ++ ((wH g ah (ch cs)) ++ ((wT g at9 ((csg cs), (nI (cn cs)))) ++ ((wK0 g a0 ak ((nI (cod cs)), (nI (csz cs)))) ++ (wHs g ak (va_up (va_up (chs cs) (((cod cs) + (csz cs)) % 6) (ch cs)) (((cod cs) + (csz cs)) % 6) (ch cs)) 6))))) _ := hP
        have hD : va_D (fun q : Nat => s.heap.size ≤ q) ((wU u (ah 0) (a0 0) (at9 0)) ++ ((wH g ah (ch cs)) ++ ((wT g at9 ((csg cs), (nI (cn cs)))) ++ ((wK0 g a0 ak ((nI (cod cs)), (nI (csz cs)))) ++ (wHs g ak (va_up (va_up (chs cs) (((cod cs) + (csz cs)) % 6) (ch cs)) (((cod cs) + (csz cs)) % 6) (ch cs)) 6))))) := hD
        rw [va_twice] at hP hD
        have hP : va_P g.1 vwCl ((wU u (ah 0) (a0 0) (at9 0)) ++ ((wH g ah (ch cs)) ++ ((wT g at9 ((csg cs), (nI (cn cs)))) ++ ((wK0 g a0 ak ((nI (cod cs)), (nI (csz cs)))) ++ (wHs g ak (va_up (chs cs) (((cod cs) + (csz cs)) % 6) (ch cs)) 6))))) _ := hP
        have hD : va_D (fun q : Nat => s.heap.size ≤ q) ((wU u (ah 0) (a0 0) (at9 0)) ++ ((wH g ah (ch cs)) ++ ((wT g at9 ((csg cs), (nI (cn cs)))) ++ ((wK0 g a0 ak ((nI (cod cs)), (nI (csz cs)))) ++ (wHs g ak (va_up (chs cs) (((cod cs) + (csz cs)) % 6) (ch cs)) 6))))) := hD
        refine k_ifn0 (tgt := 236) hx hb (by decide) dL_law_231 (by decide) (fun c6 => ?_) (fun c6 => ?_)
        ·
          refine lv_iinc (v := (nI (i + 1))) (lv' := [(2, .int (nI (i + 1))), (3, .int v), (4, .int w), (0, .ref b), (1, .ref u)]) hx hb dL_law_236 hl (k := 0) rfl (k_inc1 _) (by decide) rfl (fun ls hl => ?_)
          refine lv_goto (tgt := 10) hx hb dL_law_239 (by decide) ?_
          exact K10 (p5 cs) H locs ls (gs_p5 G) hP hD hS (lv_sub hl [0, 3, 4] rfl)
        ·
          exact absurd c6 (by decide)
set_option maxHeartbeats 4000000 in
set_option maxRecDepth 100000 in
/-- a turn's act, taken back and done again -/
theorem law_mid {p : Program} {l : Launch} {e : Env} {s : State} {m : MethodId} {below : List Frame} {meth : Method} {c : Code} {g : kG} {b u : Nat} {ah at9 a0 : Nat → Nat} {ak : Nat → Nat → Nat} {Q : State → Prop} {i : Nat} (hF : CallFix p m c cL_law 11 s #[Value.ref b] wsL_law RL) (hE : kE g s) (hi : i < 36) {v w : Int32}
    (K179 : ∀ (cs : CSt) (H : Heap) (locs : List Loc) (ls : Array Slot), GS (i + 1) cs → va_P g.1 vwCl (wC g u ah at9 a0 ak cs) H → va_D (fun q : Nat => s.heap.size ≤ q) (wC g u ah at9 a0 ak cs) → va_S (fun q : Nat => s.heap.size ≤ q) s.heap H locs → lv_has ls 11 [(2, .int (nI i)), (3, .int v), (4, .int w), (0, .ref b), (1, .ref u)] → W p l e room_1 s m #[Value.ref b] below meth c H locs 33 872 Q (F0 m 179 ls [])) : ∀ (cs : CSt) (H : Heap) (locs : List Loc) (ls : Array Slot), GS i cs → csz cs ≤ 4 → va_P g.1 vwCl (wC g u ah at9 a0 ak cs) H → va_D (fun q : Nat => s.heap.size ≤ q) (wC g u ah at9 a0 ak cs) → va_S (fun q : Nat => s.heap.size ≤ q) s.heap H locs → lv_has ls 11 [(2, .int (nI i)), (3, .int v), (4, .int w), (0, .ref b), (1, .ref u)] → W p l e room_1 s m #[Value.ref b] below meth c H locs 33 872 Q (F0 m 53 ls []) := by
  obtain ⟨hx, hb, hml, hown, hts⟩ := id hF
  have hA : ∀ q : Nat, s.heap.size ≤ q → (fun q : Nat => s.heap.size ≤ q) q := fun _ h => h
  intro cs H locs ls G hz4 hP hD hS hl
  obtain ⟨hod, hz5, hG, hGs⟩ := id G
  have hI := hG.1
  have hbo := hG.2.1
  have hbs : ∀ j, Hbo (chs cs j) := fun j => (hGs j).2.1
  refine lv_aload_n hx hb dL_law_53 rfl (lv_at hl 4 rfl) ?_
  refine k_Vi (As := []) (r := (nI (csz cs))) hF (c_X3_savedStates l g u ah at9 a0 ak (ch cs) (csg cs) (cn cs) (cod cs) (csz cs) (chs cs)) (cwV 0 hts gL_law_X3_savedStates rfl rfl rfl (by decide +kernel) ⟨Nat.le_of_ble_eq_true rfl, Nat.le_of_ble_eq_true rfl⟩) hE hP hD hS hA (k_pall _) ((k_pall _).symm) 0 rfl rfl rfl rfl hl.1 rfl (Nat.le_of_ble_eq_true rfl) dL_law_54 ⟨Nat.le_of_ble_eq_true rfl, Nat.le_of_ble_eq_true rfl⟩ (fun H locs hP hD hS => ?_)
  have hP : va_P g.1 vwCl ((wU u (ah 0) (a0 0) (at9 0)) ++ ((wH g ah (ch cs)) ++ ((wT g at9 ((csg cs), (nI (cn cs)))) ++ ((wK0 g a0 ak ((nI (cod cs)), (nI (csz cs)))) ++ (wHs g ak (chs cs) 6))))) _ := hP
  have hD : va_D (fun q : Nat => s.heap.size ≤ q) ((wU u (ah 0) (a0 0) (at9 0)) ++ ((wH g ah (ch cs)) ++ ((wT g at9 ((csg cs), (nI (cn cs)))) ++ ((wK0 g a0 ak ((nI (cod cs)), (nI (csz cs)))) ++ (wHs g ak (chs cs) 6))))) := hD
  refine lv_istore (lv' := [(5, .int (nI (csz cs))), (2, .int (nI i)), (3, .int v), (4, .int w), (0, .ref b), (1, .ref u)]) hx hb dL_law_57 hl (by decide) rfl (fun ls hl => ?_)
  refine lv_aload_n hx hb dL_law_59 rfl (lv_at hl 5 rfl) ?_
  refine k_Sl (As := [.ref u]) (r := (Told (ch cs))) hF (c_L_told l g u ah at9 a0 ak (ch cs) (csg cs) (cn cs) (cod cs) (csz cs) (chs cs)) (va_cwS 1 hts gL_law_L_told rfl rfl rfl (by decide +kernel) ⟨Nat.le_of_ble_eq_true rfl, Nat.le_of_ble_eq_true rfl⟩) hE hP hD hS hA (k_pall _) ((k_pall _).symm) rfl hl.1 rfl (Nat.le_of_ble_eq_true rfl) dL_law_60 ⟨Nat.le_of_ble_eq_true rfl, Nat.le_of_ble_eq_true rfl⟩ (fun H locs hP hD hS => ?_)
  have hP : va_P g.1 vwCl ((wU u (ah 0) (a0 0) (at9 0)) ++ ((wH g ah (ch cs)) ++ ((wT g at9 ((csg cs), (nI (cn cs)))) ++ ((wK0 g a0 ak ((nI (cod cs)), (nI (csz cs)))) ++ (wHs g ak (chs cs) 6))))) _ := hP
  have hD : va_D (fun q : Nat => s.heap.size ≤ q) ((wU u (ah 0) (a0 0) (at9 0)) ++ ((wH g ah (ch cs)) ++ ((wT g at9 ((csg cs), (nI (cn cs)))) ++ ((wK0 g a0 ak ((nI (cod cs)), (nI (csz cs)))) ++ (wHs g ak (chs cs) 6))))) := hD
  refine lv_lstore (lv' := [(6, .long (Told (ch cs))), (5, .int (nI (csz cs))), (2, .int (nI i)), (3, .int v), (4, .int w), (0, .ref b), (1, .ref u)]) hx hb dL_law_63 hl (by decide) rfl (fun ls hl => ?_)
  refine lv_aload_n hx hb dL_law_65 rfl (lv_at hl 6 rfl) ?_
  refine lv_iload_n hx hb dL_law_66 rfl (lv_at hl 3 rfl) ?_
  refine lv_iload hx hb dL_law_67 (lv_at hl 4 rfl) ?_
  refine k_Si (As := [.ref u, .int v, .int w]) (r := (actA (ch cs) v w)) hF (c_L_act l g u ah at9 a0 ak (ch cs) (csg cs) (cn cs) (cod cs) (csz cs) (chs cs) (by omega) (by omega) hbo hI v w) (va_cwS 3 hts gL_law_L_act rfl rfl rfl (by decide +kernel) ⟨Nat.le_of_ble_eq_true rfl, Nat.le_of_ble_eq_true rfl⟩) hE hP hD hS hA (k_pall _) ((k_pall _).symm) rfl hl.1 rfl (Nat.le_of_ble_eq_true rfl) dL_law_69 ⟨Nat.le_of_ble_eq_true rfl, Nat.le_of_ble_eq_true rfl⟩ (fun H locs hP hD hS => ?_)
  have hP : va_P g.1 vwCl ((wU u (ah 0) (a0 0) (at9 0)) ++ ((wH g ah (ch (actC ((ch cs), (cod cs), (csz cs), (chs cs), (csg cs), (cn cs)) v w))) ++ ((wT g at9 ((csg (actC ((ch cs), (cod cs), (csz cs), (chs cs), (csg cs), (cn cs)) v w)), (nI (cn (actC ((ch cs), (cod cs), (csz cs), (chs cs), (csg cs), (cn cs)) v w))))) ++ ((wK0 g a0 ak ((nI (cod (actC ((ch cs), (cod cs), (csz cs), (chs cs), (csg cs), (cn cs)) v w))), (nI (csz (actC ((ch cs), (cod cs), (csz cs), (chs cs), (csg cs), (cn cs)) v w))))) ++ (wHs g ak (chs (actC ((ch cs), (cod cs), (csz cs), (chs cs), (csg cs), (cn cs)) v w)) 6))))) _ := hP
  have hD : va_D (fun q : Nat => s.heap.size ≤ q) ((wU u (ah 0) (a0 0) (at9 0)) ++ ((wH g ah (ch (actC ((ch cs), (cod cs), (csz cs), (chs cs), (csg cs), (cn cs)) v w))) ++ ((wT g at9 ((csg (actC ((ch cs), (cod cs), (csz cs), (chs cs), (csg cs), (cn cs)) v w)), (nI (cn (actC ((ch cs), (cod cs), (csz cs), (chs cs), (csg cs), (cn cs)) v w))))) ++ ((wK0 g a0 ak ((nI (cod (actC ((ch cs), (cod cs), (csz cs), (chs cs), (csg cs), (cn cs)) v w))), (nI (csz (actC ((ch cs), (cod cs), (csz cs), (chs cs), (csg cs), (cn cs)) v w))))) ++ (wHs g ak (chs (actC ((ch cs), (cod cs), (csz cs), (chs cs), (csg cs), (cn cs)) v w)) 6))))) := hD
  by_cases hN : aNo (ch cs) v w
  ·
    have e1 : actC ((ch cs), (cod cs), (csz cs), (chs cs), (csg cs), (cn cs)) v w = ((ch cs), (cod cs), (csz cs), (chs cs), (csg cs), (cn cs)) := if_pos hN
    rw [e1] at hP hD
    have hP : va_P g.1 vwCl ((wU u (ah 0) (a0 0) (at9 0)) ++ ((wH g ah (ch cs)) ++ ((wT g at9 ((csg cs), (nI (cn cs)))) ++ ((wK0 g a0 ak ((nI (cod cs)), (nI (csz cs)))) ++ (wHs g ak (chs cs) 6))))) _ := hP
    have hD : va_D (fun q : Nat => s.heap.size ≤ q) ((wU u (ah 0) (a0 0) (at9 0)) ++ ((wH g ah (ch cs)) ++ ((wT g at9 ((csg cs), (nI (cn cs)))) ++ ((wK0 g a0 ak ((nI (cod cs)), (nI (csz cs)))) ++ (wHs g ak (chs cs) 6))))) := hD
    refine k_top (show actA (ch cs) v w = (-9) from if_pos hN) ?_
    refine lv_istore (lv' := [(8, .int (-9)), (6, .long (Told (ch cs))), (5, .int (nI (csz cs))), (2, .int (nI i)), (3, .int v), (4, .int w), (0, .ref b), (1, .ref u)]) hx hb dL_law_72 hl (by decide) rfl (fun ls hl => ?_)
    refine lv_aload_n hx hb dL_law_74 rfl (lv_at hl 7 rfl) ?_
    refine k_Sl (As := [.ref u]) (r := (Told (ch cs))) hF (c_L_told l g u ah at9 a0 ak (ch cs) (csg cs) (cn cs) (cod cs) (csz cs) (chs cs)) (va_cwS 1 hts gL_law_L_told rfl rfl rfl (by decide +kernel) ⟨Nat.le_of_ble_eq_true rfl, Nat.le_of_ble_eq_true rfl⟩) hE hP hD hS hA (k_pall _) ((k_pall _).symm) rfl hl.1 rfl (Nat.le_of_ble_eq_true rfl) dL_law_75 ⟨Nat.le_of_ble_eq_true rfl, Nat.le_of_ble_eq_true rfl⟩ (fun H locs hP hD hS => ?_)
    have hP : va_P g.1 vwCl ((wU u (ah 0) (a0 0) (at9 0)) ++ ((wH g ah (ch cs)) ++ ((wT g at9 ((csg cs), (nI (cn cs)))) ++ ((wK0 g a0 ak ((nI (cod cs)), (nI (csz cs)))) ++ (wHs g ak (chs cs) 6))))) _ := hP
    have hD : va_D (fun q : Nat => s.heap.size ≤ q) ((wU u (ah 0) (a0 0) (at9 0)) ++ ((wH g ah (ch cs)) ++ ((wT g at9 ((csg cs), (nI (cn cs)))) ++ ((wK0 g a0 ak ((nI (cod cs)), (nI (csz cs)))) ++ (wHs g ak (chs cs) 6))))) := hD
    refine lv_lstore (lv' := [(9, .long (Told (ch cs))), (8, .int (-9)), (6, .long (Told (ch cs))), (5, .int (nI (csz cs))), (2, .int (nI i)), (3, .int v), (4, .int w), (0, .ref b), (1, .ref u)]) hx hb dL_law_78 hl (by decide) rfl (fun ls hl => ?_)
    refine lv_iload hx hb dL_law_80 (lv_at hl 1 rfl) ?_
    refine lv_bipush (v := (-9)) hx hb dL_law_82 (by decide) ?_
    refine lv_icmp_ne (tgt := 107) hx hb dL_law_84 (by decide) (fun c1 => ?_) (fun c1 => ?_)
    ·
      exact absurd rfl c1
    ·
      refine lv_lload hx hb dL_law_87 (lv_at hl 0 rfl) ?_
      refine lv_lload hx hb dL_law_89 (lv_at hl 2 rfl) ?_
      refine W.lcmp hx hb dL_law_91 ?_
      refine k_top (show (lg_cmp (Told (ch cs)) (Told (ch cs))) = nI 0 from cmp_self _) ?_
      refine k_ifn0 (tgt := 118) hx hb (by decide) dL_law_92 (by decide) (fun c2 => ?_) (fun c2 => ?_)
      ·
        exact absurd c2 (by decide)
      ·
        refine lv_aload_n hx hb dL_law_95 rfl (lv_at hl 8 rfl) ?_
        refine k_Vi (As := []) (r := (nI (csz cs))) hF (c_X3_savedStates l g u ah at9 a0 ak (ch cs) (csg cs) (cn cs) (cod cs) (csz cs) (chs cs)) (cwV 0 hts gL_law_X3_savedStates rfl rfl rfl (by decide +kernel) ⟨Nat.le_of_ble_eq_true rfl, Nat.le_of_ble_eq_true rfl⟩) hE hP hD hS hA (k_pall _) ((k_pall _).symm) 0 rfl rfl rfl rfl hl.1 rfl (Nat.le_of_ble_eq_true rfl) dL_law_96 ⟨Nat.le_of_ble_eq_true rfl, Nat.le_of_ble_eq_true rfl⟩ (fun H locs hP hD hS => ?_)
        have hP : va_P g.1 vwCl ((wU u (ah 0) (a0 0) (at9 0)) ++ ((wH g ah (ch cs)) ++ ((wT g at9 ((csg cs), (nI (cn cs)))) ++ ((wK0 g a0 ak ((nI (cod cs)), (nI (csz cs)))) ++ (wHs g ak (chs cs) 6))))) _ := hP
        have hD : va_D (fun q : Nat => s.heap.size ≤ q) ((wU u (ah 0) (a0 0) (at9 0)) ++ ((wH g ah (ch cs)) ++ ((wT g at9 ((csg cs), (nI (cn cs)))) ++ ((wK0 g a0 ak ((nI (cod cs)), (nI (csz cs)))) ++ (wHs g ak (chs cs) 6))))) := hD
        refine lv_iload hx hb dL_law_99 (lv_at hl 3 rfl) ?_
        refine k_eqN (tgt := 120) hx hb (by omega) (by omega) dL_law_101 (by decide) (fun c3 => ?_) (fun c3 => ?_)
        ·
          refine lv_iload hx hb dL_law_120 (lv_at hl 1 rfl) ?_
          refine lv_bipush (v := (-9)) hx hb dL_law_122 (by decide) ?_
          refine lv_icmp_eq (tgt := 179) hx hb dL_law_124 (by decide) (fun c4 => ?_) (fun c4 => ?_)
          ·
            exact K179 cs H locs ls (gs_mono G) hP hD hS (lv_sub hl [4, 5, 6, 7, 8] rfl)
          ·
            exact absurd rfl c4
        ·
          exact absurd rfl c3
  ·
    have e1 : actC ((ch cs), (cod cs), (csz cs), (chs cs), (csg cs), (cn cs)) v w = k5 ((ch cs), (cod cs), (csz cs), (chs cs), (csg cs), (cn cs)) (actH (ch cs) v w) := if_neg hN
    rw [e1] at hP hD
    obtain ⟨h1, eh1⟩ : ∃ x : HSt, actH (ch cs) v w = x := ⟨_, rfl⟩
    have hP : va_P g.1 vwCl ((wU u (ah 0) (a0 0) (at9 0)) ++ ((wH g ah (actH (ch cs) v w)) ++ ((wT g at9 ((csg cs), (nI (cn cs)))) ++ ((wK0 g a0 ak ((nI (cod cs)), (nI ((csz cs) + 1)))) ++ (wHs g ak (va_up (chs cs) (((cod cs) + (csz cs)) % 6) (ch cs)) 6))))) _ := hP
    have hD : va_D (fun q : Nat => s.heap.size ≤ q) ((wU u (ah 0) (a0 0) (at9 0)) ++ ((wH g ah (actH (ch cs) v w)) ++ ((wT g at9 ((csg cs), (nI (cn cs)))) ++ ((wK0 g a0 ak ((nI (cod cs)), (nI ((csz cs) + 1)))) ++ (wHs g ak (va_up (chs cs) (((cod cs) + (csz cs)) % 6) (ch cs)) 6))))) := hD
    rw [eh1] at hP hD
    have hP : va_P g.1 vwCl ((wU u (ah 0) (a0 0) (at9 0)) ++ ((wH g ah h1) ++ ((wT g at9 ((csg cs), (nI (cn cs)))) ++ ((wK0 g a0 ak ((nI (cod cs)), (nI ((csz cs) + 1)))) ++ (wHs g ak (va_up (chs cs) (((cod cs) + (csz cs)) % 6) (ch cs)) 6))))) _ := hP
    have hD : va_D (fun q : Nat => s.heap.size ≤ q) ((wU u (ah 0) (a0 0) (at9 0)) ++ ((wH g ah h1) ++ ((wT g at9 ((csg cs), (nI (cn cs)))) ++ ((wK0 g a0 ak ((nI (cod cs)), (nI ((csz cs) + 1)))) ++ (wHs g ak (va_up (chs cs) (((cod cs) + (csz cs)) % 6) (ch cs)) 6))))) := hD
    refine k_top (show actA (ch cs) v w = actR (ch cs) v w from if_neg hN) ?_
    have g1 : GH (i + 1) h1 := by rw [← eh1]; exact gh_act hG hN
    refine lv_istore (lv' := [(8, .int (actR (ch cs) v w)), (6, .long (Told (ch cs))), (5, .int (nI (csz cs))), (2, .int (nI i)), (3, .int v), (4, .int w), (0, .ref b), (1, .ref u)]) hx hb dL_law_72 hl (by decide) rfl (fun ls hl => ?_)
    refine lv_aload_n hx hb dL_law_74 rfl (lv_at hl 7 rfl) ?_
    refine k_Sl (As := [.ref u]) (r := (Told h1)) hF (c_L_told l g u ah at9 a0 ak h1 (csg cs) (cn cs) (cod cs) ((csz cs) + 1) (va_up (chs cs) (((cod cs) + (csz cs)) % 6) (ch cs))) (va_cwS 1 hts gL_law_L_told rfl rfl rfl (by decide +kernel) ⟨Nat.le_of_ble_eq_true rfl, Nat.le_of_ble_eq_true rfl⟩) hE hP hD hS hA (k_pall _) ((k_pall _).symm) rfl hl.1 rfl (Nat.le_of_ble_eq_true rfl) dL_law_75 ⟨Nat.le_of_ble_eq_true rfl, Nat.le_of_ble_eq_true rfl⟩ (fun H locs hP hD hS => ?_)
    have hP : va_P g.1 vwCl ((wU u (ah 0) (a0 0) (at9 0)) ++ ((wH g ah h1) ++ ((wT g at9 ((csg cs), (nI (cn cs)))) ++ ((wK0 g a0 ak ((nI (cod cs)), (nI ((csz cs) + 1)))) ++ (wHs g ak (va_up (chs cs) (((cod cs) + (csz cs)) % 6) (ch cs)) 6))))) _ := hP
    have hD : va_D (fun q : Nat => s.heap.size ≤ q) ((wU u (ah 0) (a0 0) (at9 0)) ++ ((wH g ah h1) ++ ((wT g at9 ((csg cs), (nI (cn cs)))) ++ ((wK0 g a0 ak ((nI (cod cs)), (nI ((csz cs) + 1)))) ++ (wHs g ak (va_up (chs cs) (((cod cs) + (csz cs)) % 6) (ch cs)) 6))))) := hD
    refine lv_lstore (lv' := [(9, .long (Told h1)), (8, .int (actR (ch cs) v w)), (6, .long (Told (ch cs))), (5, .int (nI (csz cs))), (2, .int (nI i)), (3, .int v), (4, .int w), (0, .ref b), (1, .ref u)]) hx hb dL_law_78 hl (by decide) rfl (fun ls hl => ?_)
    refine lv_iload hx hb dL_law_80 (lv_at hl 1 rfl) ?_
    refine lv_bipush (v := (-9)) hx hb dL_law_82 (by decide) ?_
    refine lv_icmp_ne (tgt := 107) hx hb dL_law_84 (by decide) (fun c5 => ?_) (fun c5 => ?_)
    ·
      refine lv_aload_n hx hb dL_law_107 rfl (lv_at hl 8 rfl) ?_
      refine k_Vi (As := []) (r := (nI ((csz cs) + 1))) hF (c_X3_savedStates l g u ah at9 a0 ak h1 (csg cs) (cn cs) (cod cs) ((csz cs) + 1) (va_up (chs cs) (((cod cs) + (csz cs)) % 6) (ch cs))) (cwV 0 hts gL_law_X3_savedStates rfl rfl rfl (by decide +kernel) ⟨Nat.le_of_ble_eq_true rfl, Nat.le_of_ble_eq_true rfl⟩) hE hP hD hS hA (k_pall _) ((k_pall _).symm) 0 rfl rfl rfl rfl hl.1 rfl (Nat.le_of_ble_eq_true rfl) dL_law_108 ⟨Nat.le_of_ble_eq_true rfl, Nat.le_of_ble_eq_true rfl⟩ (fun H locs hP hD hS => ?_)
      have hP : va_P g.1 vwCl ((wU u (ah 0) (a0 0) (at9 0)) ++ ((wH g ah h1) ++ ((wT g at9 ((csg cs), (nI (cn cs)))) ++ ((wK0 g a0 ak ((nI (cod cs)), (nI ((csz cs) + 1)))) ++ (wHs g ak (va_up (chs cs) (((cod cs) + (csz cs)) % 6) (ch cs)) 6))))) _ := hP
      have hD : va_D (fun q : Nat => s.heap.size ≤ q) ((wU u (ah 0) (a0 0) (at9 0)) ++ ((wH g ah h1) ++ ((wT g at9 ((csg cs), (nI (cn cs)))) ++ ((wK0 g a0 ak ((nI (cod cs)), (nI ((csz cs) + 1)))) ++ (wHs g ak (va_up (chs cs) (((cod cs) + (csz cs)) % 6) (ch cs)) 6))))) := hD
      refine lv_iload hx hb dL_law_111 (lv_at hl 3 rfl) ?_
      refine lv_iconst (v := (nI 1)) hx hb dL_law_113 (by decide) ?_
      refine lv_iadd hx hb dL_law_114 ?_
      refine k_top (nI_add _ _) ?_
      refine k_eqN (tgt := 120) hx hb (by omega) (by omega) dL_law_115 (by decide) (fun c6 => ?_) (fun c6 => ?_)
      ·
        refine lv_iload hx hb dL_law_120 (lv_at hl 1 rfl) ?_
        refine lv_bipush (v := (-9)) hx hb dL_law_122 (by decide) ?_
        refine lv_icmp_eq (tgt := 179) hx hb dL_law_124 (by decide) (fun c7 => ?_) (fun c7 => ?_)
        ·
          exact absurd c7 (actR_n9 hG hN)
        ·
          refine lv_iload_n hx hb dL_law_127 rfl (lv_at hl 5 rfl) ?_
          refine lv_bipush (v := (nI 10)) hx hb dL_law_128 (by decide) ?_
          refine lv_ishr hx hb dL_law_130 ?_
          refine lv_iconst (v := (nI 1)) hx hb dL_law_131 (by decide) ?_
          refine lv_iand hx hb dL_law_132 ?_
          refine lv_if_ne (tgt := 179) hx hb dL_law_133 (by decide) (fun c8 => ?_) (fun c8 => ?_)
          ·
            exact K179 (k5 cs h1) H locs ls (gs_k5 G hz4 g1) hP hD hS (lv_sub hl [4, 5, 6, 7, 8] rfl)
          ·
            refine lv_aload_n hx hb dL_law_136 rfl (lv_at hl 8 rfl) ?_
            refine k_Vi (As := []) (r := (nI (csz cs))) hF (c_X3_undo l g u ah at9 a0 ak h1 (csg cs) (cn cs) (cod cs) (csz cs) (va_up (chs cs) (((cod cs) + (csz cs)) % 6) (ch cs)) (by omega) (by omega) (k_bs hbs hbo)) (cwV 0 hts gL_law_X3_undo rfl rfl rfl (by decide +kernel) ⟨Nat.le_of_ble_eq_true rfl, Nat.le_of_ble_eq_true rfl⟩) hE hP hD hS hA (k_pall _) ((k_pall _).symm) 0 rfl rfl rfl rfl hl.1 rfl (Nat.le_of_ble_eq_true rfl) dL_law_137 ⟨Nat.le_of_ble_eq_true rfl, Nat.le_of_ble_eq_true rfl⟩ (fun H locs hP hD hS => ?_)
            have hP : va_P g.1 vwCl ((wU u (ah 0) (a0 0) (at9 0)) ++ ((wH g ah ((va_up (chs cs) (((cod cs) + (csz cs)) % 6) (ch cs)) (((cod cs) + (csz cs)) % 6))) ++ ((wT g at9 ((csg cs), (nI (cn cs)))) ++ ((wK0 g a0 ak ((nI (cod cs)), (nI (csz cs)))) ++ (wHs g ak (va_up (chs cs) (((cod cs) + (csz cs)) % 6) (ch cs)) 6))))) _ := hP
            have hD : va_D (fun q : Nat => s.heap.size ≤ q) ((wU u (ah 0) (a0 0) (at9 0)) ++ ((wH g ah ((va_up (chs cs) (((cod cs) + (csz cs)) % 6) (ch cs)) (((cod cs) + (csz cs)) % 6))) ++ ((wT g at9 ((csg cs), (nI (cn cs)))) ++ ((wK0 g a0 ak ((nI (cod cs)), (nI (csz cs)))) ++ (wHs g ak (va_up (chs cs) (((cod cs) + (csz cs)) % 6) (ch cs)) 6))))) := hD
            obtain ⟨z10, ez10⟩ : ∃ x : HSt, ((va_up (chs cs) (((cod cs) + (csz cs)) % 6) (ch cs)) (((cod cs) + (csz cs)) % 6)) = x := ⟨_, rfl⟩
            rw [ez10] at hP hD
            have ez109 : z10 = (ch cs) := by rw [← ez10]; exact va_same
            rw [ez109] at hP hD
            refine lv_iload hx hb dL_law_140 (lv_at hl 3 rfl) ?_
            refine k_neN (tgt := 177) hx hb (by omega) (by omega) dL_law_142 (by decide) (fun c11 => ?_) (fun c11 => ?_)
            ·
              exact absurd rfl c11
            ·
              refine lv_aload_n hx hb dL_law_145 rfl (lv_at hl 8 rfl) ?_
              refine k_Sl (As := [.ref u]) (r := (Told (ch cs))) hF (c_L_told l g u ah at9 a0 ak (ch cs) (csg cs) (cn cs) (cod cs) (csz cs) (va_up (chs cs) (((cod cs) + (csz cs)) % 6) (ch cs))) (va_cwS 1 hts gL_law_L_told rfl rfl rfl (by decide +kernel) ⟨Nat.le_of_ble_eq_true rfl, Nat.le_of_ble_eq_true rfl⟩) hE hP hD hS hA (k_pall _) ((k_pall _).symm) rfl hl.1 rfl (Nat.le_of_ble_eq_true rfl) dL_law_146 ⟨Nat.le_of_ble_eq_true rfl, Nat.le_of_ble_eq_true rfl⟩ (fun H locs hP hD hS => ?_)
              have hP : va_P g.1 vwCl ((wU u (ah 0) (a0 0) (at9 0)) ++ ((wH g ah (ch cs)) ++ ((wT g at9 ((csg cs), (nI (cn cs)))) ++ ((wK0 g a0 ak ((nI (cod cs)), (nI (csz cs)))) ++ (wHs g ak (va_up (chs cs) (((cod cs) + (csz cs)) % 6) (ch cs)) 6))))) _ := hP
              have hD : va_D (fun q : Nat => s.heap.size ≤ q) ((wU u (ah 0) (a0 0) (at9 0)) ++ ((wH g ah (ch cs)) ++ ((wT g at9 ((csg cs), (nI (cn cs)))) ++ ((wK0 g a0 ak ((nI (cod cs)), (nI (csz cs)))) ++ (wHs g ak (va_up (chs cs) (((cod cs) + (csz cs)) % 6) (ch cs)) 6))))) := hD
              refine lv_lload hx hb dL_law_149 (lv_at hl 2 rfl) ?_
              refine W.lcmp hx hb dL_law_151 ?_
              refine k_top (show (lg_cmp (Told (ch cs)) (Told (ch cs))) = nI 0 from cmp_self _) ?_
              refine k_ifn0 (tgt := 177) hx hb (by decide) dL_law_152 (by decide) (fun c12 => ?_) (fun c12 => ?_)
              ·
                exact absurd c12 (by decide)
              ·
                refine lv_aload_n hx hb dL_law_155 rfl (lv_at hl 8 rfl) ?_
                refine lv_iload_n hx hb dL_law_156 rfl (lv_at hl 5 rfl) ?_
                refine lv_iload hx hb dL_law_157 (lv_at hl 6 rfl) ?_
                refine k_Si (As := [.ref u, .int v, .int w]) (r := (actA (ch cs) v w)) hF (c_L_act l g u ah at9 a0 ak (ch cs) (csg cs) (cn cs) (cod cs) (csz cs) (va_up (chs cs) (((cod cs) + (csz cs)) % 6) (ch cs)) (by omega) (by omega) hbo hI v w) (va_cwS 3 hts gL_law_L_act rfl rfl rfl (by decide +kernel) ⟨Nat.le_of_ble_eq_true rfl, Nat.le_of_ble_eq_true rfl⟩) hE hP hD hS hA (k_pall _) ((k_pall _).symm) rfl hl.1 rfl (Nat.le_of_ble_eq_true rfl) dL_law_159 ⟨Nat.le_of_ble_eq_true rfl, Nat.le_of_ble_eq_true rfl⟩ (fun H locs hP hD hS => ?_)
                have hP : va_P g.1 vwCl ((wU u (ah 0) (a0 0) (at9 0)) ++ ((wH g ah (ch (actC ((ch cs), (cod cs), (csz cs), (va_up (chs cs) (((cod cs) + (csz cs)) % 6) (ch cs)), (csg cs), (cn cs)) v w))) ++ ((wT g at9 ((csg (actC ((ch cs), (cod cs), (csz cs), (va_up (chs cs) (((cod cs) + (csz cs)) % 6) (ch cs)), (csg cs), (cn cs)) v w)), (nI (cn (actC ((ch cs), (cod cs), (csz cs), (va_up (chs cs) (((cod cs) + (csz cs)) % 6) (ch cs)), (csg cs), (cn cs)) v w))))) ++ ((wK0 g a0 ak ((nI (cod (actC ((ch cs), (cod cs), (csz cs), (va_up (chs cs) (((cod cs) + (csz cs)) % 6) (ch cs)), (csg cs), (cn cs)) v w))), (nI (csz (actC ((ch cs), (cod cs), (csz cs), (va_up (chs cs) (((cod cs) + (csz cs)) % 6) (ch cs)), (csg cs), (cn cs)) v w))))) ++ (wHs g ak (chs (actC ((ch cs), (cod cs), (csz cs), (va_up (chs cs) (((cod cs) + (csz cs)) % 6) (ch cs)), (csg cs), (cn cs)) v w)) 6))))) _ := hP
                have hD : va_D (fun q : Nat => s.heap.size ≤ q) ((wU u (ah 0) (a0 0) (at9 0)) ++ ((wH g ah (ch (actC ((ch cs), (cod cs), (csz cs), (va_up (chs cs) (((cod cs) + (csz cs)) % 6) (ch cs)), (csg cs), (cn cs)) v w))) ++ ((wT g at9 ((csg (actC ((ch cs), (cod cs), (csz cs), (va_up (chs cs) (((cod cs) + (csz cs)) % 6) (ch cs)), (csg cs), (cn cs)) v w)), (nI (cn (actC ((ch cs), (cod cs), (csz cs), (va_up (chs cs) (((cod cs) + (csz cs)) % 6) (ch cs)), (csg cs), (cn cs)) v w))))) ++ ((wK0 g a0 ak ((nI (cod (actC ((ch cs), (cod cs), (csz cs), (va_up (chs cs) (((cod cs) + (csz cs)) % 6) (ch cs)), (csg cs), (cn cs)) v w))), (nI (csz (actC ((ch cs), (cod cs), (csz cs), (va_up (chs cs) (((cod cs) + (csz cs)) % 6) (ch cs)), (csg cs), (cn cs)) v w))))) ++ (wHs g ak (chs (actC ((ch cs), (cod cs), (csz cs), (va_up (chs cs) (((cod cs) + (csz cs)) % 6) (ch cs)), (csg cs), (cn cs)) v w)) 6))))) := hD
                have e1 : actC ((ch cs), (cod cs), (csz cs), (va_up (chs cs) (((cod cs) + (csz cs)) % 6) (ch cs)), (csg cs), (cn cs)) v w = k5 ((ch cs), (cod cs), (csz cs), (va_up (chs cs) (((cod cs) + (csz cs)) % 6) (ch cs)), (csg cs), (cn cs)) (actH (ch cs) v w) := if_neg hN
                rw [e1] at hP hD
                have hP : va_P g.1 vwCl ((wU u (ah 0) (a0 0) (at9 0)) ++ ((wH g ah (actH (ch cs) v w)) ++ ((wT g at9 ((csg cs), (nI (cn cs)))) ++ ((wK0 g a0 ak ((nI (cod cs)), (nI ((csz cs) + 1)))) ++ (wHs g ak (va_up (va_up (chs cs) (((cod cs) + (csz cs)) % 6) (ch cs)) (((cod cs) + (csz cs)) % 6) (ch cs)) 6))))) _ := hP
                have hD : va_D (fun q : Nat => s.heap.size ≤ q) ((wU u (ah 0) (a0 0) (at9 0)) ++ ((wH g ah (actH (ch cs) v w)) ++ ((wT g at9 ((csg cs), (nI (cn cs)))) ++ ((wK0 g a0 ak ((nI (cod cs)), (nI ((csz cs) + 1)))) ++ (wHs g ak (va_up (va_up (chs cs) (((cod cs) + (csz cs)) % 6) (ch cs)) (((cod cs) + (csz cs)) % 6) (ch cs)) 6))))) := hD
                rw [eh1] at hP hD
                rw [va_twice] at hP hD
                have hP : va_P g.1 vwCl ((wU u (ah 0) (a0 0) (at9 0)) ++ ((wH g ah h1) ++ ((wT g at9 ((csg cs), (nI (cn cs)))) ++ ((wK0 g a0 ak ((nI (cod cs)), (nI ((csz cs) + 1)))) ++ (wHs g ak (va_up (chs cs) (((cod cs) + (csz cs)) % 6) (ch cs)) 6))))) _ := hP
                have hD : va_D (fun q : Nat => s.heap.size ≤ q) ((wU u (ah 0) (a0 0) (at9 0)) ++ ((wH g ah h1) ++ ((wT g at9 ((csg cs), (nI (cn cs)))) ++ ((wK0 g a0 ak ((nI (cod cs)), (nI ((csz cs) + 1)))) ++ (wHs g ak (va_up (chs cs) (((cod cs) + (csz cs)) % 6) (ch cs)) 6))))) := hD
                refine k_top (show actA (ch cs) v w = actR (ch cs) v w from if_neg hN) ?_
                refine lv_iload hx hb dL_law_162 (lv_at hl 1 rfl) ?_
                refine lv_icmp_ne (tgt := 177) hx hb dL_law_164 (by decide) (fun c13 => ?_) (fun c13 => ?_)
                ·
                  exact absurd rfl c13
                ·
                  refine lv_aload_n hx hb dL_law_167 rfl (lv_at hl 8 rfl) ?_
                  refine k_Sl (As := [.ref u]) (r := (Told h1)) hF (c_L_told l g u ah at9 a0 ak h1 (csg cs) (cn cs) (cod cs) ((csz cs) + 1) (va_up (chs cs) (((cod cs) + (csz cs)) % 6) (ch cs))) (va_cwS 1 hts gL_law_L_told rfl rfl rfl (by decide +kernel) ⟨Nat.le_of_ble_eq_true rfl, Nat.le_of_ble_eq_true rfl⟩) hE hP hD hS hA (k_pall _) ((k_pall _).symm) rfl hl.1 rfl (Nat.le_of_ble_eq_true rfl) dL_law_168 ⟨Nat.le_of_ble_eq_true rfl, Nat.le_of_ble_eq_true rfl⟩ (fun H locs hP hD hS => ?_)
                  have hP : va_P g.1 vwCl ((wU u (ah 0) (a0 0) (at9 0)) ++ ((wH g ah h1) ++ ((wT g at9 ((csg cs), (nI (cn cs)))) ++ ((wK0 g a0 ak ((nI (cod cs)), (nI ((csz cs) + 1)))) ++ (wHs g ak (va_up (chs cs) (((cod cs) + (csz cs)) % 6) (ch cs)) 6))))) _ := hP
                  have hD : va_D (fun q : Nat => s.heap.size ≤ q) ((wU u (ah 0) (a0 0) (at9 0)) ++ ((wH g ah h1) ++ ((wT g at9 ((csg cs), (nI (cn cs)))) ++ ((wK0 g a0 ak ((nI (cod cs)), (nI ((csz cs) + 1)))) ++ (wHs g ak (va_up (chs cs) (((cod cs) + (csz cs)) % 6) (ch cs)) 6))))) := hD
                  refine lv_lload hx hb dL_law_171 (lv_at hl 0 rfl) ?_
                  refine W.lcmp hx hb dL_law_173 ?_
                  refine k_top (show (lg_cmp (Told h1) (Told h1)) = nI 0 from cmp_self _) ?_
                  refine k_if0 (tgt := 179) hx hb (by decide) dL_law_174 (by decide) (fun c14 => ?_) (fun c14 => ?_)
                  ·
                    exact K179 (k5 cs h1) H locs ls (gs_k5 G hz4 g1) hP hD hS (lv_sub hl [4, 5, 6, 7, 8] rfl)
                  ·
                    exact absurd c14 (by decide)
      ·
        exact absurd rfl c6
    ·
      exact absurd c5 (actR_n9 hG hN)
