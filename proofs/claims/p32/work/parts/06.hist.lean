/-! halls laid aside and taken back -/
theorem k_P_set {D : va_G} {cl : List vw_C} {p a n : Nat} {cA : ClassId} {ws : va_W} {f f2 : Nat → Int32} {H : Heap} (hP : va_P D cl (ws.set p (a, .inl (cA, n, .inl f))) H) (hp : p < ws.length) (hf : ∀ k, k < n → f k = f2 k) : va_P D cl (ws.set p (a, .inl (cA, n, .inl f2))) H := by
  intro k q hq
  by_cases hk : k = p
  · subst hk
    rw [List.getElem?_set_self hp] at hq
    cases hq
    exact k_at_ext hf (hP k _ (by rw [List.getElem?_set_self hp]))
  · rw [List.getElem?_set_ne (Ne.symm hk)] at hq
    exact hP k q (by rw [List.getElem?_set_ne (Ne.symm hk)]; exact hq)
section KC
variable {p : Program} {l : Launch} {e : Env} {R : Room} {s : State} {m : MethodId} {args : Array Value} {below : List Frame} {meth : Method} {c : Code} {H : Heap} {locs : List Loc} {cells slots : Nat} {Q : State → Prop}
variable {cc : ByteArray} {pc : Nat} {ls : Array Slot} {rest : List Value} {g : kG} {A : Nat → Prop} {a : Nat} {ws ws1 : va_W}
theorem k_copyi (hexec : p.tables.exec = Jvm.exec) (hb : c.code = cc) (hml : c.maxLocals = ls.size) {own : String} {index : Nat} (hown : s.vm.findClass own = some m.cls) (hlink : (Cond.methodLink own index arraycopyName).before args s = true) (hnat : (Cond.native arraycopyName).before args s = true) (hstat : (Cond.static arraycopyName).before args s = true) (hini : (Cond.initialized "java/lang/System").before args s = true) (hE : kE g s)
    (hP : va_P g.1 vwCl ws H) (hD : va_D A ws) (hS : va_S A s.heap H locs) (q0 q1 : Nat) {a0 n : Nat} {f f2 : Nat → Int32} (ha0 : ws[q0]? = some (a0, .inl (g.2.1, n, .inl f))) (ha1 : ws[q1]? = some (a, .inl (g.2.1, n, .inl f2))) (hw : ws.set q1 (a, .inl (g.2.1, n, .inl f)) = ws1)
    (hframes : 1 ≤ R.frames) (hlocals : (rest.map fun v => v.category).sum + (nativeFrameWords "java/lang/System" "arraycopy" 5 + 11) ≤ R.locals) (hdg : decode cc pc = .ok (.invokestatic index, 3)) (hn : n < 2 ^ 31)
    (kk : ∀ (H1 : Heap) (locs1 : List Loc), va_P g.1 vwCl ws1 H1 → va_D A ws1 → va_S A s.heap H1 locs1 → W p l e R s m args below meth c H1 locs1 cells slots Q (F0 m (pc + 3) ls rest)) : W p l e R s m args below meth c H locs cells slots Q (F0 m pc ls (.int (nI n) :: .int (nI 0) :: .ref a :: .int (nI 0) :: .ref a0 :: rest)) := by
  have e0 : (nI 0).toNatClampNeg = 0 := nI_clamp (by decide)
  have en : (nI n).toNatClampNeg = n := nI_clamp hn
  refine va_copyi hexec hb hml hown hlink hnat hstat hini hE.1 hP hD hS q0 q1 0 0 ha0 ha1 rfl rfl rfl (nI_pos (by decide)) (nI_pos (by decide)) (nI_pos hn) (by rw [e0, en]; omega) (by rw [e0, en]; omega) (fun _ _ => rfl) hframes hlocals hdg (fun H1 locs1 hP1 hD1 hS1 => ?_)
  have hq1 : q1 < ws.length := (List.getElem?_eq_some_iff.mp ha1).1
  rw [e0, en] at hP1 hD1
  subst hw
  exact kk H1 locs1 (k_P_set hP1 hq1 (fun k hk => by rw [pk_cpy_in (Nat.zero_le k) (by omega)]; congr 1; omega)) (k_D_set hD1 hq1) hS1
end KC
/-- the ring without the hall j -/
def wHsX (g : kG) (ak : Nat → Nat → Nat) (hs : Nat → HSt) (j : Nat) : Nat → va_W
  | 0 => []
  | n + 1 => (if n = j then [] else wH g (ak n) (hs n)) ++ wHsX g ak hs j n
theorem wHsX_all {g : kG} {ak : Nat → Nat → Nat} {hs : Nat → HSt} {j : Nat} : ∀ n, n ≤ j → wHsX g ak hs j n = wHs g ak hs n
  | 0, _ => rfl
  | n + 1, h => by
    show (if n = j then [] else wH g (ak n) (hs n)) ++ wHsX g ak hs j n = wH g (ak n) (hs n) ++ wHs g ak hs n
    rw [if_neg (by omega), wHsX_all n (by omega)]
theorem wHs_perm {g : kG} {ak : Nat → Nat → Nat} {hs : Nat → HSt} {j : Nat} : ∀ n, j < n → (wHs g ak hs n).Perm (wH g (ak j) (hs j) ++ wHsX g ak hs j n)
  | 0, h => absurd h (Nat.not_lt_zero j)
  | n + 1, h => by
    show (wH g (ak n) (hs n) ++ wHs g ak hs n).Perm (wH g (ak j) (hs j) ++ ((if n = j then [] else wH g (ak n) (hs n)) ++ wHsX g ak hs j n))
    by_cases e : n = j
    · subst e
      rw [if_pos rfl, wHsX_all n (Nat.le_refl n)]
      exact List.Perm.refl _
    · rw [if_neg e]
      exact ((wHs_perm n (by omega)).append_left _).trans pm_swap
theorem wHsX_up {g : kG} {ak : Nat → Nat → Nat} {hs : Nat → HSt} {j : Nat} {h : HSt} : ∀ n, wHsX g ak (va_up hs j h) j n = wHsX g ak hs j n
  | 0 => rfl
  | n + 1 => by
    show (if n = j then [] else wH g (ak n) (va_up hs j h n)) ++ wHsX g ak (va_up hs j h) j n = (if n = j then [] else wH g (ak n) (hs n)) ++ wHsX g ak hs j n
    rw [wHsX_up n]
    by_cases e : n = j
    · rw [if_pos e, if_pos e]
    · rw [if_neg e, if_neg e, show va_up hs j h n = hs n from if_neg e]
theorem wHs_perm_up {g : kG} {ak : Nat → Nat → Nat} {hs : Nat → HSt} {j n : Nat} {h : HSt} (hj : j < n) : (wHs g ak (va_up hs j h) n).Perm (wH g (ak j) h ++ wHsX g ak hs j n) := by
  have z := wHs_perm (g := g) (ak := ak) (hs := va_up hs j h) n hj
  rw [wHsX_up, show va_up hs j h j = h from if_pos rfl] at z
  exact z
theorem ring_at {g : kG} {ak : Nat → Nat → Nat} {hs : Nat → HSt} {j : Nat} (hj : j < 6) {a b : va_W} : ∃ (q0 : Nat) (fs : List Value), (a ++ (wHs g ak hs 6 ++ b))[q0]? = some (ak j 0, .inr (1, fs)) := by
  have hm : ∀ q ∈ wH g (ak j) (hs j), q ∈ wHs g ak hs 6 := fun q hq => (wHs_perm 6 hj).mem_iff.mpr (List.mem_append_left _ hq)
  have h3 := hm _ List.mem_cons_self
  obtain ⟨q0, hq⟩ := List.mem_iff_getElem?.mp (List.mem_append_right a (List.mem_append_left b h3))
  exact ⟨q0, _, hq⟩
set_option maxHeartbeats 4000000 in
set_option maxRecDepth 100000 in
theorem c_X1_copyFrom (l : Launch) (g : kG) (a b : Nat → Nat) (h h2 : HSt) (hbo : Hbo h2) : KV l yX1_copyFrom wsX1_copyFrom ({ frames := 1, cells := 0, slots := 0, locals := 60 }) g [.ref (a 0), .ref (b 0)] ((wH g a h) ++ (wH g b h2)) ((wH g a h2) ++ (wH g b h2)) 0 0 := by
  refine k_begin (cc := cX1_copyFrom) (maxL := 2) (ret := none) (Qc := fun A => kQv g ((wH g a h2) ++ (wH g b h2)) A) (by decide) rfl (Nat.le_of_ble_eq_true rfl) ?_
  intro p e s m below meth c A ls hF hr hlocks hin hE hP hD hS hA hl
  obtain ⟨hx, hb, hml, hown, hts⟩ := id hF
  have hown : s.vm.findClass RX1 = some m.cls := hown
  have hl : lv_has ls 2 [(0, .ref (a 0)), (1, .ref (b 0))] := hl
  have hiX1 : ∀ w ∈ wsX10, w ∈ wsX1_copyFrom := fun _ h => List.mem_cons_of_mem _ (List.mem_append_right _ (h))
  have f9 : (Cond.fieldLink RX1 9 "ConcertUsher$Hall" "listeners" "[I").before _ s = true := hts _ (List.mem_of_getElem? (i := 1) rfl)
  have acl : (Cond.methodLink RX1 50 arraycopyName).before _ s = true := hts _ (List.mem_of_getElem? (i := 2) rfl)
  have acn : (Cond.native arraycopyName).before _ s = true := hts _ (List.mem_of_getElem? (i := 3) rfl)
  have acs : (Cond.static arraycopyName).before _ s = true := hts _ (List.mem_of_getElem? (i := 4) rfl)
  have aci : (Cond.initialized "java/lang/System").before _ s = true := hts _ (List.mem_of_getElem? (i := 5) rfl)
  have f15 : (Cond.fieldLink RX1 15 "ConcertUsher$Hall" "rests" "[I").before _ s = true := hts _ (List.mem_of_getElem? (i := 6) rfl)
  have f18 : (Cond.fieldLink RX1 18 "ConcertUsher$Hall" "counts" "[I").before _ s = true := hts _ (List.mem_of_getElem? (i := 7) rfl)
  have f21 : (Cond.fieldLink RX1 21 "ConcertUsher$Hall" "openRows" "I").before _ s = true := hts _ (List.mem_of_getElem? (i := 8) rfl)
  have f25 : (Cond.fieldLink RX1 25 "ConcertUsher$Hall" "isQuick" "Z").before _ s = true := hts _ (List.mem_of_getElem? (i := 9) rfl)
  have f29 : (Cond.fieldLink RX1 29 "ConcertUsher$Hall" "isFirstPresent" "Z").before _ s = true := hts _ (List.mem_of_getElem? (i := 10) rfl)
  have f32 : (Cond.fieldLink RX1 32 "ConcertUsher$Hall" "isSecondPresent" "Z").before _ s = true := hts _ (List.mem_of_getElem? (i := 11) rfl)
  have f35 : (Cond.fieldLink RX1 35 "ConcertUsher$Hall" "fading" "I").before _ s = true := hts _ (List.mem_of_getElem? (i := 12) rfl)
  have f38 : (Cond.fieldLink RX1 38 "ConcertUsher$Hall" "patience" "I").before _ s = true := hts _ (List.mem_of_getElem? (i := 13) rfl)
  have f41 : (Cond.fieldLink RX1 41 "ConcertUsher$Hall" "asking" "I").before _ s = true := hts _ (List.mem_of_getElem? (i := 14) rfl)
  have f44 : (Cond.fieldLink RX1 44 "ConcertUsher$Hall" "minutes" "I").before _ s = true := hts _ (List.mem_of_getElem? (i := 15) rfl)
  have f47 : (Cond.fieldLink RX1 47 "ConcertUsher$Hall" "sinceQuestion" "I").before _ s = true := hts _ (List.mem_of_getElem? (i := 16) rfl)
  refine lv_aload_n hx hb dX1_copyFrom_0 rfl (lv_at hl 1 rfl) ?_
  refine va_get (D := g.1) (ci := 1) (v := .ref (b 1)) (C := RX1) (T := TX1) (N := 12) hx hb hts hiX1 hown hE.1 hP 4 rfl rfl 0 (by decide) f9 (fun _ h9 => h9) rfl dX1_copyFrom_1 ?_
  refine lv_iconst (v := (nI 0)) hx hb dX1_copyFrom_4 (by decide) ?_
  refine lv_aload_n hx hb dX1_copyFrom_5 rfl (lv_at hl 0 rfl) ?_
  refine va_get (D := g.1) (ci := 1) (v := .ref (a 1)) (C := RX1) (T := TX1) (N := 12) hx hb hts hiX1 hown hE.1 hP 0 rfl rfl 0 (by decide) f9 (fun _ h9 => h9) rfl dX1_copyFrom_6 ?_
  refine lv_iconst (v := (nI 0)) hx hb dX1_copyFrom_9 (by decide) ?_
  refine lv_bipush (v := (nI 48)) hx hb dX1_copyFrom_10 (by decide) ?_
  refine k_copyi (n := 48) (ws1 := ((wH g a (sHL h (hL h2))) ++ (wH g b h2))) hx hb (hml.trans hl.1.symm) hown acl acn acs aci hE hP hD hS 5 1 rfl rfl rfl (Nat.le_of_ble_eq_true rfl) (by decide) dX1_copyFrom_12 (by decide) (fun H locs hP hD hS => ?_)
  refine lv_aload_n hx hb dX1_copyFrom_15 rfl (lv_at hl 1 rfl) ?_
  refine va_get (D := g.1) (ci := 1) (v := .ref (b 2)) (C := RX1) (T := TX1) (N := 12) hx hb hts hiX1 hown hE.1 hP 4 rfl rfl 1 (by decide) f15 (fun _ h9 => h9) rfl dX1_copyFrom_16 ?_
  refine lv_iconst (v := (nI 0)) hx hb dX1_copyFrom_19 (by decide) ?_
  refine lv_aload_n hx hb dX1_copyFrom_20 rfl (lv_at hl 0 rfl) ?_
  refine va_get (D := g.1) (ci := 1) (v := .ref (a 2)) (C := RX1) (T := TX1) (N := 12) hx hb hts hiX1 hown hE.1 hP 0 rfl rfl 1 (by decide) f15 (fun _ h9 => h9) rfl dX1_copyFrom_21 ?_
  refine lv_iconst (v := (nI 0)) hx hb dX1_copyFrom_24 (by decide) ?_
  refine lv_bipush (v := (nI 48)) hx hb dX1_copyFrom_25 (by decide) ?_
  refine k_copyi (n := 48) (ws1 := ((wH g a (sHR (sHL h (hL h2)) (hR h2))) ++ (wH g b h2))) hx hb (hml.trans hl.1.symm) hown acl acn acs aci hE hP hD hS 6 2 rfl rfl rfl (Nat.le_of_ble_eq_true rfl) (by decide) dX1_copyFrom_27 (by decide) (fun H locs hP hD hS => ?_)
  refine lv_aload_n hx hb dX1_copyFrom_30 rfl (lv_at hl 1 rfl) ?_
  refine va_get (D := g.1) (ci := 1) (v := .ref (b 3)) (C := RX1) (T := TX1) (N := 12) hx hb hts hiX1 hown hE.1 hP 4 rfl rfl 2 (by decide) f18 (fun _ h9 => h9) rfl dX1_copyFrom_31 ?_
  refine lv_iconst (v := (nI 0)) hx hb dX1_copyFrom_34 (by decide) ?_
  refine lv_aload_n hx hb dX1_copyFrom_35 rfl (lv_at hl 0 rfl) ?_
  refine va_get (D := g.1) (ci := 1) (v := .ref (a 3)) (C := RX1) (T := TX1) (N := 12) hx hb hts hiX1 hown hE.1 hP 0 rfl rfl 2 (by decide) f18 (fun _ h9 => h9) rfl dX1_copyFrom_36 ?_
  refine lv_iconst (v := (nI 0)) hx hb dX1_copyFrom_39 (by decide) ?_
  refine lv_bipush (v := (nI 6)) hx hb dX1_copyFrom_40 (by decide) ?_
  refine k_copyi (n := 6) (ws1 := ((wH g a (sHC (sHR (sHL h (hL h2)) (hR h2)) (hC h2))) ++ (wH g b h2))) hx hb (hml.trans hl.1.symm) hown acl acn acs aci hE hP hD hS 7 3 rfl rfl rfl (Nat.le_of_ble_eq_true rfl) (by decide) dX1_copyFrom_42 (by decide) (fun H locs hP hD hS => ?_)
  refine lv_aload_n hx hb dX1_copyFrom_45 rfl (lv_at hl 0 rfl) ?_
  refine lv_aload_n hx hb dX1_copyFrom_46 rfl (lv_at hl 1 rfl) ?_
  refine va_get (D := g.1) (ci := 1) (v := .int (hop h2)) (C := RX1) (T := TX1) (N := 12) hx hb hts hiX1 hown hE.1 hP 4 rfl rfl 3 (by decide) f21 (fun _ h9 => h9) rfl dX1_copyFrom_47 ?_
  refine va_put (D := g.1) (ci := 1) (v := .int (hop h2)) (ty := .int) (C := RX1) (T := TX1) (N := 12) hx hb hts hiX1 tyX1 tyX1_ok nmX1 hown hE.1 hP hD hS 0 rfl rfl 3 (by decide) f21 (fun _ h9 => h9) rfl (tyX1_ok 3 (by decide)) rfl rfl (Nat.le_of_ble_eq_true rfl) dX1_copyFrom_50 (fun H locs hP hD hS => ?_)
  have hP : va_P g.1 vwCl ((wH g a (sHop (sHC (sHR (sHL h (hL h2)) (hR h2)) (hC h2)) (hop h2))) ++ (wH g b h2)) _ := hP
  have hD : va_D A ((wH g a (sHop (sHC (sHR (sHL h (hL h2)) (hR h2)) (hC h2)) (hop h2))) ++ (wH g b h2)) := hD
  refine lv_aload_n hx hb dX1_copyFrom_53 rfl (lv_at hl 0 rfl) ?_
  refine lv_aload_n hx hb dX1_copyFrom_54 rfl (lv_at hl 1 rfl) ?_
  refine va_get (D := g.1) (ci := 1) (v := .int (hqk h2)) (C := RX1) (T := TX1) (N := 12) hx hb hts hiX1 hown hE.1 hP 4 rfl rfl 4 (by decide) f25 (fun _ h9 => h9) rfl dX1_copyFrom_55 ?_
  refine va_put (D := g.1) (ci := 1) (v := .int (hqk h2)) (ty := .boolean) (C := RX1) (T := TX1) (N := 12) hx hb hts hiX1 tyX1 tyX1_ok nmX1 hown hE.1 hP hD hS 0 rfl rfl 4 (by decide) f25 (fun _ h9 => h9) rfl (tyX1_ok 4 (by decide)) (bo_nar hbo.1) (bo_fits hbo.1) (Nat.le_of_ble_eq_true rfl) dX1_copyFrom_58 (fun H locs hP hD hS => ?_)
  have hP : va_P g.1 vwCl ((wH g a (sHqk (sHop (sHC (sHR (sHL h (hL h2)) (hR h2)) (hC h2)) (hop h2)) (hqk h2))) ++ (wH g b h2)) _ := hP
  have hD : va_D A ((wH g a (sHqk (sHop (sHC (sHR (sHL h (hL h2)) (hR h2)) (hC h2)) (hop h2)) (hqk h2))) ++ (wH g b h2)) := hD
  refine lv_aload_n hx hb dX1_copyFrom_61 rfl (lv_at hl 0 rfl) ?_
  refine lv_aload_n hx hb dX1_copyFrom_62 rfl (lv_at hl 1 rfl) ?_
  refine va_get (D := g.1) (ci := 1) (v := .int (hf1 h2)) (C := RX1) (T := TX1) (N := 12) hx hb hts hiX1 hown hE.1 hP 4 rfl rfl 5 (by decide) f29 (fun _ h9 => h9) rfl dX1_copyFrom_63 ?_
  refine va_put (D := g.1) (ci := 1) (v := .int (hf1 h2)) (ty := .boolean) (C := RX1) (T := TX1) (N := 12) hx hb hts hiX1 tyX1 tyX1_ok nmX1 hown hE.1 hP hD hS 0 rfl rfl 5 (by decide) f29 (fun _ h9 => h9) rfl (tyX1_ok 5 (by decide)) (bo_nar hbo.2.1) (bo_fits hbo.2.1) (Nat.le_of_ble_eq_true rfl) dX1_copyFrom_66 (fun H locs hP hD hS => ?_)
  have hP : va_P g.1 vwCl ((wH g a (sHf1 (sHqk (sHop (sHC (sHR (sHL h (hL h2)) (hR h2)) (hC h2)) (hop h2)) (hqk h2)) (hf1 h2))) ++ (wH g b h2)) _ := hP
  have hD : va_D A ((wH g a (sHf1 (sHqk (sHop (sHC (sHR (sHL h (hL h2)) (hR h2)) (hC h2)) (hop h2)) (hqk h2)) (hf1 h2))) ++ (wH g b h2)) := hD
  refine lv_aload_n hx hb dX1_copyFrom_69 rfl (lv_at hl 0 rfl) ?_
  refine lv_aload_n hx hb dX1_copyFrom_70 rfl (lv_at hl 1 rfl) ?_
  refine va_get (D := g.1) (ci := 1) (v := .int (hf2 h2)) (C := RX1) (T := TX1) (N := 12) hx hb hts hiX1 hown hE.1 hP 4 rfl rfl 6 (by decide) f32 (fun _ h9 => h9) rfl dX1_copyFrom_71 ?_
  refine va_put (D := g.1) (ci := 1) (v := .int (hf2 h2)) (ty := .boolean) (C := RX1) (T := TX1) (N := 12) hx hb hts hiX1 tyX1 tyX1_ok nmX1 hown hE.1 hP hD hS 0 rfl rfl 6 (by decide) f32 (fun _ h9 => h9) rfl (tyX1_ok 6 (by decide)) (bo_nar hbo.2.2) (bo_fits hbo.2.2) (Nat.le_of_ble_eq_true rfl) dX1_copyFrom_74 (fun H locs hP hD hS => ?_)
  have hP : va_P g.1 vwCl ((wH g a (sHf2 (sHf1 (sHqk (sHop (sHC (sHR (sHL h (hL h2)) (hR h2)) (hC h2)) (hop h2)) (hqk h2)) (hf1 h2)) (hf2 h2))) ++ (wH g b h2)) _ := hP
  have hD : va_D A ((wH g a (sHf2 (sHf1 (sHqk (sHop (sHC (sHR (sHL h (hL h2)) (hR h2)) (hC h2)) (hop h2)) (hqk h2)) (hf1 h2)) (hf2 h2))) ++ (wH g b h2)) := hD
  refine lv_aload_n hx hb dX1_copyFrom_77 rfl (lv_at hl 0 rfl) ?_
  refine lv_aload_n hx hb dX1_copyFrom_78 rfl (lv_at hl 1 rfl) ?_
  refine va_get (D := g.1) (ci := 1) (v := .int (hfd h2)) (C := RX1) (T := TX1) (N := 12) hx hb hts hiX1 hown hE.1 hP 4 rfl rfl 7 (by decide) f35 (fun _ h9 => h9) rfl dX1_copyFrom_79 ?_
  refine va_put (D := g.1) (ci := 1) (v := .int (hfd h2)) (ty := .int) (C := RX1) (T := TX1) (N := 12) hx hb hts hiX1 tyX1 tyX1_ok nmX1 hown hE.1 hP hD hS 0 rfl rfl 7 (by decide) f35 (fun _ h9 => h9) rfl (tyX1_ok 7 (by decide)) rfl rfl (Nat.le_of_ble_eq_true rfl) dX1_copyFrom_82 (fun H locs hP hD hS => ?_)
  have hP : va_P g.1 vwCl ((wH g a (sHfd (sHf2 (sHf1 (sHqk (sHop (sHC (sHR (sHL h (hL h2)) (hR h2)) (hC h2)) (hop h2)) (hqk h2)) (hf1 h2)) (hf2 h2)) (hfd h2))) ++ (wH g b h2)) _ := hP
  have hD : va_D A ((wH g a (sHfd (sHf2 (sHf1 (sHqk (sHop (sHC (sHR (sHL h (hL h2)) (hR h2)) (hC h2)) (hop h2)) (hqk h2)) (hf1 h2)) (hf2 h2)) (hfd h2))) ++ (wH g b h2)) := hD
  refine lv_aload_n hx hb dX1_copyFrom_85 rfl (lv_at hl 0 rfl) ?_
  refine lv_aload_n hx hb dX1_copyFrom_86 rfl (lv_at hl 1 rfl) ?_
  refine va_get (D := g.1) (ci := 1) (v := .int (hpt h2)) (C := RX1) (T := TX1) (N := 12) hx hb hts hiX1 hown hE.1 hP 4 rfl rfl 8 (by decide) f38 (fun _ h9 => h9) rfl dX1_copyFrom_87 ?_
  refine va_put (D := g.1) (ci := 1) (v := .int (hpt h2)) (ty := .int) (C := RX1) (T := TX1) (N := 12) hx hb hts hiX1 tyX1 tyX1_ok nmX1 hown hE.1 hP hD hS 0 rfl rfl 8 (by decide) f38 (fun _ h9 => h9) rfl (tyX1_ok 8 (by decide)) rfl rfl (Nat.le_of_ble_eq_true rfl) dX1_copyFrom_90 (fun H locs hP hD hS => ?_)
  have hP : va_P g.1 vwCl ((wH g a (sHpt (sHfd (sHf2 (sHf1 (sHqk (sHop (sHC (sHR (sHL h (hL h2)) (hR h2)) (hC h2)) (hop h2)) (hqk h2)) (hf1 h2)) (hf2 h2)) (hfd h2)) (hpt h2))) ++ (wH g b h2)) _ := hP
  have hD : va_D A ((wH g a (sHpt (sHfd (sHf2 (sHf1 (sHqk (sHop (sHC (sHR (sHL h (hL h2)) (hR h2)) (hC h2)) (hop h2)) (hqk h2)) (hf1 h2)) (hf2 h2)) (hfd h2)) (hpt h2))) ++ (wH g b h2)) := hD
  refine lv_aload_n hx hb dX1_copyFrom_93 rfl (lv_at hl 0 rfl) ?_
  refine lv_aload_n hx hb dX1_copyFrom_94 rfl (lv_at hl 1 rfl) ?_
  refine va_get (D := g.1) (ci := 1) (v := .int (has h2)) (C := RX1) (T := TX1) (N := 12) hx hb hts hiX1 hown hE.1 hP 4 rfl rfl 9 (by decide) f41 (fun _ h9 => h9) rfl dX1_copyFrom_95 ?_
  refine va_put (D := g.1) (ci := 1) (v := .int (has h2)) (ty := .int) (C := RX1) (T := TX1) (N := 12) hx hb hts hiX1 tyX1 tyX1_ok nmX1 hown hE.1 hP hD hS 0 rfl rfl 9 (by decide) f41 (fun _ h9 => h9) rfl (tyX1_ok 9 (by decide)) rfl rfl (Nat.le_of_ble_eq_true rfl) dX1_copyFrom_98 (fun H locs hP hD hS => ?_)
  have hP : va_P g.1 vwCl ((wH g a (sHas (sHpt (sHfd (sHf2 (sHf1 (sHqk (sHop (sHC (sHR (sHL h (hL h2)) (hR h2)) (hC h2)) (hop h2)) (hqk h2)) (hf1 h2)) (hf2 h2)) (hfd h2)) (hpt h2)) (has h2))) ++ (wH g b h2)) _ := hP
  have hD : va_D A ((wH g a (sHas (sHpt (sHfd (sHf2 (sHf1 (sHqk (sHop (sHC (sHR (sHL h (hL h2)) (hR h2)) (hC h2)) (hop h2)) (hqk h2)) (hf1 h2)) (hf2 h2)) (hfd h2)) (hpt h2)) (has h2))) ++ (wH g b h2)) := hD
  refine lv_aload_n hx hb dX1_copyFrom_101 rfl (lv_at hl 0 rfl) ?_
  refine lv_aload_n hx hb dX1_copyFrom_102 rfl (lv_at hl 1 rfl) ?_
  refine va_get (D := g.1) (ci := 1) (v := .int (hmn h2)) (C := RX1) (T := TX1) (N := 12) hx hb hts hiX1 hown hE.1 hP 4 rfl rfl 10 (by decide) f44 (fun _ h9 => h9) rfl dX1_copyFrom_103 ?_
  refine va_put (D := g.1) (ci := 1) (v := .int (hmn h2)) (ty := .int) (C := RX1) (T := TX1) (N := 12) hx hb hts hiX1 tyX1 tyX1_ok nmX1 hown hE.1 hP hD hS 0 rfl rfl 10 (by decide) f44 (fun _ h9 => h9) rfl (tyX1_ok 10 (by decide)) rfl rfl (Nat.le_of_ble_eq_true rfl) dX1_copyFrom_106 (fun H locs hP hD hS => ?_)
  have hP : va_P g.1 vwCl ((wH g a (sHmn (sHas (sHpt (sHfd (sHf2 (sHf1 (sHqk (sHop (sHC (sHR (sHL h (hL h2)) (hR h2)) (hC h2)) (hop h2)) (hqk h2)) (hf1 h2)) (hf2 h2)) (hfd h2)) (hpt h2)) (has h2)) (hmn h2))) ++ (wH g b h2)) _ := hP
  have hD : va_D A ((wH g a (sHmn (sHas (sHpt (sHfd (sHf2 (sHf1 (sHqk (sHop (sHC (sHR (sHL h (hL h2)) (hR h2)) (hC h2)) (hop h2)) (hqk h2)) (hf1 h2)) (hf2 h2)) (hfd h2)) (hpt h2)) (has h2)) (hmn h2))) ++ (wH g b h2)) := hD
  refine lv_aload_n hx hb dX1_copyFrom_109 rfl (lv_at hl 0 rfl) ?_
  refine lv_aload_n hx hb dX1_copyFrom_110 rfl (lv_at hl 1 rfl) ?_
  refine va_get (D := g.1) (ci := 1) (v := .int (hsn h2)) (C := RX1) (T := TX1) (N := 12) hx hb hts hiX1 hown hE.1 hP 4 rfl rfl 11 (by decide) f47 (fun _ h9 => h9) rfl dX1_copyFrom_111 ?_
  refine va_put (D := g.1) (ci := 1) (v := .int (hsn h2)) (ty := .int) (C := RX1) (T := TX1) (N := 12) hx hb hts hiX1 tyX1 tyX1_ok nmX1 hown hE.1 hP hD hS 0 rfl rfl 11 (by decide) f47 (fun _ h9 => h9) rfl (tyX1_ok 11 (by decide)) rfl rfl (Nat.le_of_ble_eq_true rfl) dX1_copyFrom_114 (fun H locs hP hD hS => ?_)
  have hP : va_P g.1 vwCl ((wH g a (sHsn (sHmn (sHas (sHpt (sHfd (sHf2 (sHf1 (sHqk (sHop (sHC (sHR (sHL h (hL h2)) (hR h2)) (hC h2)) (hop h2)) (hqk h2)) (hf1 h2)) (hf2 h2)) (hfd h2)) (hpt h2)) (has h2)) (hmn h2)) (hsn h2))) ++ (wH g b h2)) _ := hP
  have hD : va_D A ((wH g a (sHsn (sHmn (sHas (sHpt (sHfd (sHf2 (sHf1 (sHqk (sHop (sHC (sHR (sHL h (hL h2)) (hR h2)) (hC h2)) (hop h2)) (hqk h2)) (hf1 h2)) (hf2 h2)) (hfd h2)) (hpt h2)) (has h2)) (hmn h2)) (hsn h2))) ++ (wH g b h2)) := hD
  have hP : va_P g.1 vwCl ((wH g a h2) ++ (wH g b h2)) _ := hP
  have hD : va_D A ((wH g a h2) ++ (wH g b h2)) := hD
  exact k_vret hx hb hr hlocks hP hD hS (Nat.le_of_ble_eq_true rfl) (Nat.le_of_ble_eq_true rfl) dX1_copyFrom_117
set_option maxHeartbeats 4000000 in
set_option maxRecDepth 100000 in
theorem c_X2_keep (l : Launch) (g : kG) (a : Nat → Nat) (ak : Nat → Nat → Nat) (b : Nat → Nat) (od sz : Nat) (hod : od < 6) (hsz : sz ≤ 6) (hs : Nat → HSt) (h : HSt) (hbo : Hbo h) : KV l yX2_keep wsX2_keep ({ frames := 2, cells := 0, slots := 0, locals := 81 }) g [.ref (a 0), .ref (b 0)] ((wK0 g a ak ((nI od), (nI sz))) ++ ((wHs g ak hs 6) ++ (wH g b h))) ((wK0 g a ak (nI (kOd od sz), nI (kSz sz))) ++ ((wHs g ak (va_up hs (kJ od sz) h) 6) ++ (wH g b h))) 0 0 := by
  refine k_begin (cc := cX2_keep) (maxL := 2) (ret := none) (Qc := fun A => kQv g ((wK0 g a ak (nI (kOd od sz), nI (kSz sz))) ++ ((wHs g ak (va_up hs (kJ od sz) h) 6) ++ (wH g b h))) A) (by decide) rfl (Nat.le_of_ble_eq_true rfl) ?_
  intro p e s m below meth c A ls hF hr hlocks hin hE hP hD hS hA hl
  obtain ⟨hx, hb, hml, hown, hts⟩ := id hF
  have hown : s.vm.findClass RX2 = some m.cls := hown
  have hl : lv_has ls 2 [(0, .ref (a 0)), (1, .ref (b 0))] := hl
  have hiX2 : ∀ w ∈ wsX20, w ∈ wsX2_keep := fun _ h => List.mem_cons_of_mem _ (List.mem_append_left _ (List.mem_append_right _ (h)))
  have f21 : (Cond.fieldLink RX2 21 "ConcertUsher$History" "size" "I").before _ s = true := hts _ (List.mem_of_getElem? (i := 1) rfl)
  have f11 : (Cond.fieldLink RX2 11 "ConcertUsher$History" "halls" "[LConcertUsher$Hall;").before _ s = true := hts _ (List.mem_of_getElem? (i := 3) rfl)
  have f17 : (Cond.fieldLink RX2 17 "ConcertUsher$History" "oldest" "I").before _ s = true := hts _ (List.mem_of_getElem? (i := 2) rfl)
  refine lv_aload_n hx hb dX2_keep_0 rfl (lv_at hl 0 rfl) ?_
  refine va_get (D := g.1) (ci := 2) (v := .int (nI sz)) (C := RX2) (T := TX2) (N := 3) hx hb hts hiX2 hown hE.1 hP 0 rfl rfl 2 (by decide) f21 (fun _ h9 => h9) rfl dX2_keep_1 ?_
  refine lv_bipush (v := (nI 6)) hx hb dX2_keep_4 (by decide) ?_
  refine k_neN (tgt := 32) hx hb (by omega) (by decide) dX2_keep_6 (by decide) (fun c1 => ?_) (fun c1 => ?_)
  ·
    refine lv_aload_n hx hb dX2_keep_32 rfl (lv_at hl 0 rfl) ?_
    refine va_get (D := g.1) (ci := 2) (v := .ref (a 1)) (C := RX2) (T := TX2) (N := 3) hx hb hts hiX2 hown hE.1 hP 0 rfl rfl 0 (by decide) f11 (fun _ h9 => h9) rfl dX2_keep_33 ?_
    refine lv_aload_n hx hb dX2_keep_36 rfl (lv_at hl 0 rfl) ?_
    refine va_get (D := g.1) (ci := 2) (v := .int (nI od)) (C := RX2) (T := TX2) (N := 3) hx hb hts hiX2 hown hE.1 hP 0 rfl rfl 1 (by decide) f17 (fun _ h9 => h9) rfl dX2_keep_37 ?_
    refine lv_aload_n hx hb dX2_keep_40 rfl (lv_at hl 0 rfl) ?_
    refine va_get (D := g.1) (ci := 2) (v := .int (nI sz)) (C := RX2) (T := TX2) (N := 3) hx hb hts hiX2 hown hE.1 hP 0 rfl rfl 2 (by decide) f21 (fun _ h9 => h9) rfl dX2_keep_41 ?_
    refine lv_iadd hx hb dX2_keep_44 ?_
    refine k_top (nI_add _ _) ?_
    refine lv_bipush (v := (nI 6)) hx hb dX2_keep_45 (by decide) ?_
    refine lv_irem hx hb dX2_keep_47 (by decide) ?_
    refine k_top (pk_rem (by omega) (by decide) (by decide)) ?_
    refine k_aald (f := fun i => ak i 0) hx hb hE hP 1 rfl ((od + sz) % 6) rfl (by omega) (by decide) dX2_keep_48 ?_
    refine lv_aload_n hx hb dX2_keep_49 rfl (lv_at hl 1 rfl) ?_
    have hj6 : ((od + sz) % 6) < 6 := by omega
    obtain ⟨q0, fs0, he⟩ := ring_at (g := g) (ak := ak) (hs := hs) hj6 (a := (wK0 g a ak ((nI od), (nI sz)))) (b := (wH g b h))
    refine k_Vv (w0 := ((wH g (ak ((od + sz) % 6)) (hs ((od + sz) % 6))) ++ (wH g b h))) (w1 := ((wH g (ak ((od + sz) % 6)) h) ++ (wH g b h))) (wr := ((wK0 g a ak ((nI od), (nI sz))) ++ wHsX g ak hs ((od + sz) % 6) 6)) (ws1 := ((wK0 g a ak ((nI od), (nI sz))) ++ (wHs g ak (va_up hs ((od + sz) % 6) h) 6 ++ (wH g b h)))) (As := [.ref (b 0)]) hF (c_X1_copyFrom l g (ak ((od + sz) % 6)) b (hs ((od + sz) % 6)) h hbo) (cwV 1 hts gX2_keep_X1_copyFrom rfl rfl rfl (by decide +kernel) ⟨Nat.le_of_ble_eq_true rfl, Nat.le_of_ble_eq_true rfl⟩) hE hP hD hS hA (pm_ring (wHs_perm 6 hj6)) (pm_ring (wHs_perm_up hj6)).symm q0 he rfl rfl rfl hl.1 rfl (Nat.le_of_ble_eq_true rfl) dX2_keep_50 ⟨Nat.le_of_ble_eq_true rfl, Nat.le_of_ble_eq_true rfl⟩ (fun H locs hP hD hS => ?_)
    refine lv_aload_n hx hb dX2_keep_53 rfl (lv_at hl 0 rfl) ?_
    refine lv_dup hx hb dX2_keep_54 rfl ?_
    refine va_get (D := g.1) (ci := 2) (v := .int (nI sz)) (C := RX2) (T := TX2) (N := 3) hx hb hts hiX2 hown hE.1 hP 0 rfl rfl 2 (by decide) f21 (fun _ h9 => h9) rfl dX2_keep_55 ?_
    refine lv_iconst (v := (nI 1)) hx hb dX2_keep_58 (by decide) ?_
    refine lv_iadd hx hb dX2_keep_59 ?_
    refine k_top (nI_add _ _) ?_
    refine va_put (D := g.1) (ci := 2) (v := .int (nI (sz + 1))) (ty := .int) (C := RX2) (T := TX2) (N := 3) hx hb hts hiX2 tyX2 tyX2_ok nmX2 hown hE.1 hP hD hS 0 rfl rfl 2 (by decide) f21 (fun _ h9 => h9) rfl (tyX2_ok 2 (by decide)) rfl rfl (Nat.le_of_ble_eq_true rfl) dX2_keep_60 (fun H locs hP hD hS => ?_)
    have hP : va_P g.1 vwCl ((wK0 g a ak ((nI od), (nI (sz + 1)))) ++ ((wHs g ak (va_up hs ((od + sz) % 6) h) 6) ++ (wH g b h))) _ := hP
    have hD : va_D A ((wK0 g a ak ((nI od), (nI (sz + 1)))) ++ ((wHs g ak (va_up hs ((od + sz) % 6) h) 6) ++ (wH g b h))) := hD
    have e2 : (nI (kOd od sz), nI (kSz sz)) = ((nI od), (nI (sz + 1))) := (by first | (simp only [kOd, kSz, kJ, if_neg c1, if_pos c1]; done) | (simp only [kOd, kSz, kJ, if_neg c1, if_pos c1]; rfl) | rfl | (simp [kOd, kSz, kJ, if_neg c1, if_pos c1]; done))
    have e3 : (va_up hs (kJ od sz) h) = (va_up hs ((od + sz) % 6) h) := (by first | (simp only [kOd, kSz, kJ, if_neg c1, if_pos c1]; done) | (simp only [kOd, kSz, kJ, if_neg c1, if_pos c1]; rfl) | rfl | (simp [kOd, kSz, kJ, if_neg c1, if_pos c1]; done))
    have hP : va_P g.1 vwCl ((wK0 g a ak (nI (kOd od sz), nI (kSz sz))) ++ ((wHs g ak (va_up hs (kJ od sz) h) 6) ++ (wH g b h))) H := by rw [e2, e3]; exact hP
    have hD : va_D A ((wK0 g a ak (nI (kOd od sz), nI (kSz sz))) ++ ((wHs g ak (va_up hs (kJ od sz) h) 6) ++ (wH g b h))) := by rw [e2, e3]; exact hD
    exact k_vret hx hb hr hlocks hP hD hS (Nat.le_of_ble_eq_true rfl) (Nat.le_of_ble_eq_true rfl) dX2_keep_63
  ·
    refine lv_aload_n hx hb dX2_keep_9 rfl (lv_at hl 0 rfl) ?_
    refine lv_aload_n hx hb dX2_keep_10 rfl (lv_at hl 0 rfl) ?_
    refine va_get (D := g.1) (ci := 2) (v := .int (nI od)) (C := RX2) (T := TX2) (N := 3) hx hb hts hiX2 hown hE.1 hP 0 rfl rfl 1 (by decide) f17 (fun _ h9 => h9) rfl dX2_keep_11 ?_
    refine lv_iconst (v := (nI 1)) hx hb dX2_keep_14 (by decide) ?_
    refine lv_iadd hx hb dX2_keep_15 ?_
    refine k_top (nI_add _ _) ?_
    refine lv_bipush (v := (nI 6)) hx hb dX2_keep_16 (by decide) ?_
    refine lv_irem hx hb dX2_keep_18 (by decide) ?_
    refine k_top (pk_rem (by omega) (by decide) (by decide)) ?_
    refine va_put (D := g.1) (ci := 2) (v := .int (nI ((od + 1) % 6))) (ty := .int) (C := RX2) (T := TX2) (N := 3) hx hb hts hiX2 tyX2 tyX2_ok nmX2 hown hE.1 hP hD hS 0 rfl rfl 1 (by decide) f17 (fun _ h9 => h9) rfl (tyX2_ok 1 (by decide)) rfl rfl (Nat.le_of_ble_eq_true rfl) dX2_keep_19 (fun H locs hP hD hS => ?_)
    have hP : va_P g.1 vwCl ((wK0 g a ak ((nI ((od + 1) % 6)), (nI sz))) ++ ((wHs g ak hs 6) ++ (wH g b h))) _ := hP
    have hD : va_D A ((wK0 g a ak ((nI ((od + 1) % 6)), (nI sz))) ++ ((wHs g ak hs 6) ++ (wH g b h))) := hD
    refine lv_aload_n hx hb dX2_keep_22 rfl (lv_at hl 0 rfl) ?_
    refine lv_dup hx hb dX2_keep_23 rfl ?_
    refine va_get (D := g.1) (ci := 2) (v := .int (nI sz)) (C := RX2) (T := TX2) (N := 3) hx hb hts hiX2 hown hE.1 hP 0 rfl rfl 2 (by decide) f21 (fun _ h9 => h9) rfl dX2_keep_24 ?_
    refine lv_iconst (v := (nI 1)) hx hb dX2_keep_27 (by decide) ?_
    refine lv_isub hx hb dX2_keep_28 ?_
    refine k_top (by rw [show sz = 6 from by omega]; try decide) ?_
    refine va_put (D := g.1) (ci := 2) (v := .int (nI 5)) (ty := .int) (C := RX2) (T := TX2) (N := 3) hx hb hts hiX2 tyX2 tyX2_ok nmX2 hown hE.1 hP hD hS 0 rfl rfl 2 (by decide) f21 (fun _ h9 => h9) rfl (tyX2_ok 2 (by decide)) rfl rfl (Nat.le_of_ble_eq_true rfl) dX2_keep_29 (fun H locs hP hD hS => ?_)
    have hP : va_P g.1 vwCl ((wK0 g a ak ((nI ((od + 1) % 6)), (nI 5))) ++ ((wHs g ak hs 6) ++ (wH g b h))) _ := hP
    have hD : va_D A ((wK0 g a ak ((nI ((od + 1) % 6)), (nI 5))) ++ ((wHs g ak hs 6) ++ (wH g b h))) := hD
    refine lv_aload_n hx hb dX2_keep_32 rfl (lv_at hl 0 rfl) ?_
    refine va_get (D := g.1) (ci := 2) (v := .ref (a 1)) (C := RX2) (T := TX2) (N := 3) hx hb hts hiX2 hown hE.1 hP 0 rfl rfl 0 (by decide) f11 (fun _ h9 => h9) rfl dX2_keep_33 ?_
    refine lv_aload_n hx hb dX2_keep_36 rfl (lv_at hl 0 rfl) ?_
    refine va_get (D := g.1) (ci := 2) (v := .int (nI ((od + 1) % 6))) (C := RX2) (T := TX2) (N := 3) hx hb hts hiX2 hown hE.1 hP 0 rfl rfl 1 (by decide) f17 (fun _ h9 => h9) rfl dX2_keep_37 ?_
    refine lv_aload_n hx hb dX2_keep_40 rfl (lv_at hl 0 rfl) ?_
    refine va_get (D := g.1) (ci := 2) (v := .int (nI 5)) (C := RX2) (T := TX2) (N := 3) hx hb hts hiX2 hown hE.1 hP 0 rfl rfl 2 (by decide) f21 (fun _ h9 => h9) rfl dX2_keep_41 ?_
    refine lv_iadd hx hb dX2_keep_44 ?_
    refine k_top (nI_add _ _) ?_
    refine lv_bipush (v := (nI 6)) hx hb dX2_keep_45 (by decide) ?_
    refine lv_irem hx hb dX2_keep_47 (by decide) ?_
    refine k_top (pk_rem (by omega) (by decide) (by decide)) ?_
    refine k_aald (f := fun i => ak i 0) hx hb hE hP 1 rfl ((((od + 1) % 6) + 5) % 6) rfl (by omega) (by decide) dX2_keep_48 ?_
    refine lv_aload_n hx hb dX2_keep_49 rfl (lv_at hl 1 rfl) ?_
    have hj6 : ((((od + 1) % 6) + 5) % 6) < 6 := by omega
    obtain ⟨q0, fs0, he⟩ := ring_at (g := g) (ak := ak) (hs := hs) hj6 (a := (wK0 g a ak ((nI ((od + 1) % 6)), (nI 5)))) (b := (wH g b h))
    refine k_Vv (w0 := ((wH g (ak ((((od + 1) % 6) + 5) % 6)) (hs ((((od + 1) % 6) + 5) % 6))) ++ (wH g b h))) (w1 := ((wH g (ak ((((od + 1) % 6) + 5) % 6)) h) ++ (wH g b h))) (wr := ((wK0 g a ak ((nI ((od + 1) % 6)), (nI 5))) ++ wHsX g ak hs ((((od + 1) % 6) + 5) % 6) 6)) (ws1 := ((wK0 g a ak ((nI ((od + 1) % 6)), (nI 5))) ++ (wHs g ak (va_up hs ((((od + 1) % 6) + 5) % 6) h) 6 ++ (wH g b h)))) (As := [.ref (b 0)]) hF (c_X1_copyFrom l g (ak ((((od + 1) % 6) + 5) % 6)) b (hs ((((od + 1) % 6) + 5) % 6)) h hbo) (cwV 1 hts gX2_keep_X1_copyFrom rfl rfl rfl (by decide +kernel) ⟨Nat.le_of_ble_eq_true rfl, Nat.le_of_ble_eq_true rfl⟩) hE hP hD hS hA (pm_ring (wHs_perm 6 hj6)) (pm_ring (wHs_perm_up hj6)).symm q0 he rfl rfl rfl hl.1 rfl (Nat.le_of_ble_eq_true rfl) dX2_keep_50 ⟨Nat.le_of_ble_eq_true rfl, Nat.le_of_ble_eq_true rfl⟩ (fun H locs hP hD hS => ?_)
    refine lv_aload_n hx hb dX2_keep_53 rfl (lv_at hl 0 rfl) ?_
    refine lv_dup hx hb dX2_keep_54 rfl ?_
    refine va_get (D := g.1) (ci := 2) (v := .int (nI 5)) (C := RX2) (T := TX2) (N := 3) hx hb hts hiX2 hown hE.1 hP 0 rfl rfl 2 (by decide) f21 (fun _ h9 => h9) rfl dX2_keep_55 ?_
    refine lv_iconst (v := (nI 1)) hx hb dX2_keep_58 (by decide) ?_
    refine lv_iadd hx hb dX2_keep_59 ?_
    refine k_top (nI_add _ _) ?_
    refine va_put (D := g.1) (ci := 2) (v := .int (nI (5 + 1))) (ty := .int) (C := RX2) (T := TX2) (N := 3) hx hb hts hiX2 tyX2 tyX2_ok nmX2 hown hE.1 hP hD hS 0 rfl rfl 2 (by decide) f21 (fun _ h9 => h9) rfl (tyX2_ok 2 (by decide)) rfl rfl (Nat.le_of_ble_eq_true rfl) dX2_keep_60 (fun H locs hP hD hS => ?_)
    have hP : va_P g.1 vwCl ((wK0 g a ak ((nI ((od + 1) % 6)), (nI (5 + 1)))) ++ ((wHs g ak (va_up hs ((((od + 1) % 6) + 5) % 6) h) 6) ++ (wH g b h))) _ := hP
    have hD : va_D A ((wK0 g a ak ((nI ((od + 1) % 6)), (nI (5 + 1)))) ++ ((wHs g ak (va_up hs ((((od + 1) % 6) + 5) % 6) h) 6) ++ (wH g b h))) := hD
    have e4 : (nI (kOd od sz), nI (kSz sz)) = ((nI ((od + 1) % 6)), (nI (5 + 1))) := (by first | (simp only [kOd, kSz, kJ, if_pos c1, if_neg (not_not_intro c1)]; done) | (simp only [kOd, kSz, kJ, if_pos c1, if_neg (not_not_intro c1)]; rfl) | rfl | (simp [kOd, kSz, kJ, if_pos c1, if_neg (not_not_intro c1)]; done))
    have e5 : (va_up hs (kJ od sz) h) = (va_up hs ((((od + 1) % 6) + 5) % 6) h) := (by first | (simp only [kOd, kSz, kJ, if_pos c1, if_neg (not_not_intro c1)]; done) | (simp only [kOd, kSz, kJ, if_pos c1, if_neg (not_not_intro c1)]; rfl) | rfl | (simp [kOd, kSz, kJ, if_pos c1, if_neg (not_not_intro c1)]; done))
    have hP : va_P g.1 vwCl ((wK0 g a ak (nI (kOd od sz), nI (kSz sz))) ++ ((wHs g ak (va_up hs (kJ od sz) h) 6) ++ (wH g b h))) H := by rw [e4, e5]; exact hP
    have hD : va_D A ((wK0 g a ak (nI (kOd od sz), nI (kSz sz))) ++ ((wHs g ak (va_up hs (kJ od sz) h) 6) ++ (wH g b h))) := by rw [e4, e5]; exact hD
    exact k_vret hx hb hr hlocks hP hD hS (Nat.le_of_ble_eq_true rfl) (Nat.le_of_ble_eq_true rfl) dX2_keep_63
set_option maxHeartbeats 4000000 in
set_option maxRecDepth 100000 in
theorem c_X2_takeBack (l : Launch) (g : kG) (a : Nat → Nat) (ak : Nat → Nat → Nat) (b : Nat → Nat) (od sz : Nat) (hod : od < 6) (hsz : sz ≤ 6) (hs : Nat → HSt) (h : HSt) (hsz0 : 0 < sz) (hbs : ∀ j, Hbo (hs j)) : KV l yX2_takeBack wsX2_takeBack ({ frames := 2, cells := 0, slots := 0, locals := 81 }) g [.ref (a 0), .ref (b 0)] ((wK0 g a ak ((nI od), (nI sz))) ++ ((wHs g ak hs 6) ++ (wH g b h))) ((wK0 g a ak (nI od, nI (sz - 1))) ++ ((wHs g ak hs 6) ++ (wH g b (hs ((od + (sz - 1)) % 6))))) 0 0 := by
  refine k_begin (cc := cX2_takeBack) (maxL := 2) (ret := none) (Qc := fun A => kQv g ((wK0 g a ak (nI od, nI (sz - 1))) ++ ((wHs g ak hs 6) ++ (wH g b (hs ((od + (sz - 1)) % 6))))) A) (by decide) rfl (Nat.le_of_ble_eq_true rfl) ?_
  intro p e s m below meth c A ls hF hr hlocks hin hE hP hD hS hA hl
  obtain ⟨hx, hb, hml, hown, hts⟩ := id hF
  have hown : s.vm.findClass RX2 = some m.cls := hown
  have hl : lv_has ls 2 [(0, .ref (a 0)), (1, .ref (b 0))] := hl
  have hiX2 : ∀ w ∈ wsX20, w ∈ wsX2_takeBack := fun _ h => List.mem_cons_of_mem _ (List.mem_append_left _ (List.mem_append_right _ (h)))
  have f21 : (Cond.fieldLink RX2 21 "ConcertUsher$History" "size" "I").before _ s = true := hts _ (List.mem_of_getElem? (i := 1) rfl)
  have f11 : (Cond.fieldLink RX2 11 "ConcertUsher$History" "halls" "[LConcertUsher$Hall;").before _ s = true := hts _ (List.mem_of_getElem? (i := 2) rfl)
  have f17 : (Cond.fieldLink RX2 17 "ConcertUsher$History" "oldest" "I").before _ s = true := hts _ (List.mem_of_getElem? (i := 3) rfl)
  refine lv_aload_n hx hb dX2_takeBack_0 rfl (lv_at hl 0 rfl) ?_
  refine va_get (D := g.1) (ci := 2) (v := .int (nI sz)) (C := RX2) (T := TX2) (N := 3) hx hb hts hiX2 hown hE.1 hP 0 rfl rfl 2 (by decide) f21 (fun _ h9 => h9) rfl dX2_takeBack_1 ?_
  refine lv_if_le (tgt := 38) hx hb dX2_takeBack_4 (by decide) (fun c1 => ?_) (fun c1 => ?_)
  ·
    exact absurd c1 (nI_nle (by omega) (by omega))
  ·
    refine lv_aload_n hx hb dX2_takeBack_7 rfl (lv_at hl 0 rfl) ?_
    refine lv_dup hx hb dX2_takeBack_8 rfl ?_
    refine va_get (D := g.1) (ci := 2) (v := .int (nI sz)) (C := RX2) (T := TX2) (N := 3) hx hb hts hiX2 hown hE.1 hP 0 rfl rfl 2 (by decide) f21 (fun _ h9 => h9) rfl dX2_takeBack_9 ?_
    refine lv_iconst (v := (nI 1)) hx hb dX2_takeBack_12 (by decide) ?_
    refine lv_isub hx hb dX2_takeBack_13 ?_
    refine k_top (pk_sub (by omega)) ?_
    refine va_put (D := g.1) (ci := 2) (v := .int (nI (sz - 1))) (ty := .int) (C := RX2) (T := TX2) (N := 3) hx hb hts hiX2 tyX2 tyX2_ok nmX2 hown hE.1 hP hD hS 0 rfl rfl 2 (by decide) f21 (fun _ h9 => h9) rfl (tyX2_ok 2 (by decide)) rfl rfl (Nat.le_of_ble_eq_true rfl) dX2_takeBack_14 (fun H locs hP hD hS => ?_)
    have hP : va_P g.1 vwCl ((wK0 g a ak ((nI od), (nI (sz - 1)))) ++ ((wHs g ak hs 6) ++ (wH g b h))) _ := hP
    have hD : va_D A ((wK0 g a ak ((nI od), (nI (sz - 1)))) ++ ((wHs g ak hs 6) ++ (wH g b h))) := hD
    refine lv_aload_n hx hb dX2_takeBack_17 rfl (lv_at hl 1 rfl) ?_
    refine lv_aload_n hx hb dX2_takeBack_18 rfl (lv_at hl 0 rfl) ?_
    refine va_get (D := g.1) (ci := 2) (v := .ref (a 1)) (C := RX2) (T := TX2) (N := 3) hx hb hts hiX2 hown hE.1 hP 0 rfl rfl 0 (by decide) f11 (fun _ h9 => h9) rfl dX2_takeBack_19 ?_
    refine lv_aload_n hx hb dX2_takeBack_22 rfl (lv_at hl 0 rfl) ?_
    refine va_get (D := g.1) (ci := 2) (v := .int (nI od)) (C := RX2) (T := TX2) (N := 3) hx hb hts hiX2 hown hE.1 hP 0 rfl rfl 1 (by decide) f17 (fun _ h9 => h9) rfl dX2_takeBack_23 ?_
    refine lv_aload_n hx hb dX2_takeBack_26 rfl (lv_at hl 0 rfl) ?_
    refine va_get (D := g.1) (ci := 2) (v := .int (nI (sz - 1))) (C := RX2) (T := TX2) (N := 3) hx hb hts hiX2 hown hE.1 hP 0 rfl rfl 2 (by decide) f21 (fun _ h9 => h9) rfl dX2_takeBack_27 ?_
    refine lv_iadd hx hb dX2_takeBack_30 ?_
    refine k_top (nI_add _ _) ?_
    refine lv_bipush (v := (nI 6)) hx hb dX2_takeBack_31 (by decide) ?_
    refine lv_irem hx hb dX2_takeBack_33 (by decide) ?_
    refine k_top (pk_rem (by omega) (by decide) (by decide)) ?_
    refine k_aald (f := fun i => ak i 0) hx hb hE hP 1 rfl ((od + (sz - 1)) % 6) rfl (by omega) (by decide) dX2_takeBack_34 ?_
    obtain ⟨qh, heh⟩ : ∃ q : Nat, (((wK0 g a ak ((nI od), (nI (sz - 1)))) ++ ((wHs g ak hs 6) ++ (wH g b h))))[q]? = some (b 0, .inr (1, _)) := List.mem_iff_getElem?.mp (List.mem_append_right _ (List.mem_append_right _ List.mem_cons_self))
    have hj6 : ((od + (sz - 1)) % 6) < 6 := by omega
    refine k_Vv (w0 := ((wH g b h) ++ (wH g (ak ((od + (sz - 1)) % 6)) (hs ((od + (sz - 1)) % 6))))) (w1 := ((wH g b (hs ((od + (sz - 1)) % 6))) ++ (wH g (ak ((od + (sz - 1)) % 6)) (hs ((od + (sz - 1)) % 6))))) (wr := ((wK0 g a ak ((nI od), (nI (sz - 1)))) ++ wHsX g ak hs ((od + (sz - 1)) % 6) 6)) (ws1 := ((wK0 g a ak ((nI od), (nI (sz - 1)))) ++ (wHs g ak hs 6 ++ (wH g b (hs ((od + (sz - 1)) % 6)))))) (As := [.ref (ak ((od + (sz - 1)) % 6) 0)]) hF (c_X1_copyFrom l g b (ak ((od + (sz - 1)) % 6)) h (hs ((od + (sz - 1)) % 6)) (hbs _)) (cwV 1 hts gX2_takeBack_X1_copyFrom rfl rfl rfl (by decide +kernel) ⟨Nat.le_of_ble_eq_true rfl, Nat.le_of_ble_eq_true rfl⟩) hE hP hD hS hA (pm_ring2 (wHs_perm 6 hj6)) (pm_ring2 (wHs_perm 6 hj6)).symm qh heh rfl rfl rfl hl.1 rfl (Nat.le_of_ble_eq_true rfl) dX2_takeBack_35 ⟨Nat.le_of_ble_eq_true rfl, Nat.le_of_ble_eq_true rfl⟩ (fun H locs hP hD hS => ?_)
    have e2 : (nI od, nI (sz - 1)) = ((nI od), (nI (sz - 1))) := (by first | (simp only [if_neg c1, if_pos c1]; done) | (simp only [if_neg c1, if_pos c1]; rfl) | rfl | (simp [if_neg c1, if_pos c1]; done))
    have hP : va_P g.1 vwCl ((wK0 g a ak (nI od, nI (sz - 1))) ++ ((wHs g ak hs 6) ++ (wH g b (hs ((od + (sz - 1)) % 6))))) H := by rw [e2]; exact hP
    have hD : va_D A ((wK0 g a ak (nI od, nI (sz - 1))) ++ ((wHs g ak hs 6) ++ (wH g b (hs ((od + (sz - 1)) % 6))))) := by rw [e2]; exact hD
    exact k_vret hx hb hr hlocks hP hD hS (Nat.le_of_ble_eq_true rfl) (Nat.le_of_ble_eq_true rfl) dX2_takeBack_38
