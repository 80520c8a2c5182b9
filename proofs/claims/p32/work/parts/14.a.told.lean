/-! the law's own methods -/
abbrev wC (g : kG) (u : Nat) (ah at9 a0 : Nat → Nat) (ak : Nat → Nat → Nat) (cs : CSt) : va_W := (wU u (ah 0) (a0 0) (at9 0)) ++ ((wH g ah (ch cs)) ++ ((wT g at9 (csg cs, nI (cn cs))) ++ ((wK0 g a0 ak (nI (cod cs), nI (csz cs))) ++ (wHs g ak (chs cs) 6))))
theorem chief_p (h : HSt) : ¬ Hchief h < 0 ∧ ¬ nI 3 ≤ Hchief h := by
  obtain ⟨l, hl, e⟩ := chief_3 h
  rw [e]
  exact ⟨nI_pos (by omega), fun z => by have := (nI_leI (by decide) (by omega)).mp z; omega⟩
theorem asks_1 {h : HSt} (i : Inv h) : ¬ HasksIn h < nI 1 := by
  obtain ⟨q, hq, e⟩ := asks_n i
  rw [e]
  exact fun z => by have := (nI_ltI (by omega) (by decide)).mp z; omega
set_option maxHeartbeats 4000000 in
set_option maxRecDepth 100000 in
theorem c_L_low (l : Launch) (g : kG) (x : Int32) (n9 : Nat) (h9 : 0 < n9) (h8 : n9 ≤ 60) : KI l yL_low wsL_low ({ frames := 0, cells := 0, slots := 0, locals := 0 }) g [.int x, .int (nI n9)] [] (nI (lowN x n9)) [] 0 0 := by
  refine k_begin (cc := cL_low) (maxL := 2) (ret := (some .int)) (Qc := fun A => kQi g (nI (lowN x n9)) [] A) (by decide) rfl (Nat.le_of_ble_eq_true rfl) ?_
  intro p e s m below meth c A ls hF hr hlocks hin hE hP hD hS hA hl
  obtain ⟨hx, hb, hml, hown, hts⟩ := id hF
  have hown : s.vm.findClass RL = some m.cls := hown
  have hl : lv_has ls 2 [(0, .int x), (1, .int (nI n9))] := hl
  have cst7 : (Cond.constant RL 7 (2147483647)).before _ s = true := hts _ (List.mem_of_getElem? (i := 1) rfl)
  refine lv_iload_n hx hb dL_low_0 rfl (lv_at hl 0 rfl) ?_
  refine lv_ldc hx hb hown cst7 dL_low_1 ?_
  refine lv_iand hx hb dL_low_3 ?_
  refine k_top (show (x &&& (2147483647)) = (nI (lowA x)) from (low_and x).1) ?_
  refine lv_iload_n hx hb dL_low_4 rfl (lv_at hl 1 rfl) ?_
  refine lv_irem hx hb dL_low_5 (fun z => absurd ((nI_eq (by omega) (by decide)).mp (z.trans nz.symm)) (by omega)) ?_
  refine k_top (show ((nI (lowA x)) - (nI (lowA x)) / (nI n9) * (nI n9)) = (nI (lowN x n9)) from (pk_rem (low_and x).2 h9 (by omega))) ?_
  have hP : va_P g.1 vwCl [] _ := hP
  have hD : va_D A [] := hD
  exact k_iret hx hb hr hlocks rfl rfl hP hD hS (Nat.le_of_ble_eq_true rfl) (Nat.le_of_ble_eq_true rfl) dL_low_6
set_option maxHeartbeats 4000000 in
set_option maxRecDepth 100000 in
theorem c_L_bits (l : Launch) (g : kG) (k9 : Nat) (hk9 : k9 < 256) : KI l yL_bits wsL_bits ({ frames := 0, cells := 0, slots := 0, locals := 0 }) g [.int (nI k9)] [] (bc (nI k9)) [] 0 0 := by
  refine k_begin (cc := cL_bits) (maxL := 3) (ret := (some .int)) (Qc := fun A => kQi g (bc (nI k9)) [] A) (by decide) rfl (Nat.le_of_ble_eq_true rfl) ?_
  intro p e s m below meth c A ls hF hr hlocks hin hE hP hD hS hA hl
  obtain ⟨hx, hb, hml, hown, hts⟩ := id hF
  have hown : s.vm.findClass RL = some m.cls := hown
  have hl : lv_has ls 3 [(0, .int (nI k9))] := hl
  have hb9 := (rb_all k9 hk9).1.2.1
  refine lv_iconst (v := (nI 0)) hx hb dL_bits_0 (by decide) ?_
  refine lv_istore_n (lv' := [(1, .int (nI 0)), (0, .int (nI k9))]) hx hb dL_bits_1 rfl hl (by decide) rfl (fun ls hl => ?_)
  refine lv_iload_n hx hb dL_bits_2 rfl (lv_at hl 1 rfl) ?_
  refine lv_istore_n (lv' := [(2, .int (nI k9)), (1, .int (nI 0)), (0, .int (nI k9))]) hx hb dL_bits_3 rfl hl (by decide) rfl (fun ls hl => ?_)
  refine k_loop (N := (bcn k9)) (Inv := fun (i : Nat) (H : Heap) (locs : List Loc) (ls : Array Slot) => va_P g.1 vwCl [] H ∧ va_D A [] ∧ va_S A s.heap H locs ∧ lv_has ls 3 [(2, .int (nI (rb k9 i))), (1, .int (nI i)), (0, .int (nI k9))]) 0 (Nat.zero_le _) ⟨hP, hD, hS, lv_sub hl [0, 1, 2] rfl⟩ (fun i hle2 ih1 H locs ls hinv => ?_)
  obtain ⟨hP, hD, hS, hl⟩ := hinv
  refine lv_iload_n hx hb dL_bits_4 rfl (lv_at hl 0 rfl) ?_
  refine lv_if_le (tgt := 20) hx hb dL_bits_5 (by decide) (fun c3 => ?_) (fun c3 => ?_)
  ·
    have hz9 : rb k9 i = 0 := (le0 (by have := ((rb_all k9 hk9).2 i (by omega)).1; omega)).mp c3
    have hi9 : i = bcn k9 := Nat.le_antisymm hle2 (Nat.le_of_not_lt fun z => ((rb_all k9 hk9).2 i (by omega)).2 z hz9)
    refine lv_iload_n hx hb dL_bits_20 rfl (lv_at hl 1 rfl) ?_
    have hP : va_P g.1 vwCl [] _ := hP
    have hD : va_D A [] := hD
    exact k_iret hx hb hr hlocks rfl (by rw [hi9]; exact (rb_all k9 hk9).1.1.symm) hP hD hS (Nat.le_of_ble_eq_true rfl) (Nat.le_of_ble_eq_true rfl) dL_bits_21
  ·
    have hr9 : rb k9 i < 256 := ((rb_all k9 hk9).2 i (by omega)).1
    have hz9 : ¬ rb k9 i = 0 := fun z => c3 ((le0 (by omega)).mpr z)
    have hi9 : i < bcn k9 := Nat.lt_of_le_of_ne hle2 (fun z => hz9 (by rw [z]; exact (rb_all k9 hk9).1.2.2))
    refine lv_iinc (v := (nI (i + 1))) (lv' := [(1, .int (nI (i + 1))), (2, .int (nI (rb k9 i))), (0, .int (nI k9))]) hx hb dL_bits_8 hl (k := 1) rfl (k_inc1 _) (by decide) rfl (fun ls hl => ?_)
    refine lv_iload_n hx hb dL_bits_11 rfl (lv_at hl 1 rfl) ?_
    refine lv_iload_n hx hb dL_bits_12 rfl (lv_at hl 1 rfl) ?_
    refine lv_iconst (v := (nI 1)) hx hb dL_bits_13 (by decide) ?_
    refine lv_isub hx hb dL_bits_14 ?_
    refine lv_iand hx hb dL_bits_15 ?_
    refine k_top (show ((nI (rb k9 i)) &&& ((nI (rb k9 i)) - (nI 1))) = (nI (rb k9 (i + 1))) from (rb_and (rb k9 i) hr9 hz9)) ?_
    refine lv_istore_n (lv' := [(2, .int (nI (rb k9 (i + 1)))), (1, .int (nI (i + 1))), (0, .int (nI k9))]) hx hb dL_bits_16 rfl hl (by decide) rfl (fun ls hl => ?_)
    refine lv_goto (tgt := 4) hx hb dL_bits_17 (by decide) ?_
    exact ih1 _ _ _ (by omega) ⟨hP, hD, hS, lv_sub hl [0, 1, 2] rfl⟩
set_option maxHeartbeats 4000000 in
set_option maxRecDepth 100000 in
theorem c_L_told (l : Launch) (g : kG) (u : Nat) (ah at9 a0 : Nat → Nat) (ak : Nat → Nat → Nat) (h : HSt) (sg : Nat → Int32) (n od sz : Nat) (hs : Nat → HSt) : KL l yL_told wsL_told ({ frames := 3, cells := 0, slots := 0, locals := 62 }) g [.ref u] ((wU u (ah 0) (a0 0) (at9 0)) ++ ((wH g ah h) ++ ((wT g at9 (sg, (nI n))) ++ ((wK0 g a0 ak ((nI od), (nI sz))) ++ (wHs g ak hs 6))))) (Told h) ((wU u (ah 0) (a0 0) (at9 0)) ++ ((wH g ah h) ++ ((wT g at9 (sg, (nI n))) ++ ((wK0 g a0 ak ((nI od), (nI sz))) ++ (wHs g ak hs 6))))) 0 0 := by
  refine k_begin (cc := cL_told) (maxL := 4) (ret := (some .long)) (Qc := fun A => kQl g (Told h) ((wU u (ah 0) (a0 0) (at9 0)) ++ ((wH g ah h) ++ ((wT g at9 (sg, (nI n))) ++ ((wK0 g a0 ak ((nI od), (nI sz))) ++ (wHs g ak hs 6))))) A) (by decide) rfl (Nat.le_of_ble_eq_true rfl) ?_
  intro p e s m below meth c A ls hF hr hlocks hin hE hP hD hS hA hl
  obtain ⟨hx, hb, hml, hown, hts⟩ := id hF
  have hown : s.vm.findClass RL = some m.cls := hown
  have hl : lv_has ls 4 [(0, .ref u)] := hl
  have cst8 : (Cond.constantLong RL 8 (31)).before _ s = true := hts _ (List.mem_of_getElem? (i := 1) rfl)
  refine lv_ldc2 hx hb hown cst8 dL_told_0 ?_
  refine lv_ldc2 hx hb hown cst8 dL_told_3 ?_
  refine lv_aload_n hx hb dL_told_6 rfl (lv_at hl 0 rfl) ?_
  refine k_Vi (As := []) (r := (hmn h)) hF (c_X3_minutes l g u ah at9 a0 ak h sg n od sz hs) (cwV 0 hts gL_told_X3_minutes rfl rfl rfl (by decide +kernel) ⟨Nat.le_of_ble_eq_true rfl, Nat.le_of_ble_eq_true rfl⟩) hE hP hD hS hA (k_pall _) ((k_pall _).symm) 0 rfl rfl rfl rfl hl.1 rfl (Nat.le_of_ble_eq_true rfl) dL_told_7 ⟨Nat.le_of_ble_eq_true rfl, Nat.le_of_ble_eq_true rfl⟩ (fun H locs hP hD hS => ?_)
  have hP : va_P g.1 vwCl ((wU u (ah 0) (a0 0) (at9 0)) ++ ((wH g ah h) ++ ((wT g at9 (sg, (nI n))) ++ ((wK0 g a0 ak ((nI od), (nI sz))) ++ (wHs g ak hs 6))))) _ := hP
  have hD : va_D A ((wU u (ah 0) (a0 0) (at9 0)) ++ ((wH g ah h) ++ ((wT g at9 (sg, (nI n))) ++ ((wK0 g a0 ak ((nI od), (nI sz))) ++ (wHs g ak hs 6))))) := hD
  refine lv_i2l (v := (Int32.toInt64 (hmn h))) hx hb dL_told_10 rfl ?_
  refine lv_lmul hx hb dL_told_11 ?_
  refine lv_aload_n hx hb dL_told_12 rfl (lv_at hl 0 rfl) ?_
  refine k_Vi (As := []) (r := (hsn h)) hF (c_X3_sinceQuestion l g u ah at9 a0 ak h sg n od sz hs) (cwV 0 hts gL_told_X3_sinceQuestion rfl rfl rfl (by decide +kernel) ⟨Nat.le_of_ble_eq_true rfl, Nat.le_of_ble_eq_true rfl⟩) hE hP hD hS hA (k_pall _) ((k_pall _).symm) 0 rfl rfl rfl rfl hl.1 rfl (Nat.le_of_ble_eq_true rfl) dL_told_13 ⟨Nat.le_of_ble_eq_true rfl, Nat.le_of_ble_eq_true rfl⟩ (fun H locs hP hD hS => ?_)
  have hP : va_P g.1 vwCl ((wU u (ah 0) (a0 0) (at9 0)) ++ ((wH g ah h) ++ ((wT g at9 (sg, (nI n))) ++ ((wK0 g a0 ak ((nI od), (nI sz))) ++ (wHs g ak hs 6))))) _ := hP
  have hD : va_D A ((wU u (ah 0) (a0 0) (at9 0)) ++ ((wH g ah h) ++ ((wT g at9 (sg, (nI n))) ++ ((wK0 g a0 ak ((nI od), (nI sz))) ++ (wHs g ak hs 6))))) := hD
  refine lv_i2l (v := (Int32.toInt64 (hsn h))) hx hb dL_told_16 rfl ?_
  refine lv_ladd hx hb dL_told_17 ?_
  refine lv_lmul hx hb dL_told_18 ?_
  refine lv_aload_n hx hb dL_told_19 rfl (lv_at hl 0 rfl) ?_
  refine k_Vi (As := []) (r := (Hchief h)) hF (c_X3_chief l g u ah at9 a0 ak h sg n od sz hs) (cwV 0 hts gL_told_X3_chief rfl rfl rfl (by decide +kernel) ⟨Nat.le_of_ble_eq_true rfl, Nat.le_of_ble_eq_true rfl⟩) hE hP hD hS hA (k_pall _) ((k_pall _).symm) 0 rfl rfl rfl rfl hl.1 rfl (Nat.le_of_ble_eq_true rfl) dL_told_20 ⟨Nat.le_of_ble_eq_true rfl, Nat.le_of_ble_eq_true rfl⟩ (fun H locs hP hD hS => ?_)
  have hP : va_P g.1 vwCl ((wU u (ah 0) (a0 0) (at9 0)) ++ ((wH g ah h) ++ ((wT g at9 (sg, (nI n))) ++ ((wK0 g a0 ak ((nI od), (nI sz))) ++ (wHs g ak hs 6))))) _ := hP
  have hD : va_D A ((wU u (ah 0) (a0 0) (at9 0)) ++ ((wH g ah h) ++ ((wT g at9 (sg, (nI n))) ++ ((wK0 g a0 ak ((nI od), (nI sz))) ++ (wHs g ak hs 6))))) := hD
  refine lv_i2l (v := (Int32.toInt64 (Hchief h))) hx hb dL_told_23 rfl ?_
  refine lv_ladd hx hb dL_told_24 ?_
  refine lv_lstore_n (lv' := [(1, .long ((31 * ((31 * (Int32.toInt64 (hmn h))) + (Int32.toInt64 (hsn h)))) + (Int32.toInt64 (Hchief h)))), (0, .ref u)]) hx hb dL_told_25 rfl hl (by decide) rfl (fun ls hl => ?_)
  refine lv_iconst (v := (nI 0)) hx hb dL_told_26 (by decide) ?_
  refine lv_istore_n (lv' := [(3, .int (nI 0)), (1, .long ((31 * ((31 * (Int32.toInt64 (hmn h))) + (Int32.toInt64 (hsn h)))) + (Int32.toInt64 (Hchief h)))), (0, .ref u)]) hx hb dL_told_27 rfl hl (by decide) rfl (fun ls hl => ?_)
  refine k_loop (N := 48) (Inv := fun (i : Nat) (H : Heap) (locs : List Loc) (ls : Array Slot) => va_P g.1 vwCl ((wU u (ah 0) (a0 0) (at9 0)) ++ ((wH g ah h) ++ ((wT g at9 (sg, (nI n))) ++ ((wK0 g a0 ak ((nI od), (nI sz))) ++ (wHs g ak hs 6))))) H ∧ va_D A ((wU u (ah 0) (a0 0) (at9 0)) ++ ((wH g ah h) ++ ((wT g at9 (sg, (nI n))) ++ ((wK0 g a0 ak ((nI od), (nI sz))) ++ (wHs g ak hs 6))))) ∧ va_S A s.heap H locs ∧ lv_has ls 4 [(3, .int (nI i)), (1, .long (ToldA h (Told0 h) i)), (0, .ref u)]) 0 (Nat.zero_le _) ⟨hP, hD, hS, lv_sub hl [0, 1, 2] rfl⟩ (fun i hle2 ih1 H locs ls hinv => ?_)
  obtain ⟨hP, hD, hS, hl⟩ := hinv
  refine lv_iload_n hx hb dL_told_28 rfl (lv_at hl 0 rfl) ?_
  refine lv_bipush (v := (nI 48)) hx hb dL_told_29 (by decide) ?_
  refine k_geN (tgt := 78) hx hb (by omega) (by decide) dL_told_31 (by decide) (fun c3 => ?_) (fun c3 => ?_)
  ·
    obtain rfl : 48 = i := by omega
    refine lv_iconst (v := (nI 0)) hx hb dL_told_78 (by decide) ?_
    refine lv_istore_n (lv' := [(3, .int (nI 0)), (1, .long (ToldA h (Told0 h) 48)), (0, .ref u)]) hx hb dL_told_79 rfl hl (by decide) rfl (fun ls hl => ?_)
    refine k_loop (N := 8) (Inv := fun (i2 : Nat) (H : Heap) (locs : List Loc) (ls : Array Slot) => va_P g.1 vwCl ((wU u (ah 0) (a0 0) (at9 0)) ++ ((wH g ah h) ++ ((wT g at9 (sg, (nI n))) ++ ((wK0 g a0 ak ((nI od), (nI sz))) ++ (wHs g ak hs 6))))) H ∧ va_D A ((wU u (ah 0) (a0 0) (at9 0)) ++ ((wH g ah h) ++ ((wT g at9 (sg, (nI n))) ++ ((wK0 g a0 ak ((nI od), (nI sz))) ++ (wHs g ak hs 6))))) ∧ va_S A s.heap H locs ∧ lv_has ls 4 [(3, .int (nI i2)), (1, .long (ToldB h (ToldA h (Told0 h) 48) i2)), (0, .ref u)]) 0 (Nat.zero_le _) ⟨hP, hD, hS, lv_sub hl [0, 1, 2] rfl⟩ (fun i2 hle5 ih4 H locs ls hinv => ?_)
    obtain ⟨hP, hD, hS, hl⟩ := hinv
    refine lv_iload_n hx hb dL_told_80 rfl (lv_at hl 0 rfl) ?_
    refine lv_bipush (v := (nI 8)) hx hb dL_told_81 (by decide) ?_
    refine k_geN (tgt := 134) hx hb (by omega) (by decide) dL_told_83 (by decide) (fun c6 => ?_) (fun c6 => ?_)
    ·
      obtain rfl : 8 = i2 := by omega
      refine lv_lload_n hx hb dL_told_134 rfl (lv_at hl 1 rfl) ?_
      have hP : va_P g.1 vwCl ((wU u (ah 0) (a0 0) (at9 0)) ++ ((wH g ah h) ++ ((wT g at9 (sg, (nI n))) ++ ((wK0 g a0 ak ((nI od), (nI sz))) ++ (wHs g ak hs 6))))) _ := hP
      have hD : va_D A ((wU u (ah 0) (a0 0) (at9 0)) ++ ((wH g ah h) ++ ((wT g at9 (sg, (nI n))) ++ ((wK0 g a0 ak ((nI od), (nI sz))) ++ (wHs g ak hs 6))))) := hD
      exact k_lret hx hb hr hlocks (by first | (simp only [Told, bI, if_pos c3, if_neg (not_not_intro c3), if_pos c6, if_neg (not_not_intro c6)]; done) | (simp only [Told, bI, if_pos c3, if_neg (not_not_intro c3), if_pos c6, if_neg (not_not_intro c6)]; rfl) | rfl | (simp [Told, bI, if_pos c3, if_neg (not_not_intro c3), if_pos c6, if_neg (not_not_intro c6)]; done)) hP hD hS (Nat.le_of_ble_eq_true rfl) (Nat.le_of_ble_eq_true rfl) dL_told_135
    ·
      refine lv_ldc2 hx hb hown cst8 dL_told_86 ?_
      refine lv_ldc2 hx hb hown cst8 dL_told_89 ?_
      refine lv_lload_n hx hb dL_told_92 rfl (lv_at hl 1 rfl) ?_
      refine lv_lmul hx hb dL_told_93 ?_
      refine lv_aload_n hx hb dL_told_94 rfl (lv_at hl 2 rfl) ?_
      refine lv_iload_n hx hb dL_told_95 rfl (lv_at hl 0 rfl) ?_
      refine k_Vi (As := [.int (nI i2)]) (r := (bI (Hopen h i2))) hF (c_X3_isOpen l g u ah at9 a0 ak h sg n od sz hs i2 (by omega)) (cwV 1 hts gL_told_X3_isOpen rfl rfl rfl (by decide +kernel) ⟨Nat.le_of_ble_eq_true rfl, Nat.le_of_ble_eq_true rfl⟩) hE hP hD hS hA (k_pall _) ((k_pall _).symm) 0 rfl rfl rfl rfl hl.1 rfl (Nat.le_of_ble_eq_true rfl) dL_told_96 ⟨Nat.le_of_ble_eq_true rfl, Nat.le_of_ble_eq_true rfl⟩ (fun H locs hP hD hS => ?_)
      have hP : va_P g.1 vwCl ((wU u (ah 0) (a0 0) (at9 0)) ++ ((wH g ah h) ++ ((wT g at9 (sg, (nI n))) ++ ((wK0 g a0 ak ((nI od), (nI sz))) ++ (wHs g ak hs 6))))) _ := hP
      have hD : va_D A ((wU u (ah 0) (a0 0) (at9 0)) ++ ((wH g ah h) ++ ((wT g at9 (sg, (nI n))) ++ ((wK0 g a0 ak ((nI od), (nI sz))) ++ (wHs g ak hs 6))))) := hD
      refine k_meet (x := .int (bI (Hopen h i2))) (pj := 107) (rest := [.long (31 * (ToldB h (ToldA h (Told0 h) 48) i2)), .long 31]) (fun J7 => ?_) ?_
      ·
        refine k_ifeqB (tgt := 106) hx hb dL_told_99 (by decide) (fun c8 => ?_) (fun c8 => ?_)
        ·
          refine lv_iconst (v := (nI 0)) hx hb dL_told_106 (by decide) ?_
          exact k_top (by first | (simp only [Told, bI, if_pos c3, if_neg (not_not_intro c3), if_neg (Nat.not_le.mpr c6), if_pos (Nat.not_le.mpr c6), if_neg c8, if_pos c8]; done) | (simp only [Told, bI, if_pos c3, if_neg (not_not_intro c3), if_neg (Nat.not_le.mpr c6), if_pos (Nat.not_le.mpr c6), if_neg c8, if_pos c8]; rfl) | rfl | (simp [Told, bI, if_pos c3, if_neg (not_not_intro c3), if_neg (Nat.not_le.mpr c6), if_pos (Nat.not_le.mpr c6), if_neg c8, if_pos c8]; done)) J7
        ·
          refine lv_iconst (v := (nI 1)) hx hb dL_told_102 (by decide) ?_
          refine lv_goto (tgt := 107) hx hb dL_told_103 (by decide) ?_
          exact k_top (by first | (simp only [Told, bI, if_pos c3, if_neg (not_not_intro c3), if_neg (Nat.not_le.mpr c6), if_pos (Nat.not_le.mpr c6), if_pos c8, if_neg (not_not_intro c8)]; done) | (simp only [Told, bI, if_pos c3, if_neg (not_not_intro c3), if_neg (Nat.not_le.mpr c6), if_pos (Nat.not_le.mpr c6), if_pos c8, if_neg (not_not_intro c8)]; rfl) | rfl | (simp [Told, bI, if_pos c3, if_neg (not_not_intro c3), if_neg (Nat.not_le.mpr c6), if_pos (Nat.not_le.mpr c6), if_pos c8, if_neg (not_not_intro c8)]; done)) J7
      ·
        refine lv_i2l (v := (Int32.toInt64 (bI (Hopen h i2)))) hx hb dL_told_107 rfl ?_
        refine lv_ladd hx hb dL_told_108 ?_
        refine lv_lmul hx hb dL_told_109 ?_
        refine lv_iload_n hx hb dL_told_110 rfl (lv_at hl 0 rfl) ?_
        refine lv_bipush (v := (nI 6)) hx hb dL_told_111 (by decide) ?_
        refine k_geN (tgt := 124) hx hb (by omega) (by decide) dL_told_113 (by decide) (fun c10 => ?_) (fun c10 => ?_)
        ·
          refine lv_iconst (v := (nI 0)) hx hb dL_told_124 (by decide) ?_
          refine lv_i2l (v := (Int32.toInt64 (nI 0))) hx hb dL_told_125 rfl ?_
          refine lv_ladd hx hb dL_told_126 ?_
          refine lv_lstore_n (lv' := [(1, .long ((31 * ((31 * (ToldB h (ToldA h (Told0 h) 48) i2)) + (Int32.toInt64 (bI (Hopen h i2))))) + (Int32.toInt64 (nI 0)))), (3, .int (nI i2)), (0, .ref u)]) hx hb dL_told_127 rfl hl (by decide) rfl (fun ls hl => ?_)
          refine lv_iinc (v := (nI (i2 + 1))) (lv' := [(3, .int (nI (i2 + 1))), (1, .long ((31 * ((31 * (ToldB h (ToldA h (Told0 h) 48) i2)) + (Int32.toInt64 (bI (Hopen h i2))))) + (Int32.toInt64 (nI 0)))), (0, .ref u)]) hx hb dL_told_128 hl (k := 1) rfl (k_inc1 _) (by decide) rfl (fun ls hl => ?_)
          refine lv_goto (tgt := 80) hx hb dL_told_131 (by decide) ?_
          have e11 : (ToldB h (ToldA h (Told0 h) 48) (i2 + 1)) = ((31 * ((31 * (ToldB h (ToldA h (Told0 h) 48) i2)) + (Int32.toInt64 (bI (Hopen h i2))))) + (Int32.toInt64 (nI 0))) := (by first | (simp only [Told, ToldB, bI, if_pos c3, if_neg (not_not_intro c3), if_neg (Nat.not_le.mpr c6), if_pos (Nat.not_le.mpr c6), if_pos c10, if_neg (not_not_intro c10)]; done) | (simp only [Told, ToldB, bI, if_pos c3, if_neg (not_not_intro c3), if_neg (Nat.not_le.mpr c6), if_pos (Nat.not_le.mpr c6), if_pos c10, if_neg (not_not_intro c10)]; rfl) | rfl | (simp [Told, ToldB, bI, if_pos c3, if_neg (not_not_intro c3), if_neg (Nat.not_le.mpr c6), if_pos (Nat.not_le.mpr c6), if_pos c10, if_neg (not_not_intro c10)]; done))
          exact ih4 _ _ _ (by omega) ⟨hP, hD, hS, (by rw [e11]; exact lv_sub hl [0, 1, 2] rfl)⟩
        ·
          refine lv_aload_n hx hb dL_told_116 rfl (lv_at hl 2 rfl) ?_
          refine lv_iload_n hx hb dL_told_117 rfl (lv_at hl 0 rfl) ?_
          refine k_Vi (As := [.int (nI i2)]) (r := ((hC h) i2)) hF (c_X3_count l g u ah at9 a0 ak h sg n od sz hs i2 (by omega)) (cwV 1 hts gL_told_X3_count rfl rfl rfl (by decide +kernel) ⟨Nat.le_of_ble_eq_true rfl, Nat.le_of_ble_eq_true rfl⟩) hE hP hD hS hA (k_pall _) ((k_pall _).symm) 0 rfl rfl rfl rfl hl.1 rfl (Nat.le_of_ble_eq_true rfl) dL_told_118 ⟨Nat.le_of_ble_eq_true rfl, Nat.le_of_ble_eq_true rfl⟩ (fun H locs hP hD hS => ?_)
          have hP : va_P g.1 vwCl ((wU u (ah 0) (a0 0) (at9 0)) ++ ((wH g ah h) ++ ((wT g at9 (sg, (nI n))) ++ ((wK0 g a0 ak ((nI od), (nI sz))) ++ (wHs g ak hs 6))))) _ := hP
          have hD : va_D A ((wU u (ah 0) (a0 0) (at9 0)) ++ ((wH g ah h) ++ ((wT g at9 (sg, (nI n))) ++ ((wK0 g a0 ak ((nI od), (nI sz))) ++ (wHs g ak hs 6))))) := hD
          refine lv_goto (tgt := 125) hx hb dL_told_121 (by decide) ?_
          refine lv_i2l (v := (Int32.toInt64 ((hC h) i2))) hx hb dL_told_125 rfl ?_
          refine lv_ladd hx hb dL_told_126 ?_
          refine lv_lstore_n (lv' := [(1, .long ((31 * ((31 * (ToldB h (ToldA h (Told0 h) 48) i2)) + (Int32.toInt64 (bI (Hopen h i2))))) + (Int32.toInt64 ((hC h) i2)))), (3, .int (nI i2)), (0, .ref u)]) hx hb dL_told_127 rfl hl (by decide) rfl (fun ls hl => ?_)
          refine lv_iinc (v := (nI (i2 + 1))) (lv' := [(3, .int (nI (i2 + 1))), (1, .long ((31 * ((31 * (ToldB h (ToldA h (Told0 h) 48) i2)) + (Int32.toInt64 (bI (Hopen h i2))))) + (Int32.toInt64 ((hC h) i2)))), (0, .ref u)]) hx hb dL_told_128 hl (k := 1) rfl (k_inc1 _) (by decide) rfl (fun ls hl => ?_)
          refine lv_goto (tgt := 80) hx hb dL_told_131 (by decide) ?_
          have e12 : (ToldB h (ToldA h (Told0 h) 48) (i2 + 1)) = ((31 * ((31 * (ToldB h (ToldA h (Told0 h) 48) i2)) + (Int32.toInt64 (bI (Hopen h i2))))) + (Int32.toInt64 ((hC h) i2))) := (by first | (simp only [Told, ToldB, bI, if_pos c3, if_neg (not_not_intro c3), if_neg (Nat.not_le.mpr c6), if_pos (Nat.not_le.mpr c6), if_neg (Nat.not_le.mpr c10), if_pos (Nat.not_le.mpr c10)]; done) | (simp only [Told, ToldB, bI, if_pos c3, if_neg (not_not_intro c3), if_neg (Nat.not_le.mpr c6), if_pos (Nat.not_le.mpr c6), if_neg (Nat.not_le.mpr c10), if_pos (Nat.not_le.mpr c10)]; rfl) | rfl | (simp [Told, ToldB, bI, if_pos c3, if_neg (not_not_intro c3), if_neg (Nat.not_le.mpr c6), if_pos (Nat.not_le.mpr c6), if_neg (Nat.not_le.mpr c10), if_pos (Nat.not_le.mpr c10)]; done))
          exact ih4 _ _ _ (by omega) ⟨hP, hD, hS, (by rw [e12]; exact lv_sub hl [0, 1, 2] rfl)⟩
  ·
    refine lv_ldc2 hx hb hown cst8 dL_told_34 ?_
    refine lv_ldc2 hx hb hown cst8 dL_told_37 ?_
    refine lv_lload_n hx hb dL_told_40 rfl (lv_at hl 1 rfl) ?_
    refine lv_lmul hx hb dL_told_41 ?_
    refine lv_aload_n hx hb dL_told_42 rfl (lv_at hl 2 rfl) ?_
    refine lv_iload_n hx hb dL_told_43 rfl (lv_at hl 0 rfl) ?_
    refine lv_bipush (v := (nI 6)) hx hb dL_told_44 (by decide) ?_
    refine lv_idiv hx hb dL_told_46 (by decide) ?_
    refine k_top (pk_div (by omega) (by decide) (by decide)) ?_
    refine lv_iload_n hx hb dL_told_47 rfl (lv_at hl 0 rfl) ?_
    refine lv_bipush (v := (nI 6)) hx hb dL_told_48 (by decide) ?_
    refine lv_irem hx hb dL_told_50 (by decide) ?_
    refine k_top (pk_rem (by omega) (by decide) (by decide)) ?_
    refine k_Vi (As := [.int (nI (i / 6)), .int (nI (i % 6))]) (r := ((hL h) ((i / 6) * 6 + (i % 6)))) hF (c_X3_listeners l g u ah at9 a0 ak h sg n od sz hs (i / 6) (i % 6) (by omega) (by omega)) (cwV 2 hts gL_told_X3_listeners rfl rfl rfl (by decide +kernel) ⟨Nat.le_of_ble_eq_true rfl, Nat.le_of_ble_eq_true rfl⟩) hE hP hD hS hA (k_pall _) ((k_pall _).symm) 0 rfl rfl rfl rfl hl.1 rfl (Nat.le_of_ble_eq_true rfl) dL_told_51 ⟨Nat.le_of_ble_eq_true rfl, Nat.le_of_ble_eq_true rfl⟩ (fun H locs hP hD hS => ?_)
    have hP : va_P g.1 vwCl ((wU u (ah 0) (a0 0) (at9 0)) ++ ((wH g ah h) ++ ((wT g at9 (sg, (nI n))) ++ ((wK0 g a0 ak ((nI od), (nI sz))) ++ (wHs g ak hs 6))))) _ := hP
    have hD : va_D A ((wU u (ah 0) (a0 0) (at9 0)) ++ ((wH g ah h) ++ ((wT g at9 (sg, (nI n))) ++ ((wK0 g a0 ak ((nI od), (nI sz))) ++ (wHs g ak hs 6))))) := hD
    refine lv_i2l (v := (Int32.toInt64 ((hL h) ((i / 6) * 6 + (i % 6))))) hx hb dL_told_54 rfl ?_
    refine lv_ladd hx hb dL_told_55 ?_
    refine lv_lmul hx hb dL_told_56 ?_
    refine lv_aload_n hx hb dL_told_57 rfl (lv_at hl 2 rfl) ?_
    refine lv_iload_n hx hb dL_told_58 rfl (lv_at hl 0 rfl) ?_
    refine lv_bipush (v := (nI 6)) hx hb dL_told_59 (by decide) ?_
    refine lv_idiv hx hb dL_told_61 (by decide) ?_
    refine k_top (pk_div (by omega) (by decide) (by decide)) ?_
    refine lv_iload_n hx hb dL_told_62 rfl (lv_at hl 0 rfl) ?_
    refine lv_bipush (v := (nI 6)) hx hb dL_told_63 (by decide) ?_
    refine lv_irem hx hb dL_told_65 (by decide) ?_
    refine k_top (pk_rem (by omega) (by decide) (by decide)) ?_
    refine k_Vi (As := [.int (nI (i / 6)), .int (nI (i % 6))]) (r := ((hR h) ((i / 6) * 6 + (i % 6)))) hF (c_X3_rest l g u ah at9 a0 ak h sg n od sz hs (i / 6) (i % 6) (by omega) (by omega)) (cwV 2 hts gL_told_X3_rest rfl rfl rfl (by decide +kernel) ⟨Nat.le_of_ble_eq_true rfl, Nat.le_of_ble_eq_true rfl⟩) hE hP hD hS hA (k_pall _) ((k_pall _).symm) 0 rfl rfl rfl rfl hl.1 rfl (Nat.le_of_ble_eq_true rfl) dL_told_66 ⟨Nat.le_of_ble_eq_true rfl, Nat.le_of_ble_eq_true rfl⟩ (fun H locs hP hD hS => ?_)
    have hP : va_P g.1 vwCl ((wU u (ah 0) (a0 0) (at9 0)) ++ ((wH g ah h) ++ ((wT g at9 (sg, (nI n))) ++ ((wK0 g a0 ak ((nI od), (nI sz))) ++ (wHs g ak hs 6))))) _ := hP
    have hD : va_D A ((wU u (ah 0) (a0 0) (at9 0)) ++ ((wH g ah h) ++ ((wT g at9 (sg, (nI n))) ++ ((wK0 g a0 ak ((nI od), (nI sz))) ++ (wHs g ak hs 6))))) := hD
    refine lv_i2l (v := (Int32.toInt64 ((hR h) ((i / 6) * 6 + (i % 6))))) hx hb dL_told_69 rfl ?_
    refine lv_ladd hx hb dL_told_70 ?_
    refine lv_lstore_n (lv' := [(1, .long ((31 * ((31 * (ToldA h (Told0 h) i)) + (Int32.toInt64 ((hL h) ((i / 6) * 6 + (i % 6)))))) + (Int32.toInt64 ((hR h) ((i / 6) * 6 + (i % 6)))))), (3, .int (nI i)), (0, .ref u)]) hx hb dL_told_71 rfl hl (by decide) rfl (fun ls hl => ?_)
    refine lv_iinc (v := (nI (i + 1))) (lv' := [(3, .int (nI (i + 1))), (1, .long ((31 * ((31 * (ToldA h (Told0 h) i)) + (Int32.toInt64 ((hL h) ((i / 6) * 6 + (i % 6)))))) + (Int32.toInt64 ((hR h) ((i / 6) * 6 + (i % 6)))))), (0, .ref u)]) hx hb dL_told_72 hl (k := 1) rfl (k_inc1 _) (by decide) rfl (fun ls hl => ?_)
    refine lv_goto (tgt := 28) hx hb dL_told_75 (by decide) ?_
    have e13 : (ToldA h (Told0 h) (i + 1)) = ((31 * ((31 * (ToldA h (Told0 h) i)) + (Int32.toInt64 ((hL h) ((i / 6) * 6 + (i % 6)))))) + (Int32.toInt64 ((hR h) ((i / 6) * 6 + (i % 6))))) := (by first | (simp only [Told, ToldA, bI, if_neg (Nat.not_le.mpr c3), if_pos (Nat.not_le.mpr c3)]; done) | (simp only [Told, ToldA, bI, if_neg (Nat.not_le.mpr c3), if_pos (Nat.not_le.mpr c3)]; rfl) | rfl | (simp [Told, ToldA, bI, if_neg (Nat.not_le.mpr c3), if_pos (Nat.not_le.mpr c3)]; done))
    exact ih1 _ _ _ (by omega) ⟨hP, hD, hS, (by rw [e13]; exact lv_sub hl [0, 1, 2] rfl)⟩
