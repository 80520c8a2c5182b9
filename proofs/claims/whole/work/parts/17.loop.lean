/-! the loop of the law, its start -/
abbrev cs00 : CSt := (H0, 0, 0, fun _ => H0, z0, 0)
theorem sim_0 : Sim cs00 M0 := by
  have z : ∀ j, 3 ≤ j → upd (upd (upd z0 0 (nI 20)) 1 (nI 3)) 2 (nI 10) j = nI 0 := fun j hj => by rw [pk_un (by omega), pk_un (by omega), pk_un (by omega)]
  have ho : ∀ r, r < 8 → bI (Hopen H0 r) = nI 0 := by decide +kernel
  have b0 : Hbo H0 := ⟨Or.inl rfl, Or.inl rfl, Or.inl rfl⟩
  refine ⟨⟨fun k hk => z _ (by omega), fun k hk => z _ (by omega), fun k hk => z _ (by omega), ?_, ?_, ?_, z 3 (by decide), z 4 (by decide), z 5 (by decide), z 6 (by decide), fun r hr => ?_⟩, ⟨fun k hk => ⟨0, by decide, rfl⟩, fun k hk => ⟨0, by decide, rfl⟩, ⟨20, by decide, rfl⟩, ⟨3, by decide, rfl⟩, ⟨10, by decide, rfl⟩, ⟨0, by decide, rfl⟩, ⟨0, by decide, rfl⟩⟩, b0, by decide, by decide, rfl, fun _ => b0, fun i hi => absurd hi (Nat.not_lt_zero i), by decide, rfl, fun k hk => absurd hk (Nat.not_lt_zero k), fun k hk => absurd hk (Nat.not_lt_zero k)⟩
  · show upd (upd (upd z0 0 (nI 20)) 1 (nI 3)) 2 (nI 10) 0 = nI 20
    rw [pk_un (by decide), pk_un (by decide), pk_us]
  · show upd (upd (upd z0 0 (nI 20)) 1 (nI 3)) 2 (nI 10) 1 = nI 3
    rw [pk_un (by decide), pk_us]
  · show upd (upd (upd z0 0 (nI 20)) 1 (nI 3)) 2 (nI 10) 2 = nI 10
    rw [pk_us]
  · rw [ho r hr]; exact z _ (by omega)
theorem and31 (x : Int32) : ∃ k : Nat, k < 32 ∧ x &&& 31 = nI k := by
  refine ⟨(x &&& 31).toBitVec.toNat, ?_, ?_⟩
  · rw [Int32.toBitVec_and, BitVec.toNat_and]
    exact Nat.lt_of_le_of_lt Nat.and_le_right (by decide)
  · apply Int32.toBitVec_inj.mp
    show (x &&& 31).toBitVec = BitVec.ofNat 32 (x &&& 31).toBitVec.toNat
    rw [BitVec.ofNat_toNat, BitVec.setWidth_eq]
theorem law_more {L i : Nat} (hL : L ≤ 2048) (hi : i ≤ L) (h : ¬ nI L - nI 4 < nI i) : i + 4 ≤ L := by
  by_cases c : 4 ≤ L
  · rw [pk_sub c] at h
    have h2 : ¬ L - 4 < i := fun z => h ((nI_ltI (by omega) (by omega)).mpr z)
    omega
  · exfalso
    apply h
    rw [Int32.lt_iff_toInt_lt, pk_sub_toInt (by omega) (by decide)]
    have e : (nI i).toInt = (i : Int) := by
      have z := pk_sub_toInt (a := i) (b := 0) (by omega) (by decide)
      rw [nz, Int32.sub_zero] at z
      omega
    rw [e]; omega
set_option maxHeartbeats 4000000 in
set_option maxRecDepth 100000 in
theorem law_loop {p : Program} {l : Launch} {e : Env} {s : State} {m : MethodId} {below : List Frame} {meth : Method} {c : Code} {g : kG} {sa : Nat → Nat} {b L o u : Nat} {xs : Nat → Int32} {ah at9 a0 am : Nat → Nat} {ak : Nat → Nat → Nat} (LW : LwC p l s m c g sa b L xs) (hr : meth.sig.returnType = ret) (hlocks : meth.locks = false) : ∀ (n j i : Nat), i = 4 * j → i ≤ L → L ≤ i + 4 * n → ∀ (H : Heap) (locs : List Loc) (ls : Array Slot) (f : Nat → Int64) (cs : CSt) (m9 : MSt), LwI s g b o u ah at9 a0 ak am i H locs ls f cs m9 → W p l e room_1 s m #[Value.ref b] below meth c H locs (40 + 3 * j) (2001 + 18 * j) (lw_Z below #[Value.ref b] s) (F0 m 23 ls []) := by
  intro n
  induction n with
  | zero =>
    intro j i hij hiL hn H locs ls f cs m9 LI
    obtain ⟨hF, hfl, hE, hSt, hZ, hX, hbl, hL⟩ := id LW
    obtain ⟨hx, hb, hml, hown, hts⟩ := id hF
    obtain ⟨S, hP, hD, hS, hl⟩ := id LI
    have hbA : ¬ (fun q : Nat => s.heap.size ≤ q) b := Nat.not_le.mpr hbl
    refine lv_iload hx hb dL_law_23 (lv_at hl 0 rfl) ?_
    refine lv_aload_n hx hb dL_law_25 rfl (lv_at hl 1 rfl) ?_
    refine va_slen hx hb hX hbl hbA hS dL_law_26 ?_
    refine lv_iconst (v := nI 4) hx hb dL_law_27 (by decide) ?_
    refine lv_isub hx hb dL_law_28 ?_
    refine lv_icmp_gt (tgt := 1552) hx hb dL_law_29 (by decide) (fun _ => ?_) (fun h => absurd (law_more hL hiL h) (by omega))
    refine lv_iconst (v := 1) hx hb dL_law_1552 (by decide) ?_
    refine va_forget (fun q hq => hS.2.2 q hq) ?_
    refine W.widen (k := 601024) (n := 7293034) (by omega) (by omega) ?_
    refine W.base ?_
    exact lw_ret (Drawn.sameBut.refl s.drawn lw_cs) hx hb hr hlocks dL_law_1553
  | succ n ih =>
    intro j i hij hiL hn H locs ls f cs m9 LI
    obtain ⟨hF, hfl, hE, hSt, hZ, hX, hbl, hL⟩ := id LW
    obtain ⟨hx, hb, hml, hown, hts⟩ := id hF
    obtain ⟨S, hP, hD, hS, hl⟩ := id LI
    have hbA : ¬ (fun q : Nat => s.heap.size ≤ q) b := Nat.not_le.mpr hbl
    refine lv_iload hx hb dL_law_23 (lv_at hl 0 rfl) ?_
    refine lv_aload_n hx hb dL_law_25 rfl (lv_at hl 1 rfl) ?_
    refine va_slen hx hb hX hbl hbA hS dL_law_26 ?_
    refine lv_iconst (v := nI 4) hx hb dL_law_27 (by decide) ?_
    refine lv_isub hx hb dL_law_28 ?_
    refine lv_icmp_gt (tgt := 1552) hx hb dL_law_29 (by decide) (fun _ => ?_) (fun h => ?_)
    · refine lv_iconst (v := 1) hx hb dL_law_1552 (by decide) ?_
      refine va_forget (fun q hq => hS.2.2 q hq) ?_
      refine W.widen (k := 601024) (n := 7293034) (by omega) (by omega) ?_
      refine W.base ?_
      exact lw_ret (Drawn.sameBut.refl s.drawn lw_cs) hx hb hr hlocks dL_law_1553
    have h4 := law_more hL hiL h
    refine lv_aload_n hx hb dL_law_32 rfl (lv_at hl 1 rfl) ?_
    refine lv_iload hx hb dL_law_33 (lv_at hl 0 rfl) ?_
    refine va_sld hx hb hX hbl hbA hS (vp_in_nI (by omega) (by omega)) dL_law_35 ?_
    refine lv_bipush (v := 31) hx hb dL_law_36 (by decide) ?_
    refine lv_iand hx hb dL_law_38 ?_
    have hcl : 40 + 3 * j + 3 ≤ room_1.cells := by show 40 + 3 * j + 3 ≤ 601024; omega
    have hsl : 2001 + 18 * j + 18 ≤ room_1.slots := by show 2001 + 18 * j + 18 ≤ 7293034; omega
    have kk : LwK p l e s m below meth c g b o u ah at9 a0 ak am i (40 + 3 * j + 3) (2001 + 18 * j + 18) (lw_Z below #[Value.ref b] s) := by
      intro H locs ls f1 c1 m1 S1 hP hD hS hl
      refine lv_iinc (v := nI (i + 4)) (lv' := [(4, .int (nI (i + 4))), (0, .ref b), (1, .ref u), (2, .ref (am 0)), (3, .ref o)]) hx hb dL_law_1546 hl (k := 0) rfl (k_inc4 _) (by decide) rfl (fun ls hl => ?_)
      refine lv_goto (tgt := 23) hx hb dL_law_1549 (by decide) ?_
      refine W.widen (k := 40 + 3 * (j + 1)) (n := 2001 + 18 * (j + 1)) (by omega) (by omega) ?_
      exact ih (j + 1) (i + 4) (by omega) h4 (by omega) H locs ls f1 c1 m1 ⟨S1, hP, hD, hS, hl⟩
    have kk9 : LwI s g b o u ah at9 a0 ak am i H locs ls f cs m9 → W p l e room_1 s m #[Value.ref b] below meth c H locs (40 + 3 * j) (2001 + 18 * j) (lw_Z below #[Value.ref b] s) (F0 m 1546 ls []) := by
      intro LI
      refine W.widen (k := 40 + 3 * j + 3) (n := 2001 + 18 * j + 18) (by omega) (by omega) ?_
      exact kk H locs ls f cs m9 LI.1 LI.2.1 LI.2.2.1 LI.2.2.2.1 LI.2.2.2.2
    obtain ⟨k, hk, ek⟩ := and31 (xs (nI i).toNatClampNeg)
    rw [ek]
    rcases (by omega : k = 0 ∨ k = 1 ∨ k = 2 ∨ k = 3 ∨ k = 4 ∨ k = 5 ∨ k = 6 ∨ k = 7 ∨ k = 8 ∨ k = 9 ∨ k = 10 ∨ k = 11 ∨ k = 12 ∨ k = 13 ∨ k = 14 ∨ k = 15 ∨ k = 16 ∨ k = 17 ∨ k = 18 ∨ k = 19 ∨ k = 20 ∨ k = 21 ∨ k = 22 ∨ k = 23 ∨ k = 24 ∨ k = 25 ∨ k = 26 ∨ k = 27 ∨ k = 28 ∨ k = 29 ∨ k = 30 ∨ k = 31) with rfl | rfl | rfl | rfl | rfl | rfl | rfl | rfl | rfl | rfl | rfl | rfl | rfl | rfl | rfl | rfl | rfl | rfl | rfl | rfl | rfl | rfl | rfl | rfl | rfl | rfl | rfl | rfl | rfl | rfl | rfl | rfl
    · exact lv_tableIn (off := 129) (tgt := 168) hx hb dL_law_39 (by decide) (by decide) rfl (by decide) (st_come LW h4 hcl hsl LI kk)
    · exact lv_tableIn (off := 197) (tgt := 236) hx hb dL_law_39 (by decide) (by decide) rfl (by decide) (st_leave LW h4 hcl hsl LI kk)
    · exact lv_tableIn (off := 293) (tgt := 332) hx hb dL_law_39 (by decide) (by decide) rfl (by decide) (st_listeners LW h4 hcl hsl LI kk)
    · exact lv_tableIn (off := 361) (tgt := 400) hx hb dL_law_39 (by decide) (by decide) rfl (by decide) (st_setOpen LW h4 hcl hsl LI kk)
    · exact lv_tableIn (off := 452) (tgt := 491) hx hb dL_law_39 (by decide) (by decide) rfl (by decide) (st_setQuick LW h4 hcl hsl LI kk)
    · exact lv_tableIn (off := 493) (tgt := 532) hx hb dL_law_39 (by decide) (by decide) rfl (by decide) (st_setTimes LW h4 hcl hsl LI kk)
    · exact lv_tableIn (off := 573) (tgt := 612) hx hb dL_law_39 (by decide) (by decide) rfl (by decide) (st_setPresent LW h4 hcl hsl LI kk)
    · exact lv_tableIn (off := 657) (tgt := 696) hx hb dL_law_39 (by decide) (by decide) rfl (by decide) (st_chief LW h4 hcl hsl LI kk)
    · exact lv_tableIn (off := 670) (tgt := 709) hx hb dL_law_39 (by decide) (by decide) rfl (by decide) (st_rest LW h4 hcl hsl LI kk)
    · exact lv_tableIn (off := 738) (tgt := 777) hx hb dL_law_39 (by decide) (by decide) rfl (by decide) (st_entries LW h4 hcl hsl LI kk)
    · exact lv_tableIn (off := 751) (tgt := 790) hx hb dL_law_39 (by decide) (by decide) rfl (by decide) (st_isOpen LW h4 hcl hsl LI kk)
    · exact lv_tableIn (off := 814) (tgt := 853) hx hb dL_law_39 (by decide) (by decide) rfl (by decide) (st_rows LW h4 hcl hsl LI kk)
    · exact lv_tableIn (off := 870) (tgt := 909) hx hb dL_law_39 (by decide) (by decide) rfl (by decide) (st_wanted LW h4 hcl hsl LI kk)
    · exact lv_tableIn (off := 926) (tgt := 965) hx hb dL_law_39 (by decide) (by decide) rfl (by decide) (st_pass LW h4 hcl hsl LI kk)
    · exact lv_tableIn (off := 982) (tgt := 1021) hx hb dL_law_39 (by decide) (by decide) rfl (by decide) (st_play LW h4 hcl hsl LI kk)
    · exact lv_tableIn (off := 1038) (tgt := 1077) hx hb dL_law_39 (by decide) (by decide) rfl (by decide) (st_minutes LW h4 hcl hsl LI kk)
    · exact lv_tableIn (off := 1051) (tgt := 1090) hx hb dL_law_39 (by decide) (by decide) rfl (by decide) (st_sinceQuestion LW h4 hcl hsl LI kk)
    · exact lv_tableIn (off := 1064) (tgt := 1103) hx hb dL_law_39 (by decide) (by decide) rfl (by decide) (st_count LW h4 hcl hsl LI kk)
    · exact lv_tableIn (off := 1120) (tgt := 1159) hx hb dL_law_39 (by decide) (by decide) rfl (by decide) (st_usefulShare LW h4 hcl hsl LI kk)
    · exact lv_tableIn (off := 1161) (tgt := 1200) hx hb dL_law_39 (by decide) (by decide) rfl (by decide) (st_minutesToFade LW h4 hcl hsl LI kk)
    · exact lv_tableIn (off := 1229) (tgt := 1268) hx hb dL_law_39 (by decide) (by decide) rfl (by decide) (st_minutesToQuestion LW h4 hcl hsl LI kk)
    · exact lv_tableIn (off := 1242) (tgt := 1281) hx hb dL_law_39 (by decide) (by decide) rfl (by decide) (st_disturbedAfter LW h4 hcl hsl LI kk)
    · exact lv_tableIn (off := 1310) (tgt := 1349) hx hb dL_law_39 (by decide) (by decide) rfl (by decide) (st_append LW h4 hcl hsl LI kk)
    · exact lv_tableIn (off := 1366) (tgt := 1405) hx hb dL_law_39 (by decide) (by decide) rfl (by decide) (st_clearText LW h4 hcl hsl LI kk)
    · exact lv_tableIn (off := 1379) (tgt := 1418) hx hb dL_law_39 (by decide) (by decide) rfl (by decide) (st_firstError LW h4 hcl hsl LI kk)
    · exact lv_tableIn (off := 1392) (tgt := 1431) hx hb dL_law_39 (by decide) (by decide) rfl (by decide) (st_run LW h4 hcl hsl LI kk)
    · exact lv_tableIn (off := 1436) (tgt := 1475) hx hb dL_law_39 (by decide) (by decide) rfl (by decide) (st_undo LW h4 hcl hsl LI kk)
    · exact lv_tableIn (off := 1480) (tgt := 1519) hx hb dL_law_39 (by decide) (by decide) rfl (by decide) (st_savedStates LW h4 hcl hsl LI kk)
    · exact lv_tableIn (off := 1493) (tgt := 1532) hx hb dL_law_39 (by decide) (by decide) rfl (by decide) (st_digest LW h4 hcl hsl LI kk)
    · exact lv_tableOut (tgt := 1546) hx hb dL_law_39 (by decide) (by decide) (kk9 LI)
    · exact lv_tableOut (tgt := 1546) hx hb dL_law_39 (by decide) (by decide) (kk9 LI)
    · exact lv_tableOut (tgt := 1546) hx hb dL_law_39 (by decide) (by decide) (kk9 LI)
section KNL
variable {p : Program} {l : Launch} {e : Env} {R : Room} {s : State} {m : MethodId} {args : Array Value} {below : List Frame} {meth : Method} {c : Code} {H : Heap} {locs : List Loc} {cells slots : Nat} {Q : State → Prop}
variable {cc : ByteArray} {pc : Nat} {ls : Array Slot} {rest : List Value} {g : kG} {A : Nat → Prop} {ws : va_W}
theorem k_newl (hexec : p.tables.exec = Jvm.exec) (hb : c.code = cc) (harr : (Cond.arrayClass .long).before args s = true) (hE : kE g s) (hP : va_P g.1 vwCl ws H) (hD : va_D A ws) (hS : va_S A s.heap H locs) (hA : ∀ q : Nat, s.heap.size ≤ q → A q) (N : Nat) (hN : N < 2 ^ 31) (hbytes : N * componentBytes .long ≤ 536870912) (hcells : cells + 1 ≤ R.cells) (hslots : slots + N ≤ R.slots) (hdg : decode cc pc = .ok (.newarray .long, 2))
    (kk : ∀ (q : Nat) (H1 : Heap), va_P g.1 vwCl (ws ++ [(q, .inl (g.2.2.2.2, N, .inr (.inl (fun _ => 0))))]) H1 → va_D A (ws ++ [(q, .inl (g.2.2.2.2, N, .inr (.inl (fun _ => 0))))]) → va_S A s.heap H1 locs → W p l e R s m args below meth c H1 locs (cells + 1) (slots + N) Q (F0 m (pc + 2) ls (.ref q :: rest))) : W p l e R s m args below meth c H locs cells slots Q (F0 m pc ls (.int (nI N) :: rest)) := by
  refine va_newa (atype := .long) (ty := .long) hexec hb harr rfl hE.1 hP hD hS hA (N' := N) (a0 := (N, .inr (.inl (fun _ => 0)))) (fun cA => vp_cell_l cA N (fun _ => 0)) (nI_pos hN) (nI_clamp hN) hbytes hcells hslots hdg (fun q cA H1 hK1 hP1 hD1 hS1 => ?_)
  have e1 : cA = g.2.2.2.2 := va_RA_inj (hK1.2 4 (cA, .long) rfl).2 (hE.1.2 3 (g.2.2.2.2, .long) rfl).2
  subst e1
  exact kk q H1 hP1 hD1 hS1
end KNL
set_option maxHeartbeats 4000000 in
set_option maxRecDepth 100000 in
/-- the law, from its entry -/
theorem whole_start {p : Program} {e : Env} {s : State} {m : MethodId} {below : List Frame} {meth : Method} {c : Code} (l : Launch) (hflags : l.flags = flags0) {b L : Nat} {xs : Nat → Int32} (hL : L ≤ 2048) (C0 : lw_At p s m meth c b L xs) : W p l e room_1 s m #[Value.ref b] below meth c s.heap [] 0 0 (lw_Z below #[Value.ref b] s) (entryFrame m ([Value.ref b] : List Value).toArray 9) := by
  obtain ⟨hx, hb, hr, hml, hown, hts0, hX, hbl, hlocks, hgv⟩ := id C0
  have hts : ∀ w ∈ wsL_law, w.before #[Value.ref b] s = true := fun w h => hts0 w (wsL_law_in w h)
  have hfl : l.stackTraces = false := by unfold Launch.stackTraces; rw [hflags]; decide
  obtain ⟨g, hE⟩ := law_kE hts0
  obtain ⟨sa, hSt⟩ := law_kS hts0 hgv
  have hZ := law_kZ hts0 hgv
  have hown : s.vm.findClass RL = some m.cls := hown
  have hF : CallFix p m c cL_law 9 s #[Value.ref b] wsL_law RL := ⟨hx, hb, hml, hown, hts⟩
  have LW : LwC p l s m c g sa b L xs := ⟨hF, hfl, hE, hSt, hZ, hX, hbl, hL⟩
  have hA : ∀ q : Nat, s.heap.size ≤ q → (fun q : Nat => s.heap.size ≤ q) q := fun _ h => h
  have hS : va_S (fun q : Nat => s.heap.size ≤ q) s.heap s.heap [] := va_S.rf
  have hP : va_P g.1 vwCl [] s.heap := fun k q h => by simp at h
  have hD : va_D (fun q : Nat => s.heap.size ≤ q) [] := ⟨fun i j p q h => by simp at h, fun k q h => by simp at h⟩
  have hl := lv_entry ([.ref b]) (n := 9) (Nat.le_of_ble_eq_true rfl)
  rw [lg_entry_eq]
  generalize (lg_sl ([.ref b]) ++ List.replicate (9 - (lg_sl ([.ref b])).length) Slot.unset).toArray = ls at hl ⊢
  have hl : lv_has ls 9 [(0, .ref b)] := hl
  refine va_new (ci := 3) (C := RX3) (T := TX3) (N := 3) (fs := raw3) hx hb hts inlX3 tyX3 tyX3_ok hown (hts0 (.classLink RL 8 RX3) (List.mem_append_right _ (List.mem_of_getElem? (i := 15) (by decide +kernel)))) (hts0 (.instantiable RX3 3) (List.mem_append_right _ (List.mem_of_getElem? (i := 16) (by decide +kernel)))) (hts0 (.initialized RX3) (List.mem_append_right _ (List.mem_of_getElem? (i := 1) (by decide +kernel)))) hE.1 hP hD hS hA rfl (fun j hj => by rcases (show j = 0 ∨ j = 1 ∨ j = 2 by omega) with rfl | rfl | rfl <;> rfl) (Nat.le_of_ble_eq_true rfl) (Nat.le_of_ble_eq_true rfl) dL_law_0 (fun q1 H hP hD hS => ?_)
  have hP : va_P g.1 vwCl [(q1, .inr (3, raw3))] H := hP
  have hD : va_D (fun q : Nat => s.heap.size ≤ q) [(q1, .inr (3, raw3))] := hD
  refine lv_dup hx hb dL_law_3 rfl ?_
  refine k_In (As := []) (w0 := [(q1, .inr (3, raw3))]) (wr := []) hF (c_X3_init l g q1) ⟨callB_of 0 hts gL_law_X3_init rfl rfl rfl (hts0 (.initialized RX3) (List.mem_append_right _ (List.mem_of_getElem? (i := 1) (by decide +kernel)))) (hts0 (.methodLink RL 77 yX3_init) (List.mem_append_right _ (List.mem_of_getElem? (i := 17) (by decide +kernel)))) (by decide +kernel) ⟨Nat.le_of_ble_eq_true rfl, Nat.le_of_ble_eq_true rfl⟩, rfl, (hts0 (.instanceMethod yX3_init) (List.mem_append_right _ (List.mem_of_getElem? (i := 18) (by decide +kernel))))⟩ hE hP hD hS hA (k_pall _) (fun _ => (k_pall _).symm) rfl hl.1 rfl (Nat.le_of_ble_eq_true rfl) dL_law_4 ⟨Nat.le_of_ble_eq_true rfl, Nat.le_of_ble_eq_true rfl⟩ (fun u1 H locs hu hP hD hS => ?_)
  obtain ⟨ah, at9, a0, ak⟩ := u1
  have hP : va_P g.1 vwCl (wC g q1 ah at9 a0 ak cs00) H := hP
  have hD : va_D (fun q : Nat => s.heap.size ≤ q) (wC g q1 ah at9 a0 ak cs00) := hD
  refine lv_astore_n (lv' := [(1, .ref q1), (0, .ref b)]) hx hb dL_law_7 rfl hl (by decide) rfl (fun ls hl => ?_)
  refine va_new (ci := 4) (C := RX4) (T := TX4) (N := 12) (fs := raw4) hx hb hts inlX4 tyX4 tyX4_ok hown (hts0 (.classLink RL 78 RX4) (List.mem_append_right _ (List.mem_of_getElem? (i := 610) (by decide +kernel)))) (hts0 (.instantiable RX4 12) (List.mem_append_right _ (List.mem_of_getElem? (i := 611) (by decide +kernel)))) (hts0 (.initialized RX4) (List.mem_append_right _ (List.mem_of_getElem? (i := 5) (by decide +kernel)))) hE.1 hP hD hS hA rfl (fun j hj => by rcases (show j = 0 ∨ j = 1 ∨ j = 2 ∨ j = 3 ∨ j = 4 ∨ j = 5 ∨ j = 6 ∨ j = 7 ∨ j = 8 ∨ j = 9 ∨ j = 10 ∨ j = 11 by omega) with rfl | rfl | rfl | rfl | rfl | rfl | rfl | rfl | rfl | rfl | rfl | rfl <;> rfl) (Nat.le_of_ble_eq_true rfl) (Nat.le_of_ble_eq_true rfl) dL_law_8 (fun q2 H hP hD hS => ?_)
  refine lv_dup hx hb dL_law_11 rfl ?_
  refine k_In (As := []) (w0 := [(q2, .inr (4, raw4))]) (wr := wC g q1 ah at9 a0 ak cs00) (ws1 := fun am : Nat → Nat => wC g q1 ah at9 a0 ak cs00 ++ wM g am M0) hF (c_X4_init l g q2) ⟨callB_of 0 hts gL_law_X4_init rfl rfl rfl (hts0 (.initialized RX4) (List.mem_append_right _ (List.mem_of_getElem? (i := 5) (by decide +kernel)))) (hts0 (.methodLink RL 80 yX4_init) (List.mem_append_right _ (List.mem_of_getElem? (i := 612) (by decide +kernel)))) (by decide +kernel) ⟨Nat.le_of_ble_eq_true rfl, Nat.le_of_ble_eq_true rfl⟩, rfl, (hts0 (.instanceMethod yX4_init) (List.mem_append_right _ (List.mem_of_getElem? (i := 613) (by decide +kernel))))⟩ hE hP hD hS hA List.perm_append_comm (fun _ => List.perm_append_comm) rfl hl.1 rfl (Nat.le_of_ble_eq_true rfl) dL_law_12 ⟨Nat.le_of_ble_eq_true rfl, Nat.le_of_ble_eq_true rfl⟩ (fun am H locs hu hP2 hD2 hS2 => ?_)
  have hu : am 0 = q2 := hu
  subst hu
  have hP := hP2
  have hD := hD2
  have hS := hS2
  refine lv_astore_n (lv' := [(2, .ref (am 0)), (1, .ref q1), (0, .ref b)]) hx hb dL_law_15 rfl hl (by decide) rfl (fun ls hl => ?_)
  refine lv_iconst (v := nI 1) hx hb dL_law_16 (by decide) ?_
  refine k_newl hx hb (hts0 (.arrayClass .long) (List.mem_append_right _ (List.mem_of_getElem? (i := 895) (by decide +kernel)))) hE hP hD hS hA 1 (by decide) (by decide) (Nat.le_of_ble_eq_true rfl) (Nat.le_of_ble_eq_true rfl) dL_law_17 (fun q3 H hP hD hS => ?_)
  have pm : ((wC g q1 ah at9 a0 ak cs00 ++ wM g am M0) ++ wO g q3 (fun _ => 0)).Perm (wA g q3 q1 ah at9 a0 ak am (fun _ => 0) cs00 M0) := by
    rw [List.append_assoc]
    exact (pm_last _ _ _).symm
  have hP := k_P_perm pm hP
  have hD := k_D_perm pm hD
  refine lv_astore_n (lv' := [(3, .ref q3), (2, .ref (am 0)), (1, .ref q1), (0, .ref b)]) hx hb dL_law_19 rfl hl (by decide) rfl (fun ls hl => ?_)
  refine lv_iconst (v := nI 0) hx hb dL_law_20 (by decide) ?_
  refine lv_istore (lv' := [(4, .int (nI 0)), (3, .ref q3), (2, .ref (am 0)), (1, .ref q1), (0, .ref b)]) hx hb dL_law_21 hl (by decide) rfl (fun ls hl => ?_)
  refine W.widen (k := 40 + 3 * 0) (n := 2001 + 18 * 0) (Nat.le_of_ble_eq_true rfl) (Nat.le_of_ble_eq_true rfl) ?_
  exact law_loop LW hr hlocks L 0 0 rfl (Nat.zero_le L) (by omega) H _ ls _ cs00 M0 ⟨sim_0, hP, hD, hS, lv_sub hl [0, 4, 3, 2, 1] rfl⟩
