/-! what the hall's methods do, as functions of its state -/
abbrev Hcnt (c : Nat) (h : HSt) : HSt := sHC h (upd (hC h) c (hC h c + nI 1))
def Hcall (k : Nat) (h : HSt) : HSt := sHC (sHR h (upd (hR h) k (hfd h))) (upd (hC h) 5 (hC h 5 + nI 1))
def Hseat (k : Nat) (h : HSt) : HSt := Hcall k (sHL h (upd (hL h) k (hL h k + nI 1)))
def Hask (k : Nat) (h : HSt) : HSt := if ¬ hL h k ≤ 0 then Hcall k (Hcnt 4 h) else Hcnt 4 h
def Hfare2 (k : Nat) (h : HSt) : HSt := if hR h k ≤ hpt h then h else Hask k (sHR h (upd (hR h) k (hpt h)))
def Hfare (k : Nat) (h : HSt) : HSt := if hqk h = 0 then Hfare2 k h else if ¬ hL h k ≤ 0 then Hfare2 k h else sHR h (upd (hR h) k (nI 0))
def Hunseat (k b : Nat) (h : HSt) : HSt := if b = 0 then sHL h (upd (hL h) k (hL h k - nI 1)) else Hfare k (sHL h (upd (hL h) k (hL h k - nI 1)))
def HaskN (h : HSt) : Nat → HSt
  | 0 => h
  | n + 1 => if ¬ hL (HaskN h n) n ≤ 0 then Hcall n (HaskN h n) else HaskN h n
def HaskAll (h : HSt) : HSt := HaskN (Hcnt 3 h) 48
abbrev Hopen (h : HSt) (r : Nat) : Prop := (hop h >>> (nI r &&& 31)) &&& nI 1 = nI 1
def Hturn (r : Nat) (h : HSt) : HSt := sHop h (hop h ^^^ (nI 1 <<< (nI r &&& 31)))
def Hchief (h : HSt) : Int32 := if hf2 h = 0 then (if hf1 h = 0 then nI 0 else nI 1) else nI 2
def Hent (f : Nat → Int32) : Nat → Nat
  | 0 => 0
  | n + 1 => if f n ≤ 0 then Hent f n else Hent f n + 1
def Hget (h : HSt) (c : Nat) : Nat → Int32
  | 0 => hop h
  | n + 1 => if hR h (n * 6 + c) ≤ 0 then Hget h c n else Hget h c n ||| (nI 1 <<< (nI n &&& 31))
def Hwant (h : HSt) (c : Nat) : Nat → Int32
  | 0 => nI 0
  | n + 1 => if ¬ hL h (n * 6 + c) ≤ 0 then Hwant h c n ||| (nI 1 <<< (nI n &&& 31)) else Hwant h c n
def HfadeN (R : Nat → Int32) : Nat → Nat → Int32
  | 0 => R
  | n + 1 => if HfadeN R n n ≤ 0 then HfadeN R n else upd (HfadeN R n) n (HfadeN R n n - nI 1)
def Hfade (h : HSt) : HSt := sHR h (HfadeN (hR h) 48)
def Htbq (h : HSt) : Int32 := if Hchief h = 0 then has h else nI 2 * has h
def Htk (h : HSt) : HSt := sHsn (Hfade (sHmn h (hmn h + nI 1))) (hsn (Hfade (sHmn h (hmn h + nI 1))) + nI 1)
def Hmin (h : HSt) : HSt := if hsn (Htk h) < Htbq (Htk h) then Htk h else HaskAll (sHsn (Htk h) (nI 0))
def HpassN (h : HSt) : Nat → HSt
  | 0 => h
  | n + 1 => Hmin (HpassN h n)
def HpassQ (h : HSt) : Nat → Nat
  | 0 => 0
  | n + 1 => if hsn (Htk (HpassN h n)) < Htbq (Htk (HpassN h n)) then HpassQ h n else HpassQ h n + 1
/-- Integer.bitCount, step by step -/
def bc1 (x : Int32) : Int32 := x - ((x.toUInt32 >>> ((nI 1).toUInt32 &&& Int32.toUInt32 31)).toInt32 &&& 1431655765)
def bc2 (x : Int32) : Int32 := (x &&& 858993459) + ((x.toUInt32 >>> ((nI 2).toUInt32 &&& Int32.toUInt32 31)).toInt32 &&& 858993459)
def bc3 (x : Int32) : Int32 := (x + (x.toUInt32 >>> ((nI 4).toUInt32 &&& Int32.toUInt32 31)).toInt32) &&& 252645135
def bc4 (x : Int32) : Int32 := x + (x.toUInt32 >>> ((nI 8).toUInt32 &&& Int32.toUInt32 31)).toInt32
def bc5 (x : Int32) : Int32 := x + (x.toUInt32 >>> ((nI 16).toUInt32 &&& Int32.toUInt32 31)).toInt32
def bc (x : Int32) : Int32 := bc5 (bc4 (bc3 (bc2 (bc1 x)))) &&& nI 63
def HperfC (C : Nat → Int32) (g w : Int32) : Nat → Int32 :=
  upd (upd (upd C 0 (C 0 + bc (g &&& w))) 1 ((upd C 0 (C 0 + bc (g &&& w))) 1 + bc (g &&& (w ^^^ (-1))))) 2 ((upd (upd C 0 (C 0 + bc (g &&& w))) 1 ((upd C 0 (C 0 + bc (g &&& w))) 1 + bc (g &&& (w ^^^ (-1))))) 2 + bc (w &&& (g ^^^ (-1))))
def Hperf (c : Nat) (h : HSt) : HSt := sHC h (HperfC (hC h) (Hget h c 8) (Hwant h c 8))
def HasksIn (h : HSt) : Int32 := if nI 1 < Htbq h - hsn h then Htbq h - hsn h else nI 1
def HfadesIn (k : Nat) (h : HSt) : Int32 := if ¬ hL h k ≤ 0 then (if HasksIn h ≤ hR h k then (if Htbq h ≤ hfd h then (-1) else HasksIn h + hfd h) else hR h k) else hR h k
def Hdist (h : HSt) (c sp : Nat) : Nat → Nat
  | 0 => 0
  | n + 1 => if ¬ hL h (n * 6 + c) ≤ 0 then Hdist h c sp n else if Hopen h n then Hdist h c sp n + 1 else if hR h (n * 6 + c) ≤ nI sp then Hdist h c sp n else Hdist h c sp n + 1
set_option maxHeartbeats 4000000 in
set_option maxRecDepth 100000 in
theorem c_J6_bitCount_0f7a4 (l : Launch) (g : kG) (x : Int32) : KI l yJ6_bitCount_0f7a4 wsJ6_bitCount_0f7a4 ({ frames := 0, cells := 0, slots := 0, locals := 0 }) g [.int x] [] (bc x) [] 0 0 := by
  refine k_begin (cc := cJ6_bitCount_0f7a4) (maxL := 1) (ret := (some .int)) (Qc := fun A => kQi g (bc x) [] A) (by decide) rfl (Nat.le_of_ble_eq_true rfl) ?_
  intro p e s m below meth c A ls hF hr hlocks hin hE hP hD hS hA hl
  obtain ⟨hx, hb, hml, hown, hts⟩ := id hF
  have hown : s.vm.findClass RJ6 = some m.cls := hown
  have hl : lv_has ls 1 [(0, .int x)] := hl
  have cst265 : (Cond.constant RJ6 265 (1431655765)).before _ s = true := hts _ (List.mem_of_getElem? (i := 1) rfl)
  have cst266 : (Cond.constant RJ6 266 (858993459)).before _ s = true := hts _ (List.mem_of_getElem? (i := 2) rfl)
  have cst267 : (Cond.constant RJ6 267 (252645135)).before _ s = true := hts _ (List.mem_of_getElem? (i := 3) rfl)
  refine lv_iload_n hx hb dJ6_bitCount_0f7a4_0 rfl (lv_at hl 0 rfl) ?_
  refine lv_iload_n hx hb dJ6_bitCount_0f7a4_1 rfl (lv_at hl 0 rfl) ?_
  refine lv_iconst (v := (nI 1)) hx hb dJ6_bitCount_0f7a4_2 (by decide) ?_
  refine lv_iushr (v := ((x).toUInt32 >>> (((nI 1)).toUInt32 &&& Int32.toUInt32 31)).toInt32) hx hb dJ6_bitCount_0f7a4_3 rfl ?_
  refine lv_ldcw hx hb hown cst265 dJ6_bitCount_0f7a4_4 ?_
  refine lv_iand hx hb dJ6_bitCount_0f7a4_7 ?_
  refine lv_isub hx hb dJ6_bitCount_0f7a4_8 ?_
  refine k_top rfl ?_
  refine lv_istore_n (lv' := [(0, .int (bc1 x))]) hx hb dJ6_bitCount_0f7a4_9 rfl hl (by decide) rfl (fun ls hl => ?_)
  refine lv_iload_n hx hb dJ6_bitCount_0f7a4_10 rfl (lv_at hl 0 rfl) ?_
  refine lv_ldcw hx hb hown cst266 dJ6_bitCount_0f7a4_11 ?_
  refine lv_iand hx hb dJ6_bitCount_0f7a4_14 ?_
  refine lv_iload_n hx hb dJ6_bitCount_0f7a4_15 rfl (lv_at hl 0 rfl) ?_
  refine lv_iconst (v := (nI 2)) hx hb dJ6_bitCount_0f7a4_16 (by decide) ?_
  refine lv_iushr (v := (((bc1 x)).toUInt32 >>> (((nI 2)).toUInt32 &&& Int32.toUInt32 31)).toInt32) hx hb dJ6_bitCount_0f7a4_17 rfl ?_
  refine lv_ldcw hx hb hown cst266 dJ6_bitCount_0f7a4_18 ?_
  refine lv_iand hx hb dJ6_bitCount_0f7a4_21 ?_
  refine lv_iadd hx hb dJ6_bitCount_0f7a4_22 ?_
  refine k_top rfl ?_
  refine lv_istore_n (lv' := [(0, .int (bc2 (bc1 x)))]) hx hb dJ6_bitCount_0f7a4_23 rfl hl (by decide) rfl (fun ls hl => ?_)
  refine lv_iload_n hx hb dJ6_bitCount_0f7a4_24 rfl (lv_at hl 0 rfl) ?_
  refine lv_iload_n hx hb dJ6_bitCount_0f7a4_25 rfl (lv_at hl 0 rfl) ?_
  refine lv_iconst (v := (nI 4)) hx hb dJ6_bitCount_0f7a4_26 (by decide) ?_
  refine lv_iushr (v := (((bc2 (bc1 x))).toUInt32 >>> (((nI 4)).toUInt32 &&& Int32.toUInt32 31)).toInt32) hx hb dJ6_bitCount_0f7a4_27 rfl ?_
  refine lv_iadd hx hb dJ6_bitCount_0f7a4_28 ?_
  refine lv_ldcw hx hb hown cst267 dJ6_bitCount_0f7a4_29 ?_
  refine lv_iand hx hb dJ6_bitCount_0f7a4_32 ?_
  refine k_top rfl ?_
  refine lv_istore_n (lv' := [(0, .int (bc3 (bc2 (bc1 x))))]) hx hb dJ6_bitCount_0f7a4_33 rfl hl (by decide) rfl (fun ls hl => ?_)
  refine lv_iload_n hx hb dJ6_bitCount_0f7a4_34 rfl (lv_at hl 0 rfl) ?_
  refine lv_iload_n hx hb dJ6_bitCount_0f7a4_35 rfl (lv_at hl 0 rfl) ?_
  refine lv_bipush (v := (nI 8)) hx hb dJ6_bitCount_0f7a4_36 (by decide) ?_
  refine lv_iushr (v := (((bc3 (bc2 (bc1 x)))).toUInt32 >>> (((nI 8)).toUInt32 &&& Int32.toUInt32 31)).toInt32) hx hb dJ6_bitCount_0f7a4_38 rfl ?_
  refine lv_iadd hx hb dJ6_bitCount_0f7a4_39 ?_
  refine k_top rfl ?_
  refine lv_istore_n (lv' := [(0, .int (bc4 (bc3 (bc2 (bc1 x)))))]) hx hb dJ6_bitCount_0f7a4_40 rfl hl (by decide) rfl (fun ls hl => ?_)
  refine lv_iload_n hx hb dJ6_bitCount_0f7a4_41 rfl (lv_at hl 0 rfl) ?_
  refine lv_iload_n hx hb dJ6_bitCount_0f7a4_42 rfl (lv_at hl 0 rfl) ?_
  refine lv_bipush (v := (nI 16)) hx hb dJ6_bitCount_0f7a4_43 (by decide) ?_
  refine lv_iushr (v := (((bc4 (bc3 (bc2 (bc1 x))))).toUInt32 >>> (((nI 16)).toUInt32 &&& Int32.toUInt32 31)).toInt32) hx hb dJ6_bitCount_0f7a4_45 rfl ?_
  refine lv_iadd hx hb dJ6_bitCount_0f7a4_46 ?_
  refine k_top rfl ?_
  refine lv_istore_n (lv' := [(0, .int (bc5 (bc4 (bc3 (bc2 (bc1 x))))))]) hx hb dJ6_bitCount_0f7a4_47 rfl hl (by decide) rfl (fun ls hl => ?_)
  refine lv_iload_n hx hb dJ6_bitCount_0f7a4_48 rfl (lv_at hl 0 rfl) ?_
  refine lv_bipush (v := (nI 63)) hx hb dJ6_bitCount_0f7a4_49 (by decide) ?_
  refine lv_iand hx hb dJ6_bitCount_0f7a4_51 ?_
  have hP : va_P g.1 vwCl [] _ := hP
  have hD : va_D A [] := hD
  exact k_iret hx hb hr hlocks rfl (by first | rfl | (simp only [bc, bc1, bc2, bc3, bc4, bc5, bI]; done) | (simp only [bc, bc1, bc2, bc3, bc4, bc5, bI]; rfl) | (simp [bc, bc1, bc2, bc3, bc4, bc5, bI]; done)) hP hD hS (Nat.le_of_ble_eq_true rfl) (Nat.le_of_ble_eq_true rfl) dJ6_bitCount_0f7a4_52
set_option maxHeartbeats 4000000 in
set_option maxRecDepth 100000 in
theorem c_X3_placeOf (l : Launch) (g : kG) (r9 c9 : Nat) : KI l yX3_placeOf wsX3_placeOf ({ frames := 0, cells := 0, slots := 0, locals := 0 }) g [.int (nI r9), .int (nI c9)] [] (nI (r9 * 6 + c9)) [] 0 0 := by
  refine k_begin (cc := cX3_placeOf) (maxL := 2) (ret := (some .int)) (Qc := fun A => kQi g (nI (r9 * 6 + c9)) [] A) (by decide) rfl (Nat.le_of_ble_eq_true rfl) ?_
  intro p e s m below meth c A ls hF hr hlocks hin hE hP hD hS hA hl
  obtain ⟨hx, hb, hml, hown, hts⟩ := id hF
  have hown : s.vm.findClass RX3 = some m.cls := hown
  have hl : lv_has ls 2 [(0, .int (nI r9)), (1, .int (nI c9))] := hl
  refine lv_iload_n hx hb dX3_placeOf_0 rfl (lv_at hl 0 rfl) ?_
  refine lv_bipush (v := (nI 6)) hx hb dX3_placeOf_1 (by decide) ?_
  refine lv_imul hx hb dX3_placeOf_3 ?_
  refine k_top (pk_mul _ _) ?_
  refine lv_iload_n hx hb dX3_placeOf_4 rfl (lv_at hl 1 rfl) ?_
  refine lv_iadd hx hb dX3_placeOf_5 ?_
  refine k_top (nI_add _ _) ?_
  have hP : va_P g.1 vwCl [] _ := hP
  have hD : va_D A [] := hD
  exact k_iret hx hb hr hlocks rfl (by first | rfl | (simp only [bI]; done) | (simp only [bI]; rfl) | (simp [bI]; done)) hP hD hS (Nat.le_of_ble_eq_true rfl) (Nat.le_of_ble_eq_true rfl) dX3_placeOf_6
set_option maxHeartbeats 4000000 in
set_option maxRecDepth 100000 in
theorem c_X1_hasRoom (l : Launch) (g : kG) (a : Nat → Nat) (h : HSt) (k : Nat) (hk : k < 48) : KI l yX1_hasRoom wsX1_hasRoom ({ frames := 0, cells := 0, slots := 0, locals := 0 }) g [.ref (a 0), .int (nI k)] (wH g a h) (bI (¬ nI 9 ≤ (hL h) k)) (wH g a h) 0 0 := by
  refine k_begin (cc := cX1_hasRoom) (maxL := 2) (ret := (some .boolean)) (Qc := fun A => kQi g (bI (¬ nI 9 ≤ (hL h) k)) (wH g a h) A) (by decide) rfl (Nat.le_of_ble_eq_true rfl) ?_
  intro p e s m below meth c A ls hF hr hlocks hin hE hP hD hS hA hl
  obtain ⟨hx, hb, hml, hown, hts⟩ := id hF
  have hown : s.vm.findClass RX1 = some m.cls := hown
  have hl : lv_has ls 2 [(0, .ref (a 0)), (1, .int (nI k))] := hl
  have hiX1 : ∀ w ∈ wsX10, w ∈ wsX1_hasRoom := fun _ h => List.mem_cons_of_mem _ (List.mem_append_right _ (h))
  have f9 : (Cond.fieldLink RX1 9 "ConcertUsher$Hall" "listeners" "[I").before _ s = true := hts _ (List.mem_of_getElem? (i := 1) rfl)
  refine lv_aload_n hx hb dX1_hasRoom_0 rfl (lv_at hl 0 rfl) ?_
  refine va_get (D := g.1) (ci := 1) (v := .ref (a 1)) (C := RX1) (T := TX1) (N := 12) hx hb hts hiX1 hown hE.1 hP 0 rfl rfl 0 (by decide) f9 (fun _ h9 => h9) rfl dX1_hasRoom_1 ?_
  refine lv_iload_n hx hb dX1_hasRoom_4 rfl (lv_at hl 1 rfl) ?_
  refine k_iald (f := (hL h)) hx hb hE hP 1 rfl k rfl (by omega) (by decide) dX1_hasRoom_5 ?_
  refine lv_bipush (v := (nI 9)) hx hb dX1_hasRoom_6 (by decide) ?_
  refine lv_icmp_ge (tgt := 15) hx hb dX1_hasRoom_8 (by decide) (fun c1 => ?_) (fun c1 => ?_)
  ·
    refine lv_iconst (v := (nI 0)) hx hb dX1_hasRoom_15 (by decide) ?_
    have hP : va_P g.1 vwCl (wH g a h) _ := hP
    have hD : va_D A (wH g a h) := hD
    exact k_iret hx hb hr hlocks rfl (by first | (simp only [bI, if_pos c1, if_neg (not_not_intro c1)]; done) | (simp only [bI, if_pos c1, if_neg (not_not_intro c1)]; rfl) | rfl | (simp [bI, if_pos c1, if_neg (not_not_intro c1)]; done)) hP hD hS (Nat.le_of_ble_eq_true rfl) (Nat.le_of_ble_eq_true rfl) dX1_hasRoom_16
  ·
    refine lv_iconst (v := (nI 1)) hx hb dX1_hasRoom_11 (by decide) ?_
    refine lv_goto (tgt := 16) hx hb dX1_hasRoom_12 (by decide) ?_
    have hP : va_P g.1 vwCl (wH g a h) _ := hP
    have hD : va_D A (wH g a h) := hD
    exact k_iret hx hb hr hlocks rfl (by first | (simp only [bI, if_neg c1, if_pos c1]; done) | (simp only [bI, if_neg c1, if_pos c1]; rfl) | rfl | (simp [bI, if_neg c1, if_pos c1]; done)) hP hD hS (Nat.le_of_ble_eq_true rfl) (Nat.le_of_ble_eq_true rfl) dX1_hasRoom_16
set_option maxHeartbeats 4000000 in
set_option maxRecDepth 100000 in
theorem c_X1_isWantedAt (l : Launch) (g : kG) (a : Nat → Nat) (h : HSt) (k : Nat) (hk : k < 48) : KI l yX1_isWantedAt wsX1_isWantedAt ({ frames := 0, cells := 0, slots := 0, locals := 0 }) g [.ref (a 0), .int (nI k)] (wH g a h) (bI (¬ (hL h) k ≤ 0)) (wH g a h) 0 0 := by
  refine k_begin (cc := cX1_isWantedAt) (maxL := 2) (ret := (some .boolean)) (Qc := fun A => kQi g (bI (¬ (hL h) k ≤ 0)) (wH g a h) A) (by decide) rfl (Nat.le_of_ble_eq_true rfl) ?_
  intro p e s m below meth c A ls hF hr hlocks hin hE hP hD hS hA hl
  obtain ⟨hx, hb, hml, hown, hts⟩ := id hF
  have hown : s.vm.findClass RX1 = some m.cls := hown
  have hl : lv_has ls 2 [(0, .ref (a 0)), (1, .int (nI k))] := hl
  have hiX1 : ∀ w ∈ wsX10, w ∈ wsX1_isWantedAt := fun _ h => List.mem_cons_of_mem _ (List.mem_append_right _ (h))
  have f9 : (Cond.fieldLink RX1 9 "ConcertUsher$Hall" "listeners" "[I").before _ s = true := hts _ (List.mem_of_getElem? (i := 1) rfl)
  refine lv_aload_n hx hb dX1_isWantedAt_0 rfl (lv_at hl 0 rfl) ?_
  refine va_get (D := g.1) (ci := 1) (v := .ref (a 1)) (C := RX1) (T := TX1) (N := 12) hx hb hts hiX1 hown hE.1 hP 0 rfl rfl 0 (by decide) f9 (fun _ h9 => h9) rfl dX1_isWantedAt_1 ?_
  refine lv_iload_n hx hb dX1_isWantedAt_4 rfl (lv_at hl 1 rfl) ?_
  refine k_iald (f := (hL h)) hx hb hE hP 1 rfl k rfl (by omega) (by decide) dX1_isWantedAt_5 ?_
  refine lv_if_le (tgt := 13) hx hb dX1_isWantedAt_6 (by decide) (fun c1 => ?_) (fun c1 => ?_)
  ·
    refine lv_iconst (v := (nI 0)) hx hb dX1_isWantedAt_13 (by decide) ?_
    have hP : va_P g.1 vwCl (wH g a h) _ := hP
    have hD : va_D A (wH g a h) := hD
    exact k_iret hx hb hr hlocks rfl (by first | (simp only [bI, if_pos c1, if_neg (not_not_intro c1)]; done) | (simp only [bI, if_pos c1, if_neg (not_not_intro c1)]; rfl) | rfl | (simp [bI, if_pos c1, if_neg (not_not_intro c1)]; done)) hP hD hS (Nat.le_of_ble_eq_true rfl) (Nat.le_of_ble_eq_true rfl) dX1_isWantedAt_14
  ·
    refine lv_iconst (v := (nI 1)) hx hb dX1_isWantedAt_9 (by decide) ?_
    refine lv_goto (tgt := 14) hx hb dX1_isWantedAt_10 (by decide) ?_
    have hP : va_P g.1 vwCl (wH g a h) _ := hP
    have hD : va_D A (wH g a h) := hD
    exact k_iret hx hb hr hlocks rfl (by first | (simp only [bI, if_neg c1, if_pos c1]; done) | (simp only [bI, if_neg c1, if_pos c1]; rfl) | rfl | (simp [bI, if_neg c1, if_pos c1]; done)) hP hD hS (Nat.le_of_ble_eq_true rfl) (Nat.le_of_ble_eq_true rfl) dX1_isWantedAt_14
set_option maxHeartbeats 4000000 in
set_option maxRecDepth 100000 in
theorem c_X1_hearCall (l : Launch) (g : kG) (a : Nat → Nat) (h : HSt) (k : Nat) (hk : k < 48) : KV l yX1_hearCall wsX1_hearCall ({ frames := 0, cells := 0, slots := 0, locals := 0 }) g [.ref (a 0), .int (nI k)] (wH g a h) (wH g a (Hcall k h)) 0 0 := by
  refine k_begin (cc := cX1_hearCall) (maxL := 2) (ret := none) (Qc := fun A => kQv g (wH g a (Hcall k h)) A) (by decide) rfl (Nat.le_of_ble_eq_true rfl) ?_
  intro p e s m below meth c A ls hF hr hlocks hin hE hP hD hS hA hl
  obtain ⟨hx, hb, hml, hown, hts⟩ := id hF
  have hown : s.vm.findClass RX1 = some m.cls := hown
  have hl : lv_has ls 2 [(0, .ref (a 0)), (1, .int (nI k))] := hl
  have hiX1 : ∀ w ∈ wsX10, w ∈ wsX1_hearCall := fun _ h => List.mem_cons_of_mem _ (List.mem_append_right _ (h))
  have f15 : (Cond.fieldLink RX1 15 "ConcertUsher$Hall" "rests" "[I").before _ s = true := hts _ (List.mem_of_getElem? (i := 1) rfl)
  have f35 : (Cond.fieldLink RX1 35 "ConcertUsher$Hall" "fading" "I").before _ s = true := hts _ (List.mem_of_getElem? (i := 2) rfl)
  have f18 : (Cond.fieldLink RX1 18 "ConcertUsher$Hall" "counts" "[I").before _ s = true := hts _ (List.mem_of_getElem? (i := 3) rfl)
  refine lv_aload_n hx hb dX1_hearCall_0 rfl (lv_at hl 0 rfl) ?_
  refine va_get (D := g.1) (ci := 1) (v := .ref (a 2)) (C := RX1) (T := TX1) (N := 12) hx hb hts hiX1 hown hE.1 hP 0 rfl rfl 1 (by decide) f15 (fun _ h9 => h9) rfl dX1_hearCall_1 ?_
  refine lv_iload_n hx hb dX1_hearCall_4 rfl (lv_at hl 1 rfl) ?_
  refine lv_aload_n hx hb dX1_hearCall_5 rfl (lv_at hl 0 rfl) ?_
  refine va_get (D := g.1) (ci := 1) (v := .int (hfd h)) (C := RX1) (T := TX1) (N := 12) hx hb hts hiX1 hown hE.1 hP 0 rfl rfl 7 (by decide) f35 (fun _ h9 => h9) rfl dX1_hearCall_6 ?_
  refine k_iast (f := (hR h)) (ws1 := (wH g a (sHR h (upd (hR h) k (hfd h))))) hx hb hE hP hD hS 2 rfl k rfl (by omega) (by decide) rfl dX1_hearCall_9 (fun H locs hP hD hS => ?_)
  refine lv_aload_n hx hb dX1_hearCall_10 rfl (lv_at hl 0 rfl) ?_
  refine va_get (D := g.1) (ci := 1) (v := .ref (a 3)) (C := RX1) (T := TX1) (N := 12) hx hb hts hiX1 hown hE.1 hP 0 rfl rfl 2 (by decide) f18 (fun _ h9 => h9) rfl dX1_hearCall_11 ?_
  refine lv_iconst (v := (nI 5)) hx hb dX1_hearCall_14 (by decide) ?_
  refine lv_dup2_11 hx hb dX1_hearCall_15 rfl rfl ?_
  refine k_iald (f := (hC h)) hx hb hE hP 3 rfl 5 rfl (by decide) (by decide) dX1_hearCall_16 ?_
  refine lv_iconst (v := (nI 1)) hx hb dX1_hearCall_17 (by decide) ?_
  refine lv_iadd hx hb dX1_hearCall_18 ?_
  refine k_iast (f := (hC h)) (ws1 := (wH g a (sHC (sHR h (upd (hR h) k (hfd h))) (upd (hC h) 5 (((hC h) 5) + (nI 1)))))) hx hb hE hP hD hS 3 rfl 5 rfl (by decide) (by decide) rfl dX1_hearCall_19 (fun H locs hP hD hS => ?_)
  have hP : va_P g.1 vwCl (wH g a (Hcall k h)) _ := hP
  have hD : va_D A (wH g a (Hcall k h)) := hD
  exact k_vret hx hb hr hlocks hP hD hS (Nat.le_of_ble_eq_true rfl) (Nat.le_of_ble_eq_true rfl) dX1_hearCall_20
set_option maxHeartbeats 4000000 in
set_option maxRecDepth 100000 in
theorem c_X1_seat (l : Launch) (g : kG) (a : Nat → Nat) (h : HSt) (k : Nat) (hk : k < 48) : KV l yX1_seat wsX1_seat ({ frames := 1, cells := 0, slots := 0, locals := 21 }) g [.ref (a 0), .int (nI k)] (wH g a h) (wH g a (Hseat k h)) 0 0 := by
  refine k_begin (cc := cX1_seat) (maxL := 2) (ret := none) (Qc := fun A => kQv g (wH g a (Hseat k h)) A) (by decide) rfl (Nat.le_of_ble_eq_true rfl) ?_
  intro p e s m below meth c A ls hF hr hlocks hin hE hP hD hS hA hl
  obtain ⟨hx, hb, hml, hown, hts⟩ := id hF
  have hown : s.vm.findClass RX1 = some m.cls := hown
  have hl : lv_has ls 2 [(0, .ref (a 0)), (1, .int (nI k))] := hl
  have hiX1 : ∀ w ∈ wsX10, w ∈ wsX1_seat := fun _ h => List.mem_cons_of_mem _ (List.mem_append_right _ (h))
  have f9 : (Cond.fieldLink RX1 9 "ConcertUsher$Hall" "listeners" "[I").before _ s = true := hts _ (List.mem_of_getElem? (i := 1) rfl)
  refine lv_aload_n hx hb dX1_seat_0 rfl (lv_at hl 0 rfl) ?_
  refine va_get (D := g.1) (ci := 1) (v := .ref (a 1)) (C := RX1) (T := TX1) (N := 12) hx hb hts hiX1 hown hE.1 hP 0 rfl rfl 0 (by decide) f9 (fun _ h9 => h9) rfl dX1_seat_1 ?_
  refine lv_iload_n hx hb dX1_seat_4 rfl (lv_at hl 1 rfl) ?_
  refine lv_dup2_11 hx hb dX1_seat_5 rfl rfl ?_
  refine k_iald (f := (hL h)) hx hb hE hP 1 rfl k rfl (by omega) (by decide) dX1_seat_6 ?_
  refine lv_iconst (v := (nI 1)) hx hb dX1_seat_7 (by decide) ?_
  refine lv_iadd hx hb dX1_seat_8 ?_
  refine k_iast (f := (hL h)) (ws1 := (wH g a (sHL h (upd (hL h) k (((hL h) k) + (nI 1)))))) hx hb hE hP hD hS 1 rfl k rfl (by omega) (by decide) rfl dX1_seat_9 (fun H locs hP hD hS => ?_)
  refine lv_aload_n hx hb dX1_seat_10 rfl (lv_at hl 0 rfl) ?_
  refine lv_iload_n hx hb dX1_seat_11 rfl (lv_at hl 1 rfl) ?_
  refine k_Vv (As := [.int (nI k)]) hF (c_X1_hearCall l g a (sHL h (upd (hL h) k (((hL h) k) + (nI 1)))) k (by omega)) (cwV 1 hts gX1_seat_X1_hearCall rfl rfl rfl (by decide +kernel) ⟨Nat.le_of_ble_eq_true rfl, Nat.le_of_ble_eq_true rfl⟩) hE hP hD hS hA (k_pall _) ((k_pall _).symm) 0 rfl rfl rfl rfl hl.1 rfl (Nat.le_of_ble_eq_true rfl) dX1_seat_12 ⟨Nat.le_of_ble_eq_true rfl, Nat.le_of_ble_eq_true rfl⟩ (fun H locs hP hD hS => ?_)
  have hP : va_P g.1 vwCl (wH g a (Hcall k (sHL h (upd (hL h) k (((hL h) k) + (nI 1)))))) _ := hP
  have hD : va_D A (wH g a (Hcall k (sHL h (upd (hL h) k (((hL h) k) + (nI 1)))))) := hD
  obtain ⟨z1, ez1⟩ : ∃ x : HSt, x = (Hcall k (sHL h (upd (hL h) k (((hL h) k) + (nI 1))))) := ⟨_, rfl⟩
  rw [← ez1] at hP hD
  have e2 : (Hseat k h) = z1 := (by subst ez1; first | rfl | (simp only [Hseat]; done) | (simp only [Hseat]; rfl) | (simp [Hseat]; done))
  have hP : va_P g.1 vwCl (wH g a (Hseat k h)) H := by rw [e2]; exact hP
  have hD : va_D A (wH g a (Hseat k h)) := by rw [e2]; exact hD
  exact k_vret hx hb hr hlocks hP hD hS (Nat.le_of_ble_eq_true rfl) (Nat.le_of_ble_eq_true rfl) dX1_seat_15
set_option maxHeartbeats 4000000 in
set_option maxRecDepth 100000 in
theorem c_X1_askRow (l : Launch) (g : kG) (a : Nat → Nat) (h : HSt) (k : Nat) (hk : k < 48) : KV l yX1_askRow wsX1_askRow ({ frames := 1, cells := 0, slots := 0, locals := 21 }) g [.ref (a 0), .int (nI k)] (wH g a h) (wH g a (Hask k h)) 0 0 := by
  refine k_begin (cc := cX1_askRow) (maxL := 2) (ret := none) (Qc := fun A => kQv g (wH g a (Hask k h)) A) (by decide) rfl (Nat.le_of_ble_eq_true rfl) ?_
  intro p e s m below meth c A ls hF hr hlocks hin hE hP hD hS hA hl
  obtain ⟨hx, hb, hml, hown, hts⟩ := id hF
  have hown : s.vm.findClass RX1 = some m.cls := hown
  have hl : lv_has ls 2 [(0, .ref (a 0)), (1, .int (nI k))] := hl
  have hiX1 : ∀ w ∈ wsX10, w ∈ wsX1_askRow := fun _ h => List.mem_cons_of_mem _ (List.mem_append_right _ (h))
  have f18 : (Cond.fieldLink RX1 18 "ConcertUsher$Hall" "counts" "[I").before _ s = true := hts _ (List.mem_of_getElem? (i := 1) rfl)
  refine lv_aload_n hx hb dX1_askRow_0 rfl (lv_at hl 0 rfl) ?_
  refine va_get (D := g.1) (ci := 1) (v := .ref (a 3)) (C := RX1) (T := TX1) (N := 12) hx hb hts hiX1 hown hE.1 hP 0 rfl rfl 2 (by decide) f18 (fun _ h9 => h9) rfl dX1_askRow_1 ?_
  refine lv_iconst (v := (nI 4)) hx hb dX1_askRow_4 (by decide) ?_
  refine lv_dup2_11 hx hb dX1_askRow_5 rfl rfl ?_
  refine k_iald (f := (hC h)) hx hb hE hP 3 rfl 4 rfl (by decide) (by decide) dX1_askRow_6 ?_
  refine lv_iconst (v := (nI 1)) hx hb dX1_askRow_7 (by decide) ?_
  refine lv_iadd hx hb dX1_askRow_8 ?_
  refine k_iast (f := (hC h)) (ws1 := (wH g a (sHC h (upd (hC h) 4 (((hC h) 4) + (nI 1)))))) hx hb hE hP hD hS 3 rfl 4 rfl (by decide) (by decide) rfl dX1_askRow_9 (fun H locs hP hD hS => ?_)
  refine lv_aload_n hx hb dX1_askRow_10 rfl (lv_at hl 0 rfl) ?_
  refine lv_iload_n hx hb dX1_askRow_11 rfl (lv_at hl 1 rfl) ?_
  refine k_Vi (As := [.int (nI k)]) (r := (bI (¬ ((hL h) k) ≤ 0))) hF (c_X1_isWantedAt l g a (sHC h (upd (hC h) 4 (((hC h) 4) + (nI 1)))) k (by omega)) (cwV 1 hts gX1_askRow_X1_isWantedAt rfl rfl rfl (by decide +kernel) ⟨Nat.le_of_ble_eq_true rfl, Nat.le_of_ble_eq_true rfl⟩) hE hP hD hS hA (k_pall _) ((k_pall _).symm) 0 rfl rfl rfl rfl hl.1 rfl (Nat.le_of_ble_eq_true rfl) dX1_askRow_12 ⟨Nat.le_of_ble_eq_true rfl, Nat.le_of_ble_eq_true rfl⟩ (fun H locs hP hD hS => ?_)
  have hP : va_P g.1 vwCl (wH g a (sHC h (upd (hC h) 4 (((hC h) 4) + (nI 1))))) _ := hP
  have hD : va_D A (wH g a (sHC h (upd (hC h) 4 (((hC h) 4) + (nI 1))))) := hD
  refine k_ifeqB (tgt := 23) hx hb dX1_askRow_15 (by decide) (fun c1 => ?_) (fun c1 => ?_)
  ·
    have e2 : (Hask k h) = (sHC h (upd (hC h) 4 (((hC h) 4) + (nI 1)))) := (by first | (simp only [Hask, if_neg c1, if_pos c1]; done) | (simp only [Hask, if_neg c1, if_pos c1]; rfl) | rfl | (simp [Hask, if_neg c1, if_pos c1]; done))
    have hP : va_P g.1 vwCl (wH g a (Hask k h)) H := by rw [e2]; exact hP
    have hD : va_D A (wH g a (Hask k h)) := by rw [e2]; exact hD
    exact k_vret hx hb hr hlocks hP hD hS (Nat.le_of_ble_eq_true rfl) (Nat.le_of_ble_eq_true rfl) dX1_askRow_23
  ·
    refine lv_aload_n hx hb dX1_askRow_18 rfl (lv_at hl 0 rfl) ?_
    refine lv_iload_n hx hb dX1_askRow_19 rfl (lv_at hl 1 rfl) ?_
    refine k_Vv (As := [.int (nI k)]) hF (c_X1_hearCall l g a (sHC h (upd (hC h) 4 (((hC h) 4) + (nI 1)))) k (by omega)) (cwV 1 hts gX1_askRow_X1_hearCall rfl rfl rfl (by decide +kernel) ⟨Nat.le_of_ble_eq_true rfl, Nat.le_of_ble_eq_true rfl⟩) hE hP hD hS hA (k_pall _) ((k_pall _).symm) 0 rfl rfl rfl rfl hl.1 rfl (Nat.le_of_ble_eq_true rfl) dX1_askRow_20 ⟨Nat.le_of_ble_eq_true rfl, Nat.le_of_ble_eq_true rfl⟩ (fun H locs hP hD hS => ?_)
    have hP : va_P g.1 vwCl (wH g a (Hcall k (sHC h (upd (hC h) 4 (((hC h) 4) + (nI 1)))))) _ := hP
    have hD : va_D A (wH g a (Hcall k (sHC h (upd (hC h) 4 (((hC h) 4) + (nI 1)))))) := hD
    obtain ⟨z3, ez3⟩ : ∃ x : HSt, x = (Hcall k (sHC h (upd (hC h) 4 (((hC h) 4) + (nI 1))))) := ⟨_, rfl⟩
    rw [← ez3] at hP hD
    have e4 : (Hask k h) = z3 := (by subst ez3; first | (simp only [Hask, if_pos c1, if_neg (not_not_intro c1)]; done) | (simp only [Hask, if_pos c1, if_neg (not_not_intro c1)]; rfl) | rfl | (simp [Hask, if_pos c1, if_neg (not_not_intro c1)]; done))
    have hP : va_P g.1 vwCl (wH g a (Hask k h)) H := by rw [e4]; exact hP
    have hD : va_D A (wH g a (Hask k h)) := by rw [e4]; exact hD
    exact k_vret hx hb hr hlocks hP hD hS (Nat.le_of_ble_eq_true rfl) (Nat.le_of_ble_eq_true rfl) dX1_askRow_23
set_option maxHeartbeats 4000000 in
set_option maxRecDepth 100000 in
theorem c_X1_hearFarewell (l : Launch) (g : kG) (a : Nat → Nat) (h : HSt) (k : Nat) (hk : k < 48) : KV l yX1_hearFarewell wsX1_hearFarewell ({ frames := 2, cells := 0, slots := 0, locals := 42 }) g [.ref (a 0), .int (nI k)] (wH g a h) (wH g a (Hfare k h)) 0 0 := by
  refine k_begin (cc := cX1_hearFarewell) (maxL := 2) (ret := none) (Qc := fun A => kQv g (wH g a (Hfare k h)) A) (by decide) rfl (Nat.le_of_ble_eq_true rfl) ?_
  intro p e s m below meth c A ls hF hr hlocks hin hE hP hD hS hA hl
  obtain ⟨hx, hb, hml, hown, hts⟩ := id hF
  have hown : s.vm.findClass RX1 = some m.cls := hown
  have hl : lv_has ls 2 [(0, .ref (a 0)), (1, .int (nI k))] := hl
  have hiX1 : ∀ w ∈ wsX10, w ∈ wsX1_hearFarewell := fun _ h => List.mem_cons_of_mem _ (List.mem_append_right _ (h))
  have f25 : (Cond.fieldLink RX1 25 "ConcertUsher$Hall" "isQuick" "Z").before _ s = true := hts _ (List.mem_of_getElem? (i := 1) rfl)
  have f15 : (Cond.fieldLink RX1 15 "ConcertUsher$Hall" "rests" "[I").before _ s = true := hts _ (List.mem_of_getElem? (i := 2) rfl)
  have f38 : (Cond.fieldLink RX1 38 "ConcertUsher$Hall" "patience" "I").before _ s = true := hts _ (List.mem_of_getElem? (i := 3) rfl)
  refine lv_aload_n hx hb dX1_hearFarewell_0 rfl (lv_at hl 0 rfl) ?_
  refine va_get (D := g.1) (ci := 1) (v := .int (hqk h)) (C := RX1) (T := TX1) (N := 12) hx hb hts hiX1 hown hE.1 hP 0 rfl rfl 4 (by decide) f25 (fun _ h9 => h9) rfl dX1_hearFarewell_1 ?_
  refine lv_if_eq (tgt := 25) hx hb dX1_hearFarewell_4 (by decide) (fun c1 => ?_) (fun c1 => ?_)
  ·
    refine lv_aload_n hx hb dX1_hearFarewell_25 rfl (lv_at hl 0 rfl) ?_
    refine va_get (D := g.1) (ci := 1) (v := .ref (a 2)) (C := RX1) (T := TX1) (N := 12) hx hb hts hiX1 hown hE.1 hP 0 rfl rfl 1 (by decide) f15 (fun _ h9 => h9) rfl dX1_hearFarewell_26 ?_
    refine lv_iload_n hx hb dX1_hearFarewell_29 rfl (lv_at hl 1 rfl) ?_
    refine k_iald (f := (hR h)) hx hb hE hP 2 rfl k rfl (by omega) (by decide) dX1_hearFarewell_30 ?_
    refine lv_aload_n hx hb dX1_hearFarewell_31 rfl (lv_at hl 0 rfl) ?_
    refine va_get (D := g.1) (ci := 1) (v := .int (hpt h)) (C := RX1) (T := TX1) (N := 12) hx hb hts hiX1 hown hE.1 hP 0 rfl rfl 8 (by decide) f38 (fun _ h9 => h9) rfl dX1_hearFarewell_32 ?_
    refine lv_icmp_le (tgt := 53) hx hb dX1_hearFarewell_35 (by decide) (fun c2 => ?_) (fun c2 => ?_)
    ·
      have e3 : (Hfare k h) = h := (by first | (simp only [Hfare, Hfare2, if_pos c1, if_neg (not_not_intro c1), if_pos c2, if_neg (not_not_intro c2)]; done) | (simp only [Hfare, Hfare2, if_pos c1, if_neg (not_not_intro c1), if_pos c2, if_neg (not_not_intro c2)]; rfl) | rfl | (simp [Hfare, Hfare2, if_pos c1, if_neg (not_not_intro c1), if_pos c2, if_neg (not_not_intro c2)]; done))
      have hP : va_P g.1 vwCl (wH g a (Hfare k h)) s.heap := by rw [e3]; exact hP
      have hD : va_D A (wH g a (Hfare k h)) := by rw [e3]; exact hD
      exact k_vret hx hb hr hlocks hP hD hS (Nat.le_of_ble_eq_true rfl) (Nat.le_of_ble_eq_true rfl) dX1_hearFarewell_53
    ·
      refine lv_aload_n hx hb dX1_hearFarewell_38 rfl (lv_at hl 0 rfl) ?_
      refine va_get (D := g.1) (ci := 1) (v := .ref (a 2)) (C := RX1) (T := TX1) (N := 12) hx hb hts hiX1 hown hE.1 hP 0 rfl rfl 1 (by decide) f15 (fun _ h9 => h9) rfl dX1_hearFarewell_39 ?_
      refine lv_iload_n hx hb dX1_hearFarewell_42 rfl (lv_at hl 1 rfl) ?_
      refine lv_aload_n hx hb dX1_hearFarewell_43 rfl (lv_at hl 0 rfl) ?_
      refine va_get (D := g.1) (ci := 1) (v := .int (hpt h)) (C := RX1) (T := TX1) (N := 12) hx hb hts hiX1 hown hE.1 hP 0 rfl rfl 8 (by decide) f38 (fun _ h9 => h9) rfl dX1_hearFarewell_44 ?_
      refine k_iast (f := (hR h)) (ws1 := (wH g a (sHR h (upd (hR h) k (hpt h))))) hx hb hE hP hD hS 2 rfl k rfl (by omega) (by decide) rfl dX1_hearFarewell_47 (fun H locs hP hD hS => ?_)
      refine lv_aload_n hx hb dX1_hearFarewell_48 rfl (lv_at hl 0 rfl) ?_
      refine lv_iload_n hx hb dX1_hearFarewell_49 rfl (lv_at hl 1 rfl) ?_
      refine k_Vv (As := [.int (nI k)]) hF (c_X1_askRow l g a (sHR h (upd (hR h) k (hpt h))) k (by omega)) (cwV 1 hts gX1_hearFarewell_X1_askRow rfl rfl rfl (by decide +kernel) ⟨Nat.le_of_ble_eq_true rfl, Nat.le_of_ble_eq_true rfl⟩) hE hP hD hS hA (k_pall _) ((k_pall _).symm) 0 rfl rfl rfl rfl hl.1 rfl (Nat.le_of_ble_eq_true rfl) dX1_hearFarewell_50 ⟨Nat.le_of_ble_eq_true rfl, Nat.le_of_ble_eq_true rfl⟩ (fun H locs hP hD hS => ?_)
      have hP : va_P g.1 vwCl (wH g a (Hask k (sHR h (upd (hR h) k (hpt h))))) _ := hP
      have hD : va_D A (wH g a (Hask k (sHR h (upd (hR h) k (hpt h))))) := hD
      obtain ⟨z4, ez4⟩ : ∃ x : HSt, x = (Hask k (sHR h (upd (hR h) k (hpt h)))) := ⟨_, rfl⟩
      rw [← ez4] at hP hD
      have e5 : (Hfare k h) = z4 := (by subst ez4; first | (simp only [Hfare, Hfare2, if_pos c1, if_neg (not_not_intro c1), if_neg c2, if_pos c2]; done) | (simp only [Hfare, Hfare2, if_pos c1, if_neg (not_not_intro c1), if_neg c2, if_pos c2]; rfl) | rfl | (simp [Hfare, Hfare2, if_pos c1, if_neg (not_not_intro c1), if_neg c2, if_pos c2]; done))
      have hP : va_P g.1 vwCl (wH g a (Hfare k h)) H := by rw [e5]; exact hP
      have hD : va_D A (wH g a (Hfare k h)) := by rw [e5]; exact hD
      exact k_vret hx hb hr hlocks hP hD hS (Nat.le_of_ble_eq_true rfl) (Nat.le_of_ble_eq_true rfl) dX1_hearFarewell_53
  ·
    refine lv_aload_n hx hb dX1_hearFarewell_7 rfl (lv_at hl 0 rfl) ?_
    refine lv_iload_n hx hb dX1_hearFarewell_8 rfl (lv_at hl 1 rfl) ?_
    refine k_Vi (As := [.int (nI k)]) (r := (bI (¬ ((hL h) k) ≤ 0))) hF (c_X1_isWantedAt l g a h k (by omega)) (cwV 1 hts gX1_hearFarewell_X1_isWantedAt rfl rfl rfl (by decide +kernel) ⟨Nat.le_of_ble_eq_true rfl, Nat.le_of_ble_eq_true rfl⟩) hE hP hD hS hA (k_pall _) ((k_pall _).symm) 0 rfl rfl rfl rfl hl.1 rfl (Nat.le_of_ble_eq_true rfl) dX1_hearFarewell_9 ⟨Nat.le_of_ble_eq_true rfl, Nat.le_of_ble_eq_true rfl⟩ (fun H locs hP hD hS => ?_)
    have hP : va_P g.1 vwCl (wH g a h) _ := hP
    have hD : va_D A (wH g a h) := hD
    refine k_ifneB (tgt := 25) hx hb dX1_hearFarewell_12 (by decide) (fun c6 => ?_) (fun c6 => ?_)
    ·
      refine lv_aload_n hx hb dX1_hearFarewell_25 rfl (lv_at hl 0 rfl) ?_
      refine va_get (D := g.1) (ci := 1) (v := .ref (a 2)) (C := RX1) (T := TX1) (N := 12) hx hb hts hiX1 hown hE.1 hP 0 rfl rfl 1 (by decide) f15 (fun _ h9 => h9) rfl dX1_hearFarewell_26 ?_
      refine lv_iload_n hx hb dX1_hearFarewell_29 rfl (lv_at hl 1 rfl) ?_
      refine k_iald (f := (hR h)) hx hb hE hP 2 rfl k rfl (by omega) (by decide) dX1_hearFarewell_30 ?_
      refine lv_aload_n hx hb dX1_hearFarewell_31 rfl (lv_at hl 0 rfl) ?_
      refine va_get (D := g.1) (ci := 1) (v := .int (hpt h)) (C := RX1) (T := TX1) (N := 12) hx hb hts hiX1 hown hE.1 hP 0 rfl rfl 8 (by decide) f38 (fun _ h9 => h9) rfl dX1_hearFarewell_32 ?_
      refine lv_icmp_le (tgt := 53) hx hb dX1_hearFarewell_35 (by decide) (fun c7 => ?_) (fun c7 => ?_)
      ·
        have e8 : (Hfare k h) = h := (by first | (simp only [Hfare, Hfare2, if_neg c1, if_pos c1, if_pos c6, if_neg (not_not_intro c6), if_pos c7, if_neg (not_not_intro c7)]; done) | (simp only [Hfare, Hfare2, if_neg c1, if_pos c1, if_pos c6, if_neg (not_not_intro c6), if_pos c7, if_neg (not_not_intro c7)]; rfl) | rfl | (simp [Hfare, Hfare2, if_neg c1, if_pos c1, if_pos c6, if_neg (not_not_intro c6), if_pos c7, if_neg (not_not_intro c7)]; done))
        have hP : va_P g.1 vwCl (wH g a (Hfare k h)) H := by rw [e8]; exact hP
        have hD : va_D A (wH g a (Hfare k h)) := by rw [e8]; exact hD
        exact k_vret hx hb hr hlocks hP hD hS (Nat.le_of_ble_eq_true rfl) (Nat.le_of_ble_eq_true rfl) dX1_hearFarewell_53
      ·
        refine lv_aload_n hx hb dX1_hearFarewell_38 rfl (lv_at hl 0 rfl) ?_
        refine va_get (D := g.1) (ci := 1) (v := .ref (a 2)) (C := RX1) (T := TX1) (N := 12) hx hb hts hiX1 hown hE.1 hP 0 rfl rfl 1 (by decide) f15 (fun _ h9 => h9) rfl dX1_hearFarewell_39 ?_
        refine lv_iload_n hx hb dX1_hearFarewell_42 rfl (lv_at hl 1 rfl) ?_
        refine lv_aload_n hx hb dX1_hearFarewell_43 rfl (lv_at hl 0 rfl) ?_
        refine va_get (D := g.1) (ci := 1) (v := .int (hpt h)) (C := RX1) (T := TX1) (N := 12) hx hb hts hiX1 hown hE.1 hP 0 rfl rfl 8 (by decide) f38 (fun _ h9 => h9) rfl dX1_hearFarewell_44 ?_
        refine k_iast (f := (hR h)) (ws1 := (wH g a (sHR h (upd (hR h) k (hpt h))))) hx hb hE hP hD hS 2 rfl k rfl (by omega) (by decide) rfl dX1_hearFarewell_47 (fun H locs hP hD hS => ?_)
        refine lv_aload_n hx hb dX1_hearFarewell_48 rfl (lv_at hl 0 rfl) ?_
        refine lv_iload_n hx hb dX1_hearFarewell_49 rfl (lv_at hl 1 rfl) ?_
        refine k_Vv (As := [.int (nI k)]) hF (c_X1_askRow l g a (sHR h (upd (hR h) k (hpt h))) k (by omega)) (cwV 1 hts gX1_hearFarewell_X1_askRow rfl rfl rfl (by decide +kernel) ⟨Nat.le_of_ble_eq_true rfl, Nat.le_of_ble_eq_true rfl⟩) hE hP hD hS hA (k_pall _) ((k_pall _).symm) 0 rfl rfl rfl rfl hl.1 rfl (Nat.le_of_ble_eq_true rfl) dX1_hearFarewell_50 ⟨Nat.le_of_ble_eq_true rfl, Nat.le_of_ble_eq_true rfl⟩ (fun H locs hP hD hS => ?_)
        have hP : va_P g.1 vwCl (wH g a (Hask k (sHR h (upd (hR h) k (hpt h))))) _ := hP
        have hD : va_D A (wH g a (Hask k (sHR h (upd (hR h) k (hpt h))))) := hD
        obtain ⟨z9, ez9⟩ : ∃ x : HSt, x = (Hask k (sHR h (upd (hR h) k (hpt h)))) := ⟨_, rfl⟩
        rw [← ez9] at hP hD
        have e10 : (Hfare k h) = z9 := (by subst ez9; first | (simp only [Hfare, Hfare2, if_neg c1, if_pos c1, if_pos c6, if_neg (not_not_intro c6), if_neg c7, if_pos c7]; done) | (simp only [Hfare, Hfare2, if_neg c1, if_pos c1, if_pos c6, if_neg (not_not_intro c6), if_neg c7, if_pos c7]; rfl) | rfl | (simp [Hfare, Hfare2, if_neg c1, if_pos c1, if_pos c6, if_neg (not_not_intro c6), if_neg c7, if_pos c7]; done))
        have hP : va_P g.1 vwCl (wH g a (Hfare k h)) H := by rw [e10]; exact hP
        have hD : va_D A (wH g a (Hfare k h)) := by rw [e10]; exact hD
        exact k_vret hx hb hr hlocks hP hD hS (Nat.le_of_ble_eq_true rfl) (Nat.le_of_ble_eq_true rfl) dX1_hearFarewell_53
    ·
      refine lv_aload_n hx hb dX1_hearFarewell_15 rfl (lv_at hl 0 rfl) ?_
      refine va_get (D := g.1) (ci := 1) (v := .ref (a 2)) (C := RX1) (T := TX1) (N := 12) hx hb hts hiX1 hown hE.1 hP 0 rfl rfl 1 (by decide) f15 (fun _ h9 => h9) rfl dX1_hearFarewell_16 ?_
      refine lv_iload_n hx hb dX1_hearFarewell_19 rfl (lv_at hl 1 rfl) ?_
      refine lv_iconst (v := (nI 0)) hx hb dX1_hearFarewell_20 (by decide) ?_
      refine k_iast (f := (hR h)) (ws1 := (wH g a (sHR h (upd (hR h) k (nI 0))))) hx hb hE hP hD hS 2 rfl k rfl (by omega) (by decide) rfl dX1_hearFarewell_21 (fun H locs hP hD hS => ?_)
      refine lv_goto (tgt := 53) hx hb dX1_hearFarewell_22 (by decide) ?_
      have e11 : (Hfare k h) = (sHR h (upd (hR h) k (nI 0))) := (by first | (simp only [Hfare, Hfare2, if_neg c1, if_pos c1, if_neg c6, if_pos c6]; done) | (simp only [Hfare, Hfare2, if_neg c1, if_pos c1, if_neg c6, if_pos c6]; rfl) | rfl | (simp [Hfare, Hfare2, if_neg c1, if_pos c1, if_neg c6, if_pos c6]; done))
      have hP : va_P g.1 vwCl (wH g a (Hfare k h)) H := by rw [e11]; exact hP
      have hD : va_D A (wH g a (Hfare k h)) := by rw [e11]; exact hD
      exact k_vret hx hb hr hlocks hP hD hS (Nat.le_of_ble_eq_true rfl) (Nat.le_of_ble_eq_true rfl) dX1_hearFarewell_53
set_option maxHeartbeats 4000000 in
set_option maxRecDepth 100000 in
theorem c_X1_unseat (l : Launch) (g : kG) (a : Nat → Nat) (h : HSt) (k : Nat) (hk : k < 48) (b : Nat) (hb2 : b < 2) : KV l yX1_unseat wsX1_unseat ({ frames := 3, cells := 0, slots := 0, locals := 63 }) g [.ref (a 0), .int (nI k), .int (nI b)] (wH g a h) (wH g a (Hunseat k b h)) 0 0 := by
  refine k_begin (cc := cX1_unseat) (maxL := 3) (ret := none) (Qc := fun A => kQv g (wH g a (Hunseat k b h)) A) (by decide) rfl (Nat.le_of_ble_eq_true rfl) ?_
  intro p e s m below meth c A ls hF hr hlocks hin hE hP hD hS hA hl
  obtain ⟨hx, hb, hml, hown, hts⟩ := id hF
  have hown : s.vm.findClass RX1 = some m.cls := hown
  have hl : lv_has ls 3 [(0, .ref (a 0)), (1, .int (nI k)), (2, .int (nI b))] := hl
  have hiX1 : ∀ w ∈ wsX10, w ∈ wsX1_unseat := fun _ h => List.mem_cons_of_mem _ (List.mem_append_right _ (h))
  have f9 : (Cond.fieldLink RX1 9 "ConcertUsher$Hall" "listeners" "[I").before _ s = true := hts _ (List.mem_of_getElem? (i := 1) rfl)
  refine lv_aload_n hx hb dX1_unseat_0 rfl (lv_at hl 0 rfl) ?_
  refine va_get (D := g.1) (ci := 1) (v := .ref (a 1)) (C := RX1) (T := TX1) (N := 12) hx hb hts hiX1 hown hE.1 hP 0 rfl rfl 0 (by decide) f9 (fun _ h9 => h9) rfl dX1_unseat_1 ?_
  refine lv_iload_n hx hb dX1_unseat_4 rfl (lv_at hl 1 rfl) ?_
  refine lv_dup2_11 hx hb dX1_unseat_5 rfl rfl ?_
  refine k_iald (f := (hL h)) hx hb hE hP 1 rfl k rfl (by omega) (by decide) dX1_unseat_6 ?_
  refine lv_iconst (v := (nI 1)) hx hb dX1_unseat_7 (by decide) ?_
  refine lv_isub hx hb dX1_unseat_8 ?_
  refine k_iast (f := (hL h)) (ws1 := (wH g a (sHL h (upd (hL h) k (((hL h) k) - (nI 1)))))) hx hb hE hP hD hS 1 rfl k rfl (by omega) (by decide) rfl dX1_unseat_9 (fun H locs hP hD hS => ?_)
  refine lv_iload_n hx hb dX1_unseat_10 rfl (lv_at hl 2 rfl) ?_
  refine k_if0 (tgt := 19) hx hb (by omega) dX1_unseat_11 (by decide) (fun c1 => ?_) (fun c1 => ?_)
  ·
    have e2 : (Hunseat k b h) = (sHL h (upd (hL h) k (((hL h) k) - (nI 1)))) := (by first | (simp only [Hunseat, if_pos c1, if_neg (not_not_intro c1)]; done) | (simp only [Hunseat, if_pos c1, if_neg (not_not_intro c1)]; rfl) | rfl | (simp [Hunseat, if_pos c1, if_neg (not_not_intro c1)]; done))
    have hP : va_P g.1 vwCl (wH g a (Hunseat k b h)) H := by rw [e2]; exact hP
    have hD : va_D A (wH g a (Hunseat k b h)) := by rw [e2]; exact hD
    exact k_vret hx hb hr hlocks hP hD hS (Nat.le_of_ble_eq_true rfl) (Nat.le_of_ble_eq_true rfl) dX1_unseat_19
  ·
    refine lv_aload_n hx hb dX1_unseat_14 rfl (lv_at hl 0 rfl) ?_
    refine lv_iload_n hx hb dX1_unseat_15 rfl (lv_at hl 1 rfl) ?_
    refine k_Vv (As := [.int (nI k)]) hF (c_X1_hearFarewell l g a (sHL h (upd (hL h) k (((hL h) k) - (nI 1)))) k (by omega)) (cwV 1 hts gX1_unseat_X1_hearFarewell rfl rfl rfl (by decide +kernel) ⟨Nat.le_of_ble_eq_true rfl, Nat.le_of_ble_eq_true rfl⟩) hE hP hD hS hA (k_pall _) ((k_pall _).symm) 0 rfl rfl rfl rfl hl.1 rfl (Nat.le_of_ble_eq_true rfl) dX1_unseat_16 ⟨Nat.le_of_ble_eq_true rfl, Nat.le_of_ble_eq_true rfl⟩ (fun H locs hP hD hS => ?_)
    have hP : va_P g.1 vwCl (wH g a (Hfare k (sHL h (upd (hL h) k (((hL h) k) - (nI 1)))))) _ := hP
    have hD : va_D A (wH g a (Hfare k (sHL h (upd (hL h) k (((hL h) k) - (nI 1)))))) := hD
    obtain ⟨z3, ez3⟩ : ∃ x : HSt, x = (Hfare k (sHL h (upd (hL h) k (((hL h) k) - (nI 1))))) := ⟨_, rfl⟩
    rw [← ez3] at hP hD
    have e4 : (Hunseat k b h) = z3 := (by subst ez3; first | (simp only [Hunseat, if_neg c1, if_pos c1]; done) | (simp only [Hunseat, if_neg c1, if_pos c1]; rfl) | rfl | (simp [Hunseat, if_neg c1, if_pos c1]; done))
    have hP : va_P g.1 vwCl (wH g a (Hunseat k b h)) H := by rw [e4]; exact hP
    have hD : va_D A (wH g a (Hunseat k b h)) := by rw [e4]; exact hD
    exact k_vret hx hb hr hlocks hP hD hS (Nat.le_of_ble_eq_true rfl) (Nat.le_of_ble_eq_true rfl) dX1_unseat_19
set_option maxHeartbeats 4000000 in
set_option maxRecDepth 100000 in
theorem c_X1_askAllRows (l : Launch) (g : kG) (a : Nat → Nat) (h : HSt) : KV l yX1_askAllRows wsX1_askAllRows ({ frames := 1, cells := 0, slots := 0, locals := 21 }) g [.ref (a 0)] (wH g a h) (wH g a (HaskAll h)) 0 0 := by
  refine k_begin (cc := cX1_askAllRows) (maxL := 2) (ret := none) (Qc := fun A => kQv g (wH g a (HaskAll h)) A) (by decide) rfl (Nat.le_of_ble_eq_true rfl) ?_
  intro p e s m below meth c A ls hF hr hlocks hin hE hP hD hS hA hl
  obtain ⟨hx, hb, hml, hown, hts⟩ := id hF
  have hown : s.vm.findClass RX1 = some m.cls := hown
  have hl : lv_has ls 2 [(0, .ref (a 0))] := hl
  have hiX1 : ∀ w ∈ wsX10, w ∈ wsX1_askAllRows := fun _ h => List.mem_cons_of_mem _ (List.mem_append_right _ (h))
  have f18 : (Cond.fieldLink RX1 18 "ConcertUsher$Hall" "counts" "[I").before _ s = true := hts _ (List.mem_of_getElem? (i := 1) rfl)
  refine lv_aload_n hx hb dX1_askAllRows_0 rfl (lv_at hl 0 rfl) ?_
  refine va_get (D := g.1) (ci := 1) (v := .ref (a 3)) (C := RX1) (T := TX1) (N := 12) hx hb hts hiX1 hown hE.1 hP 0 rfl rfl 2 (by decide) f18 (fun _ h9 => h9) rfl dX1_askAllRows_1 ?_
  refine lv_iconst (v := (nI 3)) hx hb dX1_askAllRows_4 (by decide) ?_
  refine lv_dup2_11 hx hb dX1_askAllRows_5 rfl rfl ?_
  refine k_iald (f := (hC h)) hx hb hE hP 3 rfl 3 rfl (by decide) (by decide) dX1_askAllRows_6 ?_
  refine lv_iconst (v := (nI 1)) hx hb dX1_askAllRows_7 (by decide) ?_
  refine lv_iadd hx hb dX1_askAllRows_8 ?_
  refine k_iast (f := (hC h)) (ws1 := (wH g a (sHC h (upd (hC h) 3 (((hC h) 3) + (nI 1)))))) hx hb hE hP hD hS 3 rfl 3 rfl (by decide) (by decide) rfl dX1_askAllRows_9 (fun H locs hP hD hS => ?_)
  refine lv_iconst (v := (nI 0)) hx hb dX1_askAllRows_10 (by decide) ?_
  refine lv_istore_n (lv' := [(1, .int (nI 0)), (0, .ref (a 0))]) hx hb dX1_askAllRows_11 rfl hl (by decide) rfl (fun ls hl => ?_)
  refine k_loop (N := 48) (Inv := fun (i : Nat) (H : Heap) (locs : List Loc) (ls : Array Slot) => va_P g.1 vwCl (wH g a (HaskN (Hcnt 3 h) i)) H ∧ va_D A (wH g a (HaskN (Hcnt 3 h) i)) ∧ va_S A s.heap H locs ∧ lv_has ls 2 [(1, .int (nI i)), (0, .ref (a 0))]) 0 (Nat.zero_le _) ⟨hP, hD, hS, lv_sub hl [0, 1] rfl⟩ (fun i hle2 ih1 H locs ls hinv => ?_)
  obtain ⟨hP, hD, hS, hl⟩ := hinv
  obtain ⟨z3, ez3⟩ : ∃ x : HSt, x = (HaskN (Hcnt 3 h) i) := ⟨_, rfl⟩
  rw [← ez3] at hP hD
  refine lv_iload_n hx hb dX1_askAllRows_12 rfl (lv_at hl 0 rfl) ?_
  refine lv_bipush (v := (nI 48)) hx hb dX1_askAllRows_13 (by decide) ?_
  refine k_geN (tgt := 37) hx hb (by omega) (by decide) dX1_askAllRows_15 (by decide) (fun c4 => ?_) (fun c4 => ?_)
  ·
    obtain rfl : 48 = i := by omega
    have e5 : (HaskAll h) = (HaskN (Hcnt 3 h) 48) := (by subst ez3; first | (simp only [HaskAll, if_pos c4, if_neg (not_not_intro c4)]; done) | (simp only [HaskAll, if_pos c4, if_neg (not_not_intro c4)]; rfl) | rfl | (simp [HaskAll, if_pos c4, if_neg (not_not_intro c4)]; done))
    have hP : va_P g.1 vwCl (wH g a (HaskAll h)) H := by rw [e5]; exact hP
    have hD : va_D A (wH g a (HaskAll h)) := by rw [e5]; exact hD
    exact k_vret hx hb hr hlocks hP hD hS (Nat.le_of_ble_eq_true rfl) (Nat.le_of_ble_eq_true rfl) dX1_askAllRows_37
  ·
    refine lv_aload_n hx hb dX1_askAllRows_18 rfl (lv_at hl 1 rfl) ?_
    refine lv_iload_n hx hb dX1_askAllRows_19 rfl (lv_at hl 0 rfl) ?_
    refine k_Vi (As := [.int (nI i)]) (r := (bI (¬ ((hL z3) i) ≤ 0))) hF (c_X1_isWantedAt l g a z3 i (by omega)) (cwV 1 hts gX1_askAllRows_X1_isWantedAt rfl rfl rfl (by decide +kernel) ⟨Nat.le_of_ble_eq_true rfl, Nat.le_of_ble_eq_true rfl⟩) hE hP hD hS hA (k_pall _) ((k_pall _).symm) 0 rfl rfl rfl rfl hl.1 rfl (Nat.le_of_ble_eq_true rfl) dX1_askAllRows_20 ⟨Nat.le_of_ble_eq_true rfl, Nat.le_of_ble_eq_true rfl⟩ (fun H locs hP hD hS => ?_)
    have hP : va_P g.1 vwCl (wH g a z3) _ := hP
    have hD : va_D A (wH g a z3) := hD
    refine k_ifeqB (tgt := 31) hx hb dX1_askAllRows_23 (by decide) (fun c6 => ?_) (fun c6 => ?_)
    ·
      refine lv_iinc (v := (nI (i + 1))) (lv' := [(1, .int (nI (i + 1))), (0, .ref (a 0))]) hx hb dX1_askAllRows_31 hl (k := 0) rfl (k_inc1 _) (by decide) rfl (fun ls hl => ?_)
      refine lv_goto (tgt := 12) hx hb dX1_askAllRows_34 (by decide) ?_
      have e7 : (HaskN (Hcnt 3 h) (i + 1)) = z3 := (by subst ez3; first | (simp only [HaskAll, HaskN, if_neg (Nat.not_le.mpr c4), if_pos (Nat.not_le.mpr c4), if_neg c6, if_pos c6]; done) | (simp only [HaskAll, HaskN, if_neg (Nat.not_le.mpr c4), if_pos (Nat.not_le.mpr c4), if_neg c6, if_pos c6]; rfl) | rfl | (simp [HaskAll, HaskN, if_neg (Nat.not_le.mpr c4), if_pos (Nat.not_le.mpr c4), if_neg c6, if_pos c6]; done))
      exact ih1 _ _ _ (by omega) ⟨(by rw [e7]; exact hP), (by rw [e7]; exact hD), hS, lv_sub hl [0, 1] rfl⟩
    ·
      refine lv_aload_n hx hb dX1_askAllRows_26 rfl (lv_at hl 1 rfl) ?_
      refine lv_iload_n hx hb dX1_askAllRows_27 rfl (lv_at hl 0 rfl) ?_
      refine k_Vv (As := [.int (nI i)]) hF (c_X1_hearCall l g a z3 i (by omega)) (cwV 1 hts gX1_askAllRows_X1_hearCall rfl rfl rfl (by decide +kernel) ⟨Nat.le_of_ble_eq_true rfl, Nat.le_of_ble_eq_true rfl⟩) hE hP hD hS hA (k_pall _) ((k_pall _).symm) 0 rfl rfl rfl rfl hl.1 rfl (Nat.le_of_ble_eq_true rfl) dX1_askAllRows_28 ⟨Nat.le_of_ble_eq_true rfl, Nat.le_of_ble_eq_true rfl⟩ (fun H locs hP hD hS => ?_)
      have hP : va_P g.1 vwCl (wH g a (Hcall i z3)) _ := hP
      have hD : va_D A (wH g a (Hcall i z3)) := hD
      obtain ⟨z8, ez8⟩ : ∃ x : HSt, x = (Hcall i z3) := ⟨_, rfl⟩
      rw [← ez8] at hP hD
      refine lv_iinc (v := (nI (i + 1))) (lv' := [(1, .int (nI (i + 1))), (0, .ref (a 0))]) hx hb dX1_askAllRows_31 hl (k := 0) rfl (k_inc1 _) (by decide) rfl (fun ls hl => ?_)
      refine lv_goto (tgt := 12) hx hb dX1_askAllRows_34 (by decide) ?_
      have e9 : (HaskN (Hcnt 3 h) (i + 1)) = z8 := (by subst ez8; subst ez3; first | (simp only [HaskAll, HaskN, if_neg (Nat.not_le.mpr c4), if_pos (Nat.not_le.mpr c4), if_pos c6, if_neg (not_not_intro c6)]; done) | (simp only [HaskAll, HaskN, if_neg (Nat.not_le.mpr c4), if_pos (Nat.not_le.mpr c4), if_pos c6, if_neg (not_not_intro c6)]; rfl) | rfl | (simp [HaskAll, HaskN, if_neg (Nat.not_le.mpr c4), if_pos (Nat.not_le.mpr c4), if_pos c6, if_neg (not_not_intro c6)]; done))
      exact ih1 _ _ _ (by omega) ⟨(by rw [e9]; exact hP), (by rw [e9]; exact hD), hS, lv_sub hl [0, 1] rfl⟩
set_option maxHeartbeats 4000000 in
set_option maxRecDepth 100000 in
theorem c_X1_isRowOpen (l : Launch) (g : kG) (a : Nat → Nat) (h : HSt) (r : Nat) (hr8 : r < 8) : KI l yX1_isRowOpen wsX1_isRowOpen ({ frames := 0, cells := 0, slots := 0, locals := 0 }) g [.ref (a 0), .int (nI r)] (wH g a h) (bI (Hopen h r)) (wH g a h) 0 0 := by
  refine k_begin (cc := cX1_isRowOpen) (maxL := 2) (ret := (some .boolean)) (Qc := fun A => kQi g (bI (Hopen h r)) (wH g a h) A) (by decide) rfl (Nat.le_of_ble_eq_true rfl) ?_
  intro p e s m below meth c A ls hF hr hlocks hin hE hP hD hS hA hl
  obtain ⟨hx, hb, hml, hown, hts⟩ := id hF
  have hown : s.vm.findClass RX1 = some m.cls := hown
  have hl : lv_has ls 2 [(0, .ref (a 0)), (1, .int (nI r))] := hl
  have hiX1 : ∀ w ∈ wsX10, w ∈ wsX1_isRowOpen := fun _ h => List.mem_cons_of_mem _ (List.mem_append_right _ (h))
  have f21 : (Cond.fieldLink RX1 21 "ConcertUsher$Hall" "openRows" "I").before _ s = true := hts _ (List.mem_of_getElem? (i := 1) rfl)
  refine lv_aload_n hx hb dX1_isRowOpen_0 rfl (lv_at hl 0 rfl) ?_
  refine va_get (D := g.1) (ci := 1) (v := .int (hop h)) (C := RX1) (T := TX1) (N := 12) hx hb hts hiX1 hown hE.1 hP 0 rfl rfl 3 (by decide) f21 (fun _ h9 => h9) rfl dX1_isRowOpen_1 ?_
  refine lv_iload_n hx hb dX1_isRowOpen_4 rfl (lv_at hl 1 rfl) ?_
  refine lv_ishr hx hb dX1_isRowOpen_5 ?_
  refine lv_iconst (v := (nI 1)) hx hb dX1_isRowOpen_6 (by decide) ?_
  refine lv_iand hx hb dX1_isRowOpen_7 ?_
  refine lv_iconst (v := (nI 1)) hx hb dX1_isRowOpen_8 (by decide) ?_
  refine lv_icmp_ne (tgt := 16) hx hb dX1_isRowOpen_9 (by decide) (fun c1 => ?_) (fun c1 => ?_)
  ·
    refine lv_iconst (v := (nI 0)) hx hb dX1_isRowOpen_16 (by decide) ?_
    have hP : va_P g.1 vwCl (wH g a h) _ := hP
    have hD : va_D A (wH g a h) := hD
    exact k_iret hx hb hr hlocks rfl (by first | (simp only [bI, if_neg c1, if_pos c1]; done) | (simp only [bI, if_neg c1, if_pos c1]; rfl) | rfl | (simp [bI, if_neg c1, if_pos c1]; done)) hP hD hS (Nat.le_of_ble_eq_true rfl) (Nat.le_of_ble_eq_true rfl) dX1_isRowOpen_17
  ·
    refine lv_iconst (v := (nI 1)) hx hb dX1_isRowOpen_12 (by decide) ?_
    refine lv_goto (tgt := 17) hx hb dX1_isRowOpen_13 (by decide) ?_
    have hP : va_P g.1 vwCl (wH g a h) _ := hP
    have hD : va_D A (wH g a h) := hD
    exact k_iret hx hb hr hlocks rfl (by first | (simp only [bI, if_pos c1, if_neg (not_not_intro c1)]; done) | (simp only [bI, if_pos c1, if_neg (not_not_intro c1)]; rfl) | rfl | (simp [bI, if_pos c1, if_neg (not_not_intro c1)]; done)) hP hD hS (Nat.le_of_ble_eq_true rfl) (Nat.le_of_ble_eq_true rfl) dX1_isRowOpen_17
set_option maxHeartbeats 4000000 in
set_option maxRecDepth 100000 in
theorem c_X1_turnRow (l : Launch) (g : kG) (a : Nat → Nat) (h : HSt) (r : Nat) (hr8 : r < 8) : KV l yX1_turnRow wsX1_turnRow ({ frames := 0, cells := 0, slots := 0, locals := 0 }) g [.ref (a 0), .int (nI r)] (wH g a h) (wH g a (Hturn r h)) 0 0 := by
  refine k_begin (cc := cX1_turnRow) (maxL := 2) (ret := none) (Qc := fun A => kQv g (wH g a (Hturn r h)) A) (by decide) rfl (Nat.le_of_ble_eq_true rfl) ?_
  intro p e s m below meth c A ls hF hr hlocks hin hE hP hD hS hA hl
  obtain ⟨hx, hb, hml, hown, hts⟩ := id hF
  have hown : s.vm.findClass RX1 = some m.cls := hown
  have hl : lv_has ls 2 [(0, .ref (a 0)), (1, .int (nI r))] := hl
  have hiX1 : ∀ w ∈ wsX10, w ∈ wsX1_turnRow := fun _ h => List.mem_cons_of_mem _ (List.mem_append_right _ (h))
  have f21 : (Cond.fieldLink RX1 21 "ConcertUsher$Hall" "openRows" "I").before _ s = true := hts _ (List.mem_of_getElem? (i := 1) rfl)
  refine lv_aload_n hx hb dX1_turnRow_0 rfl (lv_at hl 0 rfl) ?_
  refine lv_dup hx hb dX1_turnRow_1 rfl ?_
  refine va_get (D := g.1) (ci := 1) (v := .int (hop h)) (C := RX1) (T := TX1) (N := 12) hx hb hts hiX1 hown hE.1 hP 0 rfl rfl 3 (by decide) f21 (fun _ h9 => h9) rfl dX1_turnRow_2 ?_
  refine lv_iconst (v := (nI 1)) hx hb dX1_turnRow_5 (by decide) ?_
  refine lv_iload_n hx hb dX1_turnRow_6 rfl (lv_at hl 1 rfl) ?_
  refine lv_ishl hx hb dX1_turnRow_7 ?_
  refine lv_ixor hx hb dX1_turnRow_8 ?_
  refine va_put (D := g.1) (ci := 1) (v := .int ((hop h) ^^^ ((nI 1) <<< ((nI r) &&& 31)))) (ty := .int) (C := RX1) (T := TX1) (N := 12) hx hb hts hiX1 tyX1 tyX1_ok nmX1 hown hE.1 hP hD hS 0 rfl rfl 3 (by decide) f21 (fun _ h9 => h9) rfl (tyX1_ok 3 (by decide)) rfl rfl (Nat.le_of_ble_eq_true rfl) dX1_turnRow_9 (fun H locs hP hD hS => ?_)
  have hP : va_P g.1 vwCl (wH g a (sHop h ((hop h) ^^^ ((nI 1) <<< ((nI r) &&& 31))))) _ := hP
  have hD : va_D A (wH g a (sHop h ((hop h) ^^^ ((nI 1) <<< ((nI r) &&& 31))))) := hD
  have hP : va_P g.1 vwCl (wH g a (Hturn r h)) _ := hP
  have hD : va_D A (wH g a (Hturn r h)) := hD
  exact k_vret hx hb hr hlocks hP hD hS (Nat.le_of_ble_eq_true rfl) (Nat.le_of_ble_eq_true rfl) dX1_turnRow_12
set_option maxHeartbeats 4000000 in
set_option maxRecDepth 100000 in
theorem c_X1_chiefAsker (l : Launch) (g : kG) (a : Nat → Nat) (h : HSt) : KI l yX1_chiefAsker wsX1_chiefAsker ({ frames := 0, cells := 0, slots := 0, locals := 0 }) g [.ref (a 0)] (wH g a h) (Hchief h) (wH g a h) 0 0 := by
  refine k_begin (cc := cX1_chiefAsker) (maxL := 1) (ret := (some .int)) (Qc := fun A => kQi g (Hchief h) (wH g a h) A) (by decide) rfl (Nat.le_of_ble_eq_true rfl) ?_
  intro p e s m below meth c A ls hF hr hlocks hin hE hP hD hS hA hl
  obtain ⟨hx, hb, hml, hown, hts⟩ := id hF
  have hown : s.vm.findClass RX1 = some m.cls := hown
  have hl : lv_has ls 1 [(0, .ref (a 0))] := hl
  have hiX1 : ∀ w ∈ wsX10, w ∈ wsX1_chiefAsker := fun _ h => List.mem_cons_of_mem _ (List.mem_append_right _ (h))
  have f32 : (Cond.fieldLink RX1 32 "ConcertUsher$Hall" "isSecondPresent" "Z").before _ s = true := hts _ (List.mem_of_getElem? (i := 1) rfl)
  have f29 : (Cond.fieldLink RX1 29 "ConcertUsher$Hall" "isFirstPresent" "Z").before _ s = true := hts _ (List.mem_of_getElem? (i := 2) rfl)
  refine lv_aload_n hx hb dX1_chiefAsker_0 rfl (lv_at hl 0 rfl) ?_
  refine va_get (D := g.1) (ci := 1) (v := .int (hf2 h)) (C := RX1) (T := TX1) (N := 12) hx hb hts hiX1 hown hE.1 hP 0 rfl rfl 6 (by decide) f32 (fun _ h9 => h9) rfl dX1_chiefAsker_1 ?_
  refine lv_if_eq (tgt := 9) hx hb dX1_chiefAsker_4 (by decide) (fun c1 => ?_) (fun c1 => ?_)
  ·
    refine lv_aload_n hx hb dX1_chiefAsker_9 rfl (lv_at hl 0 rfl) ?_
    refine va_get (D := g.1) (ci := 1) (v := .int (hf1 h)) (C := RX1) (T := TX1) (N := 12) hx hb hts hiX1 hown hE.1 hP 0 rfl rfl 5 (by decide) f29 (fun _ h9 => h9) rfl dX1_chiefAsker_10 ?_
    refine lv_if_eq (tgt := 20) hx hb dX1_chiefAsker_13 (by decide) (fun c2 => ?_) (fun c2 => ?_)
    ·
      refine lv_iconst (v := (nI 0)) hx hb dX1_chiefAsker_20 (by decide) ?_
      have hP : va_P g.1 vwCl (wH g a h) _ := hP
      have hD : va_D A (wH g a h) := hD
      exact k_iret hx hb hr hlocks rfl (by first | (simp only [Hchief, bI, if_pos c1, if_neg (not_not_intro c1), if_pos c2, if_neg (not_not_intro c2)]; done) | (simp only [Hchief, bI, if_pos c1, if_neg (not_not_intro c1), if_pos c2, if_neg (not_not_intro c2)]; rfl) | rfl | (simp [Hchief, bI, if_pos c1, if_neg (not_not_intro c1), if_pos c2, if_neg (not_not_intro c2)]; done)) hP hD hS (Nat.le_of_ble_eq_true rfl) (Nat.le_of_ble_eq_true rfl) dX1_chiefAsker_21
    ·
      refine lv_iconst (v := (nI 1)) hx hb dX1_chiefAsker_16 (by decide) ?_
      refine lv_goto (tgt := 21) hx hb dX1_chiefAsker_17 (by decide) ?_
      have hP : va_P g.1 vwCl (wH g a h) _ := hP
      have hD : va_D A (wH g a h) := hD
      exact k_iret hx hb hr hlocks rfl (by first | (simp only [Hchief, bI, if_pos c1, if_neg (not_not_intro c1), if_neg c2, if_pos c2]; done) | (simp only [Hchief, bI, if_pos c1, if_neg (not_not_intro c1), if_neg c2, if_pos c2]; rfl) | rfl | (simp [Hchief, bI, if_pos c1, if_neg (not_not_intro c1), if_neg c2, if_pos c2]; done)) hP hD hS (Nat.le_of_ble_eq_true rfl) (Nat.le_of_ble_eq_true rfl) dX1_chiefAsker_21
  ·
    refine lv_iconst (v := (nI 2)) hx hb dX1_chiefAsker_7 (by decide) ?_
    have hP : va_P g.1 vwCl (wH g a h) _ := hP
    have hD : va_D A (wH g a h) := hD
    exact k_iret hx hb hr hlocks rfl (by first | (simp only [Hchief, bI, if_neg c1, if_pos c1]; done) | (simp only [Hchief, bI, if_neg c1, if_pos c1]; rfl) | rfl | (simp [Hchief, bI, if_neg c1, if_pos c1]; done)) hP hD hS (Nat.le_of_ble_eq_true rfl) (Nat.le_of_ble_eq_true rfl) dX1_chiefAsker_8
set_option maxHeartbeats 4000000 in
set_option maxRecDepth 100000 in
theorem c_X1_entriesInAll (l : Launch) (g : kG) (a : Nat → Nat) (h : HSt) : KI l yX1_entriesInAll wsX1_entriesInAll ({ frames := 0, cells := 0, slots := 0, locals := 0 }) g [.ref (a 0)] (wH g a h) (nI (Hent (hR h) 48)) (wH g a h) 0 0 := by
  refine k_begin (cc := cX1_entriesInAll) (maxL := 3) (ret := (some .int)) (Qc := fun A => kQi g (nI (Hent (hR h) 48)) (wH g a h) A) (by decide) rfl (Nat.le_of_ble_eq_true rfl) ?_
  intro p e s m below meth c A ls hF hr hlocks hin hE hP hD hS hA hl
  obtain ⟨hx, hb, hml, hown, hts⟩ := id hF
  have hown : s.vm.findClass RX1 = some m.cls := hown
  have hl : lv_has ls 3 [(0, .ref (a 0))] := hl
  have hiX1 : ∀ w ∈ wsX10, w ∈ wsX1_entriesInAll := fun _ h => List.mem_cons_of_mem _ (List.mem_append_right _ (h))
  have f15 : (Cond.fieldLink RX1 15 "ConcertUsher$Hall" "rests" "[I").before _ s = true := hts _ (List.mem_of_getElem? (i := 1) rfl)
  refine lv_iconst (v := (nI 0)) hx hb dX1_entriesInAll_0 (by decide) ?_
  refine lv_istore_n (lv' := [(1, .int (nI 0)), (0, .ref (a 0))]) hx hb dX1_entriesInAll_1 rfl hl (by decide) rfl (fun ls hl => ?_)
  refine lv_iconst (v := (nI 0)) hx hb dX1_entriesInAll_2 (by decide) ?_
  refine lv_istore_n (lv' := [(2, .int (nI 0)), (1, .int (nI 0)), (0, .ref (a 0))]) hx hb dX1_entriesInAll_3 rfl hl (by decide) rfl (fun ls hl => ?_)
  refine k_loop (N := 48) (Inv := fun (i : Nat) (H : Heap) (locs : List Loc) (ls : Array Slot) => va_P g.1 vwCl (wH g a h) H ∧ va_D A (wH g a h) ∧ va_S A s.heap H locs ∧ lv_has ls 3 [(2, .int (nI i)), (1, .int (nI (Hent (hR h) i))), (0, .ref (a 0))]) 0 (Nat.zero_le _) ⟨hP, hD, hS, lv_sub hl [0, 1, 2] rfl⟩ (fun i hle2 ih1 H locs ls hinv => ?_)
  obtain ⟨hP, hD, hS, hl⟩ := hinv
  refine lv_iload_n hx hb dX1_entriesInAll_4 rfl (lv_at hl 0 rfl) ?_
  refine lv_bipush (v := (nI 48)) hx hb dX1_entriesInAll_5 (by decide) ?_
  refine k_geN (tgt := 28) hx hb (by omega) (by decide) dX1_entriesInAll_7 (by decide) (fun c3 => ?_) (fun c3 => ?_)
  ·
    obtain rfl : 48 = i := by omega
    refine lv_iload_n hx hb dX1_entriesInAll_28 rfl (lv_at hl 1 rfl) ?_
    have hP : va_P g.1 vwCl (wH g a h) _ := hP
    have hD : va_D A (wH g a h) := hD
    exact k_iret hx hb hr hlocks rfl rfl hP hD hS (Nat.le_of_ble_eq_true rfl) (Nat.le_of_ble_eq_true rfl) dX1_entriesInAll_29
  ·
    refine lv_aload_n hx hb dX1_entriesInAll_10 rfl (lv_at hl 2 rfl) ?_
    refine va_get (D := g.1) (ci := 1) (v := .ref (a 2)) (C := RX1) (T := TX1) (N := 12) hx hb hts hiX1 hown hE.1 hP 0 rfl rfl 1 (by decide) f15 (fun _ h9 => h9) rfl dX1_entriesInAll_11 ?_
    refine lv_iload_n hx hb dX1_entriesInAll_14 rfl (lv_at hl 0 rfl) ?_
    refine k_iald (f := (hR h)) hx hb hE hP 2 rfl i rfl (by omega) (by decide) dX1_entriesInAll_15 ?_
    refine lv_if_le (tgt := 22) hx hb dX1_entriesInAll_16 (by decide) (fun c4 => ?_) (fun c4 => ?_)
    ·
      refine lv_iinc (v := (nI (i + 1))) (lv' := [(2, .int (nI (i + 1))), (1, .int (nI (Hent (hR h) i))), (0, .ref (a 0))]) hx hb dX1_entriesInAll_22 hl (k := 0) rfl (k_inc1 _) (by decide) rfl (fun ls hl => ?_)
      refine lv_goto (tgt := 4) hx hb dX1_entriesInAll_25 (by decide) ?_
      have e5 : (nI (Hent (hR h) (i + 1))) = (nI (Hent (hR h) i)) := (by first | (simp only [Hent, bI, if_neg (Nat.not_le.mpr c3), if_pos (Nat.not_le.mpr c3), if_pos c4, if_neg (not_not_intro c4)]; done) | (simp only [Hent, bI, if_neg (Nat.not_le.mpr c3), if_pos (Nat.not_le.mpr c3), if_pos c4, if_neg (not_not_intro c4)]; rfl) | rfl | (simp [Hent, bI, if_neg (Nat.not_le.mpr c3), if_pos (Nat.not_le.mpr c3), if_pos c4, if_neg (not_not_intro c4)]; done))
      exact ih1 _ _ _ (by omega) ⟨hP, hD, hS, (by rw [e5]; exact lv_sub hl [0, 1, 2] rfl)⟩
    ·
      refine lv_iinc (v := (nI ((Hent (hR h) i) + 1))) (lv' := [(1, .int (nI ((Hent (hR h) i) + 1))), (2, .int (nI i)), (0, .ref (a 0))]) hx hb dX1_entriesInAll_19 hl (k := 1) rfl (k_inc1 _) (by decide) rfl (fun ls hl => ?_)
      refine lv_iinc (v := (nI (i + 1))) (lv' := [(2, .int (nI (i + 1))), (1, .int (nI ((Hent (hR h) i) + 1))), (0, .ref (a 0))]) hx hb dX1_entriesInAll_22 hl (k := 1) rfl (k_inc1 _) (by decide) rfl (fun ls hl => ?_)
      refine lv_goto (tgt := 4) hx hb dX1_entriesInAll_25 (by decide) ?_
      have e6 : (nI (Hent (hR h) (i + 1))) = (nI ((Hent (hR h) i) + 1)) := (by first | (simp only [Hent, bI, if_neg (Nat.not_le.mpr c3), if_pos (Nat.not_le.mpr c3), if_neg c4, if_pos c4]; done) | (simp only [Hent, bI, if_neg (Nat.not_le.mpr c3), if_pos (Nat.not_le.mpr c3), if_neg c4, if_pos c4]; rfl) | rfl | (simp [Hent, bI, if_neg (Nat.not_le.mpr c3), if_pos (Nat.not_le.mpr c3), if_neg c4, if_pos c4]; done))
      exact ih1 _ _ _ (by omega) ⟨hP, hD, hS, (by rw [e6]; exact lv_sub hl [0, 1, 2] rfl)⟩
set_option maxHeartbeats 4000000 in
set_option maxRecDepth 100000 in
theorem c_X1_rowsThatGet (l : Launch) (g : kG) (a : Nat → Nat) (h : HSt) (c0 : Nat) (hc0 : c0 < 6) : KI l yX1_rowsThatGet wsX1_rowsThatGet ({ frames := 1, cells := 0, slots := 0, locals := 21 }) g [.ref (a 0), .int (nI c0)] (wH g a h) (Hget h c0 8) (wH g a h) 0 0 := by
  refine k_begin (cc := cX1_rowsThatGet) (maxL := 4) (ret := (some .int)) (Qc := fun A => kQi g (Hget h c0 8) (wH g a h) A) (by decide) rfl (Nat.le_of_ble_eq_true rfl) ?_
  intro p e s m below meth c A ls hF hr hlocks hin hE hP hD hS hA hl
  obtain ⟨hx, hb, hml, hown, hts⟩ := id hF
  have hown : s.vm.findClass RX1 = some m.cls := hown
  have hl : lv_has ls 4 [(0, .ref (a 0)), (1, .int (nI c0))] := hl
  have hiX1 : ∀ w ∈ wsX10, w ∈ wsX1_rowsThatGet := fun _ h => List.mem_cons_of_mem _ (List.mem_append_right _ (h))
  have f21 : (Cond.fieldLink RX1 21 "ConcertUsher$Hall" "openRows" "I").before _ s = true := hts _ (List.mem_of_getElem? (i := 1) rfl)
  have f15 : (Cond.fieldLink RX1 15 "ConcertUsher$Hall" "rests" "[I").before _ s = true := hts _ (List.mem_of_getElem? (i := 2) rfl)
  have sta_X3_placeOf : (Cond.static yX3_placeOf).before _ s = true := hts _ (List.mem_of_getElem? (i := 3) rfl)
  have ini_X3 : (Cond.initialized RX3).before _ s = true := hts _ (List.mem_of_getElem? (i := 4) rfl)
  refine lv_aload_n hx hb dX1_rowsThatGet_0 rfl (lv_at hl 0 rfl) ?_
  refine va_get (D := g.1) (ci := 1) (v := .int (hop h)) (C := RX1) (T := TX1) (N := 12) hx hb hts hiX1 hown hE.1 hP 0 rfl rfl 3 (by decide) f21 (fun _ h9 => h9) rfl dX1_rowsThatGet_1 ?_
  refine lv_istore_n (lv' := [(2, .int (hop h)), (0, .ref (a 0)), (1, .int (nI c0))]) hx hb dX1_rowsThatGet_4 rfl hl (by decide) rfl (fun ls hl => ?_)
  refine lv_iconst (v := (nI 0)) hx hb dX1_rowsThatGet_5 (by decide) ?_
  refine lv_istore_n (lv' := [(3, .int (nI 0)), (2, .int (hop h)), (0, .ref (a 0)), (1, .int (nI c0))]) hx hb dX1_rowsThatGet_6 rfl hl (by decide) rfl (fun ls hl => ?_)
  refine k_loop (N := 8) (Inv := fun (i : Nat) (H : Heap) (locs : List Loc) (ls : Array Slot) => va_P g.1 vwCl (wH g a h) H ∧ va_D A (wH g a h) ∧ va_S A s.heap H locs ∧ lv_has ls 4 [(3, .int (nI i)), (2, .int (Hget h c0 i)), (0, .ref (a 0)), (1, .int (nI c0))]) 0 (Nat.zero_le _) ⟨hP, hD, hS, lv_sub hl [0, 1, 2, 3] rfl⟩ (fun i hle2 ih1 H locs ls hinv => ?_)
  obtain ⟨hP, hD, hS, hl⟩ := hinv
  refine lv_iload_n hx hb dX1_rowsThatGet_7 rfl (lv_at hl 0 rfl) ?_
  refine lv_bipush (v := (nI 8)) hx hb dX1_rowsThatGet_8 (by decide) ?_
  refine k_geN (tgt := 38) hx hb (by omega) (by decide) dX1_rowsThatGet_10 (by decide) (fun c3 => ?_) (fun c3 => ?_)
  ·
    obtain rfl : 8 = i := by omega
    refine lv_iload_n hx hb dX1_rowsThatGet_38 rfl (lv_at hl 1 rfl) ?_
    have hP : va_P g.1 vwCl (wH g a h) _ := hP
    have hD : va_D A (wH g a h) := hD
    exact k_iret hx hb hr hlocks rfl rfl hP hD hS (Nat.le_of_ble_eq_true rfl) (Nat.le_of_ble_eq_true rfl) dX1_rowsThatGet_39
  ·
    refine lv_aload_n hx hb dX1_rowsThatGet_13 rfl (lv_at hl 2 rfl) ?_
    refine va_get (D := g.1) (ci := 1) (v := .ref (a 2)) (C := RX1) (T := TX1) (N := 12) hx hb hts hiX1 hown hE.1 hP 0 rfl rfl 1 (by decide) f15 (fun _ h9 => h9) rfl dX1_rowsThatGet_14 ?_
    refine lv_iload_n hx hb dX1_rowsThatGet_17 rfl (lv_at hl 0 rfl) ?_
    refine lv_iload_n hx hb dX1_rowsThatGet_18 rfl (lv_at hl 3 rfl) ?_
    refine k_SNi (w0 := []) (w1 := []) (As := [.int (nI i), .int (nI c0)]) (r := (nI (i * 6 + c0))) hF (c_X3_placeOf l g i c0) ⟨va_cnB 2 hts gX1_rowsThatGet_X3_placeOf_n70 rfl rfl rfl hE.2.1.1 ini_X3 (by decide +kernel) ⟨Nat.le_of_ble_eq_true rfl, Nat.le_of_ble_eq_true rfl⟩, sta_X3_placeOf, trivial⟩ hE hP hD hS hA (List.Perm.refl _) (List.Perm.refl _) rfl hl.1 rfl (Nat.le_of_ble_eq_true rfl) dX1_rowsThatGet_19 ⟨Nat.le_of_ble_eq_true rfl, Nat.le_of_ble_eq_true rfl⟩ (fun H locs hP hD hS => ?_)
    have hP : va_P g.1 vwCl (wH g a h) _ := hP
    have hD : va_D A (wH g a h) := hD
    refine k_iald (f := (hR h)) hx hb hE hP 2 rfl (i * 6 + c0) rfl (by omega) (by decide) dX1_rowsThatGet_22 ?_
    refine lv_if_le (tgt := 32) hx hb dX1_rowsThatGet_23 (by decide) (fun c4 => ?_) (fun c4 => ?_)
    ·
      refine lv_iinc (v := (nI (i + 1))) (lv' := [(3, .int (nI (i + 1))), (2, .int (Hget h c0 i)), (0, .ref (a 0)), (1, .int (nI c0))]) hx hb dX1_rowsThatGet_32 hl (k := 0) rfl (k_inc1 _) (by decide) rfl (fun ls hl => ?_)
      refine lv_goto (tgt := 7) hx hb dX1_rowsThatGet_35 (by decide) ?_
      have e5 : (Hget h c0 (i + 1)) = (Hget h c0 i) := (by first | (simp only [Hget, bI, if_neg (Nat.not_le.mpr c3), if_pos (Nat.not_le.mpr c3), if_pos c4, if_neg (not_not_intro c4)]; done) | (simp only [Hget, bI, if_neg (Nat.not_le.mpr c3), if_pos (Nat.not_le.mpr c3), if_pos c4, if_neg (not_not_intro c4)]; rfl) | rfl | (simp [Hget, bI, if_neg (Nat.not_le.mpr c3), if_pos (Nat.not_le.mpr c3), if_pos c4, if_neg (not_not_intro c4)]; done))
      exact ih1 _ _ _ (by omega) ⟨hP, hD, hS, (by rw [e5]; exact lv_sub hl [0, 1, 2, 3] rfl)⟩
    ·
      refine lv_iload_n hx hb dX1_rowsThatGet_26 rfl (lv_at hl 1 rfl) ?_
      refine lv_iconst (v := (nI 1)) hx hb dX1_rowsThatGet_27 (by decide) ?_
      refine lv_iload_n hx hb dX1_rowsThatGet_28 rfl (lv_at hl 0 rfl) ?_
      refine lv_ishl hx hb dX1_rowsThatGet_29 ?_
      refine lv_ior hx hb dX1_rowsThatGet_30 ?_
      refine lv_istore_n (lv' := [(2, .int ((Hget h c0 i) ||| ((nI 1) <<< ((nI i) &&& 31)))), (3, .int (nI i)), (0, .ref (a 0)), (1, .int (nI c0))]) hx hb dX1_rowsThatGet_31 rfl hl (by decide) rfl (fun ls hl => ?_)
      refine lv_iinc (v := (nI (i + 1))) (lv' := [(3, .int (nI (i + 1))), (2, .int ((Hget h c0 i) ||| ((nI 1) <<< ((nI i) &&& 31)))), (0, .ref (a 0)), (1, .int (nI c0))]) hx hb dX1_rowsThatGet_32 hl (k := 1) rfl (k_inc1 _) (by decide) rfl (fun ls hl => ?_)
      refine lv_goto (tgt := 7) hx hb dX1_rowsThatGet_35 (by decide) ?_
      have e6 : (Hget h c0 (i + 1)) = ((Hget h c0 i) ||| ((nI 1) <<< ((nI i) &&& 31))) := (by first | (simp only [Hget, bI, if_neg (Nat.not_le.mpr c3), if_pos (Nat.not_le.mpr c3), if_neg c4, if_pos c4]; done) | (simp only [Hget, bI, if_neg (Nat.not_le.mpr c3), if_pos (Nat.not_le.mpr c3), if_neg c4, if_pos c4]; rfl) | rfl | (simp [Hget, bI, if_neg (Nat.not_le.mpr c3), if_pos (Nat.not_le.mpr c3), if_neg c4, if_pos c4]; done))
      exact ih1 _ _ _ (by omega) ⟨hP, hD, hS, (by rw [e6]; exact lv_sub hl [0, 1, 2, 3] rfl)⟩
set_option maxHeartbeats 4000000 in
set_option maxRecDepth 100000 in
theorem c_X1_rowsThatWant (l : Launch) (g : kG) (a : Nat → Nat) (h : HSt) (c0 : Nat) (hc0 : c0 < 6) : KI l yX1_rowsThatWant wsX1_rowsThatWant ({ frames := 1, cells := 0, slots := 0, locals := 21 }) g [.ref (a 0), .int (nI c0)] (wH g a h) (Hwant h c0 8) (wH g a h) 0 0 := by
  refine k_begin (cc := cX1_rowsThatWant) (maxL := 4) (ret := (some .int)) (Qc := fun A => kQi g (Hwant h c0 8) (wH g a h) A) (by decide) rfl (Nat.le_of_ble_eq_true rfl) ?_
  intro p e s m below meth c A ls hF hr hlocks hin hE hP hD hS hA hl
  obtain ⟨hx, hb, hml, hown, hts⟩ := id hF
  have hown : s.vm.findClass RX1 = some m.cls := hown
  have hl : lv_has ls 4 [(0, .ref (a 0)), (1, .int (nI c0))] := hl
  have sta_X3_placeOf : (Cond.static yX3_placeOf).before _ s = true := hts _ (List.mem_of_getElem? (i := 1) rfl)
  have ini_X3 : (Cond.initialized RX3).before _ s = true := hts _ (List.mem_of_getElem? (i := 2) rfl)
  refine lv_iconst (v := (nI 0)) hx hb dX1_rowsThatWant_0 (by decide) ?_
  refine lv_istore_n (lv' := [(2, .int (nI 0)), (0, .ref (a 0)), (1, .int (nI c0))]) hx hb dX1_rowsThatWant_1 rfl hl (by decide) rfl (fun ls hl => ?_)
  refine lv_iconst (v := (nI 0)) hx hb dX1_rowsThatWant_2 (by decide) ?_
  refine lv_istore_n (lv' := [(3, .int (nI 0)), (2, .int (nI 0)), (0, .ref (a 0)), (1, .int (nI c0))]) hx hb dX1_rowsThatWant_3 rfl hl (by decide) rfl (fun ls hl => ?_)
  refine k_loop (N := 8) (Inv := fun (i : Nat) (H : Heap) (locs : List Loc) (ls : Array Slot) => va_P g.1 vwCl (wH g a h) H ∧ va_D A (wH g a h) ∧ va_S A s.heap H locs ∧ lv_has ls 4 [(3, .int (nI i)), (2, .int (Hwant h c0 i)), (0, .ref (a 0)), (1, .int (nI c0))]) 0 (Nat.zero_le _) ⟨hP, hD, hS, lv_sub hl [0, 1, 2, 3] rfl⟩ (fun i hle2 ih1 H locs ls hinv => ?_)
  obtain ⟨hP, hD, hS, hl⟩ := hinv
  refine lv_iload_n hx hb dX1_rowsThatWant_4 rfl (lv_at hl 0 rfl) ?_
  refine lv_bipush (v := (nI 8)) hx hb dX1_rowsThatWant_5 (by decide) ?_
  refine k_geN (tgt := 34) hx hb (by omega) (by decide) dX1_rowsThatWant_7 (by decide) (fun c3 => ?_) (fun c3 => ?_)
  ·
    obtain rfl : 8 = i := by omega
    refine lv_iload_n hx hb dX1_rowsThatWant_34 rfl (lv_at hl 1 rfl) ?_
    have hP : va_P g.1 vwCl (wH g a h) _ := hP
    have hD : va_D A (wH g a h) := hD
    exact k_iret hx hb hr hlocks rfl rfl hP hD hS (Nat.le_of_ble_eq_true rfl) (Nat.le_of_ble_eq_true rfl) dX1_rowsThatWant_35
  ·
    refine lv_aload_n hx hb dX1_rowsThatWant_10 rfl (lv_at hl 2 rfl) ?_
    refine lv_iload_n hx hb dX1_rowsThatWant_11 rfl (lv_at hl 0 rfl) ?_
    refine lv_iload_n hx hb dX1_rowsThatWant_12 rfl (lv_at hl 3 rfl) ?_
    refine k_SNi (w0 := []) (w1 := []) (As := [.int (nI i), .int (nI c0)]) (r := (nI (i * 6 + c0))) hF (c_X3_placeOf l g i c0) ⟨va_cnB 2 hts gX1_rowsThatWant_X3_placeOf_n70 rfl rfl rfl hE.2.1.1 ini_X3 (by decide +kernel) ⟨Nat.le_of_ble_eq_true rfl, Nat.le_of_ble_eq_true rfl⟩, sta_X3_placeOf, trivial⟩ hE hP hD hS hA (List.Perm.refl _) (List.Perm.refl _) rfl hl.1 rfl (Nat.le_of_ble_eq_true rfl) dX1_rowsThatWant_13 ⟨Nat.le_of_ble_eq_true rfl, Nat.le_of_ble_eq_true rfl⟩ (fun H locs hP hD hS => ?_)
    have hP : va_P g.1 vwCl (wH g a h) _ := hP
    have hD : va_D A (wH g a h) := hD
    refine k_Vi (As := [.int (nI (i * 6 + c0))]) (r := (bI (¬ ((hL h) (i * 6 + c0)) ≤ 0))) hF (c_X1_isWantedAt l g a h (i * 6 + c0) (by omega)) (cwV 1 hts gX1_rowsThatWant_X1_isWantedAt rfl rfl rfl (by decide +kernel) ⟨Nat.le_of_ble_eq_true rfl, Nat.le_of_ble_eq_true rfl⟩) hE hP hD hS hA (k_pall _) ((k_pall _).symm) 0 rfl rfl rfl rfl hl.1 rfl (Nat.le_of_ble_eq_true rfl) dX1_rowsThatWant_16 ⟨Nat.le_of_ble_eq_true rfl, Nat.le_of_ble_eq_true rfl⟩ (fun H locs hP hD hS => ?_)
    have hP : va_P g.1 vwCl (wH g a h) _ := hP
    have hD : va_D A (wH g a h) := hD
    refine k_ifeqB (tgt := 28) hx hb dX1_rowsThatWant_19 (by decide) (fun c4 => ?_) (fun c4 => ?_)
    ·
      refine lv_iinc (v := (nI (i + 1))) (lv' := [(3, .int (nI (i + 1))), (2, .int (Hwant h c0 i)), (0, .ref (a 0)), (1, .int (nI c0))]) hx hb dX1_rowsThatWant_28 hl (k := 0) rfl (k_inc1 _) (by decide) rfl (fun ls hl => ?_)
      refine lv_goto (tgt := 4) hx hb dX1_rowsThatWant_31 (by decide) ?_
      have e5 : (Hwant h c0 (i + 1)) = (Hwant h c0 i) := (by first | (simp only [Hwant, bI, if_neg (Nat.not_le.mpr c3), if_pos (Nat.not_le.mpr c3), if_neg c4, if_pos c4]; done) | (simp only [Hwant, bI, if_neg (Nat.not_le.mpr c3), if_pos (Nat.not_le.mpr c3), if_neg c4, if_pos c4]; rfl) | rfl | (simp [Hwant, bI, if_neg (Nat.not_le.mpr c3), if_pos (Nat.not_le.mpr c3), if_neg c4, if_pos c4]; done))
      exact ih1 _ _ _ (by omega) ⟨hP, hD, hS, (by rw [e5]; exact lv_sub hl [0, 1, 2, 3] rfl)⟩
    ·
      refine lv_iload_n hx hb dX1_rowsThatWant_22 rfl (lv_at hl 1 rfl) ?_
      refine lv_iconst (v := (nI 1)) hx hb dX1_rowsThatWant_23 (by decide) ?_
      refine lv_iload_n hx hb dX1_rowsThatWant_24 rfl (lv_at hl 0 rfl) ?_
      refine lv_ishl hx hb dX1_rowsThatWant_25 ?_
      refine lv_ior hx hb dX1_rowsThatWant_26 ?_
      refine lv_istore_n (lv' := [(2, .int ((Hwant h c0 i) ||| ((nI 1) <<< ((nI i) &&& 31)))), (3, .int (nI i)), (0, .ref (a 0)), (1, .int (nI c0))]) hx hb dX1_rowsThatWant_27 rfl hl (by decide) rfl (fun ls hl => ?_)
      refine lv_iinc (v := (nI (i + 1))) (lv' := [(3, .int (nI (i + 1))), (2, .int ((Hwant h c0 i) ||| ((nI 1) <<< ((nI i) &&& 31)))), (0, .ref (a 0)), (1, .int (nI c0))]) hx hb dX1_rowsThatWant_28 hl (k := 1) rfl (k_inc1 _) (by decide) rfl (fun ls hl => ?_)
      refine lv_goto (tgt := 4) hx hb dX1_rowsThatWant_31 (by decide) ?_
      have e6 : (Hwant h c0 (i + 1)) = ((Hwant h c0 i) ||| ((nI 1) <<< ((nI i) &&& 31))) := (by first | (simp only [Hwant, bI, if_neg (Nat.not_le.mpr c3), if_pos (Nat.not_le.mpr c3), if_pos c4, if_neg (not_not_intro c4)]; done) | (simp only [Hwant, bI, if_neg (Nat.not_le.mpr c3), if_pos (Nat.not_le.mpr c3), if_pos c4, if_neg (not_not_intro c4)]; rfl) | rfl | (simp [Hwant, bI, if_neg (Nat.not_le.mpr c3), if_pos (Nat.not_le.mpr c3), if_pos c4, if_neg (not_not_intro c4)]; done))
      exact ih1 _ _ _ (by omega) ⟨hP, hD, hS, (by rw [e6]; exact lv_sub hl [0, 1, 2, 3] rfl)⟩
set_option maxHeartbeats 4000000 in
set_option maxRecDepth 100000 in
theorem c_X1_fadeEntries (l : Launch) (g : kG) (a : Nat → Nat) (h : HSt) : KV l yX1_fadeEntries wsX1_fadeEntries ({ frames := 0, cells := 0, slots := 0, locals := 0 }) g [.ref (a 0)] (wH g a h) (wH g a (Hfade h)) 0 0 := by
  refine k_begin (cc := cX1_fadeEntries) (maxL := 2) (ret := none) (Qc := fun A => kQv g (wH g a (Hfade h)) A) (by decide) rfl (Nat.le_of_ble_eq_true rfl) ?_
  intro p e s m below meth c A ls hF hr hlocks hin hE hP hD hS hA hl
  obtain ⟨hx, hb, hml, hown, hts⟩ := id hF
  have hown : s.vm.findClass RX1 = some m.cls := hown
  have hl : lv_has ls 2 [(0, .ref (a 0))] := hl
  have hiX1 : ∀ w ∈ wsX10, w ∈ wsX1_fadeEntries := fun _ h => List.mem_cons_of_mem _ (List.mem_append_right _ (h))
  have f15 : (Cond.fieldLink RX1 15 "ConcertUsher$Hall" "rests" "[I").before _ s = true := hts _ (List.mem_of_getElem? (i := 1) rfl)
  refine lv_iconst (v := (nI 0)) hx hb dX1_fadeEntries_0 (by decide) ?_
  refine lv_istore_n (lv' := [(1, .int (nI 0)), (0, .ref (a 0))]) hx hb dX1_fadeEntries_1 rfl hl (by decide) rfl (fun ls hl => ?_)
  refine k_loop (N := 48) (Inv := fun (i : Nat) (H : Heap) (locs : List Loc) (ls : Array Slot) => va_P g.1 vwCl (wH g a (sHR h (HfadeN (hR h) i))) H ∧ va_D A (wH g a (sHR h (HfadeN (hR h) i))) ∧ va_S A s.heap H locs ∧ lv_has ls 2 [(1, .int (nI i)), (0, .ref (a 0))]) 0 (Nat.zero_le _) ⟨hP, hD, hS, lv_sub hl [0, 1] rfl⟩ (fun i hle2 ih1 H locs ls hinv => ?_)
  obtain ⟨hP, hD, hS, hl⟩ := hinv
  refine lv_iload_n hx hb dX1_fadeEntries_2 rfl (lv_at hl 0 rfl) ?_
  refine lv_bipush (v := (nI 48)) hx hb dX1_fadeEntries_3 (by decide) ?_
  refine k_geN (tgt := 33) hx hb (by omega) (by decide) dX1_fadeEntries_5 (by decide) (fun c3 => ?_) (fun c3 => ?_)
  ·
    obtain rfl : 48 = i := by omega
    have e4 : (Hfade h) = (sHR h (HfadeN (hR h) 48)) := (by first | (simp only [Hfade, if_pos c3, if_neg (not_not_intro c3)]; done) | (simp only [Hfade, if_pos c3, if_neg (not_not_intro c3)]; rfl) | rfl | (simp [Hfade, if_pos c3, if_neg (not_not_intro c3)]; done))
    have hP : va_P g.1 vwCl (wH g a (Hfade h)) H := by rw [e4]; exact hP
    have hD : va_D A (wH g a (Hfade h)) := by rw [e4]; exact hD
    exact k_vret hx hb hr hlocks hP hD hS (Nat.le_of_ble_eq_true rfl) (Nat.le_of_ble_eq_true rfl) dX1_fadeEntries_33
  ·
    refine lv_aload_n hx hb dX1_fadeEntries_8 rfl (lv_at hl 1 rfl) ?_
    refine va_get (D := g.1) (ci := 1) (v := .ref (a 2)) (C := RX1) (T := TX1) (N := 12) hx hb hts hiX1 hown hE.1 hP 0 rfl rfl 1 (by decide) f15 (fun _ h9 => h9) rfl dX1_fadeEntries_9 ?_
    refine lv_iload_n hx hb dX1_fadeEntries_12 rfl (lv_at hl 0 rfl) ?_
    refine k_iald (f := (HfadeN (hR h) i)) hx hb hE hP 2 rfl i rfl (by omega) (by decide) dX1_fadeEntries_13 ?_
    refine lv_if_le (tgt := 27) hx hb dX1_fadeEntries_14 (by decide) (fun c5 => ?_) (fun c5 => ?_)
    ·
      refine lv_iinc (v := (nI (i + 1))) (lv' := [(1, .int (nI (i + 1))), (0, .ref (a 0))]) hx hb dX1_fadeEntries_27 hl (k := 0) rfl (k_inc1 _) (by decide) rfl (fun ls hl => ?_)
      refine lv_goto (tgt := 2) hx hb dX1_fadeEntries_30 (by decide) ?_
      have e6 : (sHR h (HfadeN (hR h) (i + 1))) = (sHR h (HfadeN (hR h) i)) := (by first | (simp only [Hfade, HfadeN, if_neg (Nat.not_le.mpr c3), if_pos (Nat.not_le.mpr c3), if_pos c5, if_neg (not_not_intro c5)]; done) | (simp only [Hfade, HfadeN, if_neg (Nat.not_le.mpr c3), if_pos (Nat.not_le.mpr c3), if_pos c5, if_neg (not_not_intro c5)]; rfl) | rfl | (simp [Hfade, HfadeN, if_neg (Nat.not_le.mpr c3), if_pos (Nat.not_le.mpr c3), if_pos c5, if_neg (not_not_intro c5)]; done))
      exact ih1 _ _ _ (by omega) ⟨(by rw [e6]; exact hP), (by rw [e6]; exact hD), hS, lv_sub hl [0, 1] rfl⟩
    ·
      refine lv_aload_n hx hb dX1_fadeEntries_17 rfl (lv_at hl 1 rfl) ?_
      refine va_get (D := g.1) (ci := 1) (v := .ref (a 2)) (C := RX1) (T := TX1) (N := 12) hx hb hts hiX1 hown hE.1 hP 0 rfl rfl 1 (by decide) f15 (fun _ h9 => h9) rfl dX1_fadeEntries_18 ?_
      refine lv_iload_n hx hb dX1_fadeEntries_21 rfl (lv_at hl 0 rfl) ?_
      refine lv_dup2_11 hx hb dX1_fadeEntries_22 rfl rfl ?_
      refine k_iald (f := (HfadeN (hR h) i)) hx hb hE hP 2 rfl i rfl (by omega) (by decide) dX1_fadeEntries_23 ?_
      refine lv_iconst (v := (nI 1)) hx hb dX1_fadeEntries_24 (by decide) ?_
      refine lv_isub hx hb dX1_fadeEntries_25 ?_
      refine k_iast (f := (HfadeN (hR h) i)) (ws1 := (wH g a (sHR h (upd (HfadeN (hR h) i) i (((HfadeN (hR h) i) i) - (nI 1)))))) hx hb hE hP hD hS 2 rfl i rfl (by omega) (by decide) rfl dX1_fadeEntries_26 (fun H locs hP hD hS => ?_)
      refine lv_iinc (v := (nI (i + 1))) (lv' := [(1, .int (nI (i + 1))), (0, .ref (a 0))]) hx hb dX1_fadeEntries_27 hl (k := 0) rfl (k_inc1 _) (by decide) rfl (fun ls hl => ?_)
      refine lv_goto (tgt := 2) hx hb dX1_fadeEntries_30 (by decide) ?_
      have e7 : (sHR h (HfadeN (hR h) (i + 1))) = (sHR h (upd (HfadeN (hR h) i) i (((HfadeN (hR h) i) i) - (nI 1)))) := (by first | (simp only [Hfade, HfadeN, if_neg (Nat.not_le.mpr c3), if_pos (Nat.not_le.mpr c3), if_neg c5, if_pos c5]; done) | (simp only [Hfade, HfadeN, if_neg (Nat.not_le.mpr c3), if_pos (Nat.not_le.mpr c3), if_neg c5, if_pos c5]; rfl) | rfl | (simp [Hfade, HfadeN, if_neg (Nat.not_le.mpr c3), if_pos (Nat.not_le.mpr c3), if_neg c5, if_pos c5]; done))
      exact ih1 _ _ _ (by omega) ⟨(by rw [e7]; exact hP), (by rw [e7]; exact hD), hS, lv_sub hl [0, 1] rfl⟩
set_option maxHeartbeats 4000000 in
set_option maxRecDepth 100000 in
theorem c_X1_timeBetweenQuestions (l : Launch) (g : kG) (a : Nat → Nat) (h : HSt) : KI l yX1_timeBetweenQuestions wsX1_timeBetweenQuestions ({ frames := 1, cells := 0, slots := 0, locals := 20 }) g [.ref (a 0)] (wH g a h) (Htbq h) (wH g a h) 0 0 := by
  refine k_begin (cc := cX1_timeBetweenQuestions) (maxL := 1) (ret := (some .int)) (Qc := fun A => kQi g (Htbq h) (wH g a h) A) (by decide) rfl (Nat.le_of_ble_eq_true rfl) ?_
  intro p e s m below meth c A ls hF hr hlocks hin hE hP hD hS hA hl
  obtain ⟨hx, hb, hml, hown, hts⟩ := id hF
  have hown : s.vm.findClass RX1 = some m.cls := hown
  have hl : lv_has ls 1 [(0, .ref (a 0))] := hl
  have hiX1 : ∀ w ∈ wsX10, w ∈ wsX1_timeBetweenQuestions := fun _ h => List.mem_cons_of_mem _ (List.mem_append_right _ (h))
  have f41 : (Cond.fieldLink RX1 41 "ConcertUsher$Hall" "asking" "I").before _ s = true := hts _ (List.mem_of_getElem? (i := 1) rfl)
  refine lv_aload_n hx hb dX1_timeBetweenQuestions_0 rfl (lv_at hl 0 rfl) ?_
  refine k_Vi (As := []) (r := (Hchief h)) hF (c_X1_chiefAsker l g a h) (cwV 0 hts gX1_timeBetweenQuestions_X1_chiefAsker rfl rfl rfl (by decide +kernel) ⟨Nat.le_of_ble_eq_true rfl, Nat.le_of_ble_eq_true rfl⟩) hE hP hD hS hA (k_pall _) ((k_pall _).symm) 0 rfl rfl rfl rfl hl.1 rfl (Nat.le_of_ble_eq_true rfl) dX1_timeBetweenQuestions_1 ⟨Nat.le_of_ble_eq_true rfl, Nat.le_of_ble_eq_true rfl⟩ (fun H locs hP hD hS => ?_)
  have hP : va_P g.1 vwCl (wH g a h) _ := hP
  have hD : va_D A (wH g a h) := hD
  refine lv_if_ne (tgt := 14) hx hb dX1_timeBetweenQuestions_4 (by decide) (fun c1 => ?_) (fun c1 => ?_)
  ·
    refine lv_iconst (v := (nI 2)) hx hb dX1_timeBetweenQuestions_14 (by decide) ?_
    refine lv_aload_n hx hb dX1_timeBetweenQuestions_15 rfl (lv_at hl 0 rfl) ?_
    refine va_get (D := g.1) (ci := 1) (v := .int (has h)) (C := RX1) (T := TX1) (N := 12) hx hb hts hiX1 hown hE.1 hP 0 rfl rfl 9 (by decide) f41 (fun _ h9 => h9) rfl dX1_timeBetweenQuestions_16 ?_
    refine lv_imul hx hb dX1_timeBetweenQuestions_19 ?_
    have hP : va_P g.1 vwCl (wH g a h) _ := hP
    have hD : va_D A (wH g a h) := hD
    exact k_iret hx hb hr hlocks rfl (by first | (simp only [Htbq, bI, if_neg c1, if_pos c1]; done) | (simp only [Htbq, bI, if_neg c1, if_pos c1]; rfl) | rfl | (simp [Htbq, bI, if_neg c1, if_pos c1]; done)) hP hD hS (Nat.le_of_ble_eq_true rfl) (Nat.le_of_ble_eq_true rfl) dX1_timeBetweenQuestions_20
  ·
    refine lv_aload_n hx hb dX1_timeBetweenQuestions_7 rfl (lv_at hl 0 rfl) ?_
    refine va_get (D := g.1) (ci := 1) (v := .int (has h)) (C := RX1) (T := TX1) (N := 12) hx hb hts hiX1 hown hE.1 hP 0 rfl rfl 9 (by decide) f41 (fun _ h9 => h9) rfl dX1_timeBetweenQuestions_8 ?_
    refine lv_goto (tgt := 20) hx hb dX1_timeBetweenQuestions_11 (by decide) ?_
    have hP : va_P g.1 vwCl (wH g a h) _ := hP
    have hD : va_D A (wH g a h) := hD
    exact k_iret hx hb hr hlocks rfl (by first | (simp only [Htbq, bI, if_pos c1, if_neg (not_not_intro c1)]; done) | (simp only [Htbq, bI, if_pos c1, if_neg (not_not_intro c1)]; rfl) | rfl | (simp [Htbq, bI, if_pos c1, if_neg (not_not_intro c1)]; done)) hP hD hS (Nat.le_of_ble_eq_true rfl) (Nat.le_of_ble_eq_true rfl) dX1_timeBetweenQuestions_20
set_option maxHeartbeats 4000000 in
set_option maxRecDepth 100000 in
theorem c_X1_letPass (l : Launch) (g : kG) (a : Nat → Nat) (h : HSt) (sp : Nat) (hsp : sp ≤ 60) : KI l yX1_letPass wsX1_letPass ({ frames := 2, cells := 0, slots := 0, locals := 42 }) g [.ref (a 0), .int (nI sp)] (wH g a h) (nI (HpassQ h sp)) (wH g a (HpassN h sp)) 0 0 := by
  refine k_begin (cc := cX1_letPass) (maxL := 4) (ret := (some .int)) (Qc := fun A => kQi g (nI (HpassQ h sp)) (wH g a (HpassN h sp)) A) (by decide) rfl (Nat.le_of_ble_eq_true rfl) ?_
  intro p e s m below meth c A ls hF hr hlocks hin hE hP hD hS hA hl
  obtain ⟨hx, hb, hml, hown, hts⟩ := id hF
  have hown : s.vm.findClass RX1 = some m.cls := hown
  have hl : lv_has ls 4 [(0, .ref (a 0)), (1, .int (nI sp))] := hl
  have hiX1 : ∀ w ∈ wsX10, w ∈ wsX1_letPass := fun _ h => List.mem_cons_of_mem _ (List.mem_append_right _ (h))
  have f44 : (Cond.fieldLink RX1 44 "ConcertUsher$Hall" "minutes" "I").before _ s = true := hts _ (List.mem_of_getElem? (i := 1) rfl)
  have f47 : (Cond.fieldLink RX1 47 "ConcertUsher$Hall" "sinceQuestion" "I").before _ s = true := hts _ (List.mem_of_getElem? (i := 2) rfl)
  refine lv_iconst (v := (nI 0)) hx hb dX1_letPass_0 (by decide) ?_
  refine lv_istore_n (lv' := [(2, .int (nI 0)), (0, .ref (a 0)), (1, .int (nI sp))]) hx hb dX1_letPass_1 rfl hl (by decide) rfl (fun ls hl => ?_)
  refine lv_iconst (v := (nI 0)) hx hb dX1_letPass_2 (by decide) ?_
  refine lv_istore_n (lv' := [(3, .int (nI 0)), (2, .int (nI 0)), (0, .ref (a 0)), (1, .int (nI sp))]) hx hb dX1_letPass_3 rfl hl (by decide) rfl (fun ls hl => ?_)
  refine k_loop (N := sp) (Inv := fun (i : Nat) (H : Heap) (locs : List Loc) (ls : Array Slot) => va_P g.1 vwCl (wH g a (HpassN h i)) H ∧ va_D A (wH g a (HpassN h i)) ∧ va_S A s.heap H locs ∧ lv_has ls 4 [(3, .int (nI i)), (2, .int (nI (HpassQ h i))), (0, .ref (a 0)), (1, .int (nI sp))]) 0 (Nat.zero_le _) ⟨hP, hD, hS, lv_sub hl [0, 1, 2, 3] rfl⟩ (fun i hle2 ih1 H locs ls hinv => ?_)
  obtain ⟨hP, hD, hS, hl⟩ := hinv
  obtain ⟨z3, ez3⟩ : ∃ x : HSt, x = (HpassN h i) := ⟨_, rfl⟩
  rw [← ez3] at hP hD
  refine lv_iload_n hx hb dX1_letPass_4 rfl (lv_at hl 0 rfl) ?_
  refine lv_iload_n hx hb dX1_letPass_5 rfl (lv_at hl 3 rfl) ?_
  refine k_geN (tgt := 62) hx hb (by omega) (by omega) dX1_letPass_6 (by decide) (fun c4 => ?_) (fun c4 => ?_)
  ·
    obtain rfl : sp = i := by omega
    refine lv_iload_n hx hb dX1_letPass_62 rfl (lv_at hl 1 rfl) ?_
    have e5 : (HpassN h sp) = z3 := (by subst ez3; first | (simp only [if_pos c4, if_neg (not_not_intro c4)]; done) | (simp only [if_pos c4, if_neg (not_not_intro c4)]; rfl) | rfl | (simp [if_pos c4, if_neg (not_not_intro c4)]; done))
    have hP : va_P g.1 vwCl (wH g a (HpassN h sp)) H := by rw [e5]; exact hP
    have hD : va_D A (wH g a (HpassN h sp)) := by rw [e5]; exact hD
    exact k_iret hx hb hr hlocks rfl (by subst ez3; first | (simp only [bI, if_pos c4, if_neg (not_not_intro c4)]; done) | (simp only [bI, if_pos c4, if_neg (not_not_intro c4)]; rfl) | rfl | (simp [bI, if_pos c4, if_neg (not_not_intro c4)]; done)) hP hD hS (Nat.le_of_ble_eq_true rfl) (Nat.le_of_ble_eq_true rfl) dX1_letPass_63
  ·
    refine lv_aload_n hx hb dX1_letPass_9 rfl (lv_at hl 2 rfl) ?_
    refine lv_dup hx hb dX1_letPass_10 rfl ?_
    refine va_get (D := g.1) (ci := 1) (v := .int (hmn z3)) (C := RX1) (T := TX1) (N := 12) hx hb hts hiX1 hown hE.1 hP 0 rfl rfl 10 (by decide) f44 (fun _ h9 => h9) rfl dX1_letPass_11 ?_
    refine lv_iconst (v := (nI 1)) hx hb dX1_letPass_14 (by decide) ?_
    refine lv_iadd hx hb dX1_letPass_15 ?_
    refine va_put (D := g.1) (ci := 1) (v := .int ((hmn z3) + (nI 1))) (ty := .int) (C := RX1) (T := TX1) (N := 12) hx hb hts hiX1 tyX1 tyX1_ok nmX1 hown hE.1 hP hD hS 0 rfl rfl 10 (by decide) f44 (fun _ h9 => h9) rfl (tyX1_ok 10 (by decide)) rfl rfl (Nat.le_of_ble_eq_true rfl) dX1_letPass_16 (fun H locs hP hD hS => ?_)
    have hP : va_P g.1 vwCl (wH g a (sHmn z3 ((hmn z3) + (nI 1)))) _ := hP
    have hD : va_D A (wH g a (sHmn z3 ((hmn z3) + (nI 1)))) := hD
    refine lv_aload_n hx hb dX1_letPass_19 rfl (lv_at hl 2 rfl) ?_
    refine k_Vv (As := []) hF (c_X1_fadeEntries l g a (sHmn z3 ((hmn z3) + (nI 1)))) (cwV 0 hts gX1_letPass_X1_fadeEntries rfl rfl rfl (by decide +kernel) ⟨Nat.le_of_ble_eq_true rfl, Nat.le_of_ble_eq_true rfl⟩) hE hP hD hS hA (k_pall _) ((k_pall _).symm) 0 rfl rfl rfl rfl hl.1 rfl (Nat.le_of_ble_eq_true rfl) dX1_letPass_20 ⟨Nat.le_of_ble_eq_true rfl, Nat.le_of_ble_eq_true rfl⟩ (fun H locs hP hD hS => ?_)
    have hP : va_P g.1 vwCl (wH g a (Hfade (sHmn z3 ((hmn z3) + (nI 1))))) _ := hP
    have hD : va_D A (wH g a (Hfade (sHmn z3 ((hmn z3) + (nI 1))))) := hD
    obtain ⟨z6, ez6⟩ : ∃ x : HSt, x = (Hfade (sHmn z3 ((hmn z3) + (nI 1)))) := ⟨_, rfl⟩
    rw [← ez6] at hP hD
    refine lv_aload_n hx hb dX1_letPass_23 rfl (lv_at hl 2 rfl) ?_
    refine lv_dup hx hb dX1_letPass_24 rfl ?_
    refine va_get (D := g.1) (ci := 1) (v := .int (hsn z6)) (C := RX1) (T := TX1) (N := 12) hx hb hts hiX1 hown hE.1 hP 0 rfl rfl 11 (by decide) f47 (fun _ h9 => h9) rfl dX1_letPass_25 ?_
    refine lv_iconst (v := (nI 1)) hx hb dX1_letPass_28 (by decide) ?_
    refine lv_iadd hx hb dX1_letPass_29 ?_
    refine va_put (D := g.1) (ci := 1) (v := .int ((hsn z6) + (nI 1))) (ty := .int) (C := RX1) (T := TX1) (N := 12) hx hb hts hiX1 tyX1 tyX1_ok nmX1 hown hE.1 hP hD hS 0 rfl rfl 11 (by decide) f47 (fun _ h9 => h9) rfl (tyX1_ok 11 (by decide)) rfl rfl (Nat.le_of_ble_eq_true rfl) dX1_letPass_30 (fun H locs hP hD hS => ?_)
    have hP : va_P g.1 vwCl (wH g a (sHsn z6 ((hsn z6) + (nI 1)))) _ := hP
    have hD : va_D A (wH g a (sHsn z6 ((hsn z6) + (nI 1)))) := hD
    refine lv_aload_n hx hb dX1_letPass_33 rfl (lv_at hl 2 rfl) ?_
    refine va_get (D := g.1) (ci := 1) (v := .int ((hsn z6) + (nI 1))) (C := RX1) (T := TX1) (N := 12) hx hb hts hiX1 hown hE.1 hP 0 rfl rfl 11 (by decide) f47 (fun _ h9 => h9) rfl dX1_letPass_34 ?_
    refine lv_aload_n hx hb dX1_letPass_37 rfl (lv_at hl 2 rfl) ?_
    refine k_Vi (As := []) (r := (Htbq (sHsn z6 ((hsn z6) + (nI 1))))) hF (c_X1_timeBetweenQuestions l g a (sHsn z6 ((hsn z6) + (nI 1)))) (cwV 0 hts gX1_letPass_X1_timeBetweenQuestions rfl rfl rfl (by decide +kernel) ⟨Nat.le_of_ble_eq_true rfl, Nat.le_of_ble_eq_true rfl⟩) hE hP hD hS hA (k_pall _) ((k_pall _).symm) 0 rfl rfl rfl rfl hl.1 rfl (Nat.le_of_ble_eq_true rfl) dX1_letPass_38 ⟨Nat.le_of_ble_eq_true rfl, Nat.le_of_ble_eq_true rfl⟩ (fun H locs hP hD hS => ?_)
    have hP : va_P g.1 vwCl (wH g a (sHsn z6 ((hsn z6) + (nI 1)))) _ := hP
    have hD : va_D A (wH g a (sHsn z6 ((hsn z6) + (nI 1)))) := hD
    refine lv_icmp_lt (tgt := 56) hx hb dX1_letPass_41 (by decide) (fun c7 => ?_) (fun c7 => ?_)
    ·
      refine lv_iinc (v := (nI (i + 1))) (lv' := [(3, .int (nI (i + 1))), (2, .int (nI (HpassQ h i))), (0, .ref (a 0)), (1, .int (nI sp))]) hx hb dX1_letPass_56 hl (k := 0) rfl (k_inc1 _) (by decide) rfl (fun ls hl => ?_)
      refine lv_goto (tgt := 4) hx hb dX1_letPass_59 (by decide) ?_
      have e8 : (HpassN h (i + 1)) = (sHsn z6 ((hsn z6) + (nI 1))) := (by subst ez6; subst ez3; first | (simp only [HpassN, HpassQ, Hmin, Htk, if_neg (Nat.not_le.mpr c4), if_pos (Nat.not_le.mpr c4), if_pos c7, if_neg (not_not_intro c7)]; done) | (simp only [HpassN, HpassQ, Hmin, Htk, if_neg (Nat.not_le.mpr c4), if_pos (Nat.not_le.mpr c4), if_pos c7, if_neg (not_not_intro c7)]; rfl) | rfl | (simp [HpassN, HpassQ, Hmin, Htk, if_neg (Nat.not_le.mpr c4), if_pos (Nat.not_le.mpr c4), if_pos c7, if_neg (not_not_intro c7)]; done))
      have e9 : (nI (HpassQ h (i + 1))) = (nI (HpassQ h i)) := (by subst ez6; subst ez3; first | (simp only [HpassN, HpassQ, Hmin, Htk, bI, if_neg (Nat.not_le.mpr c4), if_pos (Nat.not_le.mpr c4), if_pos c7, if_neg (not_not_intro c7)]; done) | (simp only [HpassN, HpassQ, Hmin, Htk, bI, if_neg (Nat.not_le.mpr c4), if_pos (Nat.not_le.mpr c4), if_pos c7, if_neg (not_not_intro c7)]; rfl) | rfl | (simp [HpassN, HpassQ, Hmin, Htk, bI, if_neg (Nat.not_le.mpr c4), if_pos (Nat.not_le.mpr c4), if_pos c7, if_neg (not_not_intro c7)]; done))
      exact ih1 _ _ _ (by omega) ⟨(by rw [e8]; exact hP), (by rw [e8]; exact hD), hS, (by rw [e9]; exact lv_sub hl [0, 1, 2, 3] rfl)⟩
    ·
      refine lv_aload_n hx hb dX1_letPass_44 rfl (lv_at hl 2 rfl) ?_
      refine lv_iconst (v := (nI 0)) hx hb dX1_letPass_45 (by decide) ?_
      refine va_put (D := g.1) (ci := 1) (v := .int (nI 0)) (ty := .int) (C := RX1) (T := TX1) (N := 12) hx hb hts hiX1 tyX1 tyX1_ok nmX1 hown hE.1 hP hD hS 0 rfl rfl 11 (by decide) f47 (fun _ h9 => h9) rfl (tyX1_ok 11 (by decide)) rfl rfl (Nat.le_of_ble_eq_true rfl) dX1_letPass_46 (fun H locs hP hD hS => ?_)
      have hP : va_P g.1 vwCl (wH g a (sHsn z6 (nI 0))) _ := hP
      have hD : va_D A (wH g a (sHsn z6 (nI 0))) := hD
      refine lv_aload_n hx hb dX1_letPass_49 rfl (lv_at hl 2 rfl) ?_
      refine k_Vv (As := []) hF (c_X1_askAllRows l g a (sHsn z6 (nI 0))) (cwV 0 hts gX1_letPass_X1_askAllRows rfl rfl rfl (by decide +kernel) ⟨Nat.le_of_ble_eq_true rfl, Nat.le_of_ble_eq_true rfl⟩) hE hP hD hS hA (k_pall _) ((k_pall _).symm) 0 rfl rfl rfl rfl hl.1 rfl (Nat.le_of_ble_eq_true rfl) dX1_letPass_50 ⟨Nat.le_of_ble_eq_true rfl, Nat.le_of_ble_eq_true rfl⟩ (fun H locs hP hD hS => ?_)
      have hP : va_P g.1 vwCl (wH g a (HaskAll (sHsn z6 (nI 0)))) _ := hP
      have hD : va_D A (wH g a (HaskAll (sHsn z6 (nI 0)))) := hD
      obtain ⟨z10, ez10⟩ : ∃ x : HSt, x = (HaskAll (sHsn z6 (nI 0))) := ⟨_, rfl⟩
      rw [← ez10] at hP hD
      refine lv_iinc (v := (nI ((HpassQ h i) + 1))) (lv' := [(2, .int (nI ((HpassQ h i) + 1))), (3, .int (nI i)), (0, .ref (a 0)), (1, .int (nI sp))]) hx hb dX1_letPass_53 hl (k := 1) rfl (k_inc1 _) (by decide) rfl (fun ls hl => ?_)
      refine lv_iinc (v := (nI (i + 1))) (lv' := [(3, .int (nI (i + 1))), (2, .int (nI ((HpassQ h i) + 1))), (0, .ref (a 0)), (1, .int (nI sp))]) hx hb dX1_letPass_56 hl (k := 1) rfl (k_inc1 _) (by decide) rfl (fun ls hl => ?_)
      refine lv_goto (tgt := 4) hx hb dX1_letPass_59 (by decide) ?_
      have e11 : (HpassN h (i + 1)) = z10 := (by subst ez10; subst ez6; subst ez3; first | (simp only [HpassN, HpassQ, Hmin, Htk, if_neg (Nat.not_le.mpr c4), if_pos (Nat.not_le.mpr c4), if_neg c7, if_pos c7]; done) | (simp only [HpassN, HpassQ, Hmin, Htk, if_neg (Nat.not_le.mpr c4), if_pos (Nat.not_le.mpr c4), if_neg c7, if_pos c7]; rfl) | rfl | (simp [HpassN, HpassQ, Hmin, Htk, if_neg (Nat.not_le.mpr c4), if_pos (Nat.not_le.mpr c4), if_neg c7, if_pos c7]; done))
      have e12 : (nI (HpassQ h (i + 1))) = (nI ((HpassQ h i) + 1)) := (by subst ez10; subst ez6; subst ez3; first | (simp only [HpassN, HpassQ, Hmin, Htk, bI, if_neg (Nat.not_le.mpr c4), if_pos (Nat.not_le.mpr c4), if_neg c7, if_pos c7]; done) | (simp only [HpassN, HpassQ, Hmin, Htk, bI, if_neg (Nat.not_le.mpr c4), if_pos (Nat.not_le.mpr c4), if_neg c7, if_pos c7]; rfl) | rfl | (simp [HpassN, HpassQ, Hmin, Htk, bI, if_neg (Nat.not_le.mpr c4), if_pos (Nat.not_le.mpr c4), if_neg c7, if_pos c7]; done))
      exact ih1 _ _ _ (by omega) ⟨(by rw [e11]; exact hP), (by rw [e11]; exact hD), hS, (by rw [e12]; exact lv_sub hl [0, 1, 2, 3] rfl)⟩
set_option maxHeartbeats 4000000 in
set_option maxRecDepth 100000 in
theorem c_X1_perform (l : Launch) (g : kG) (a : Nat → Nat) (h : HSt) (c0 : Nat) (hc0 : c0 < 6) : KI l yX1_perform wsX1_perform ({ frames := 2, cells := 0, slots := 0, locals := 44 }) g [.ref (a 0), .int (nI c0)] (wH g a h) (bc (Hget h c0 8)) (wH g a (Hperf c0 h)) 0 0 := by
  refine k_begin (cc := cX1_perform) (maxL := 4) (ret := (some .int)) (Qc := fun A => kQi g (bc (Hget h c0 8)) (wH g a (Hperf c0 h)) A) (by decide) rfl (Nat.le_of_ble_eq_true rfl) ?_
  intro p e s m below meth c A ls hF hr hlocks hin hE hP hD hS hA hl
  obtain ⟨hx, hb, hml, hown, hts⟩ := id hF
  have hown : s.vm.findClass RX1 = some m.cls := hown
  have hl : lv_has ls 4 [(0, .ref (a 0)), (1, .int (nI c0))] := hl
  have hiX1 : ∀ w ∈ wsX10, w ∈ wsX1_perform := fun _ h => List.mem_cons_of_mem _ (List.mem_append_right _ (h))
  have f18 : (Cond.fieldLink RX1 18 "ConcertUsher$Hall" "counts" "[I").before _ s = true := hts _ (List.mem_of_getElem? (i := 1) rfl)
  refine lv_aload_n hx hb dX1_perform_0 rfl (lv_at hl 0 rfl) ?_
  refine lv_iload_n hx hb dX1_perform_1 rfl (lv_at hl 1 rfl) ?_
  refine k_Vi (As := [.int (nI c0)]) (r := (Hget h c0 8)) hF (c_X1_rowsThatGet l g a h c0 (by omega)) (cwV 1 hts gX1_perform_X1_rowsThatGet rfl rfl rfl (by decide +kernel) ⟨Nat.le_of_ble_eq_true rfl, Nat.le_of_ble_eq_true rfl⟩) hE hP hD hS hA (k_pall _) ((k_pall _).symm) 0 rfl rfl rfl rfl hl.1 rfl (Nat.le_of_ble_eq_true rfl) dX1_perform_2 ⟨Nat.le_of_ble_eq_true rfl, Nat.le_of_ble_eq_true rfl⟩ (fun H locs hP hD hS => ?_)
  have hP : va_P g.1 vwCl (wH g a h) _ := hP
  have hD : va_D A (wH g a h) := hD
  refine lv_istore_n (lv' := [(2, .int (Hget h c0 8)), (0, .ref (a 0)), (1, .int (nI c0))]) hx hb dX1_perform_5 rfl hl (by decide) rfl (fun ls hl => ?_)
  refine lv_aload_n hx hb dX1_perform_6 rfl (lv_at hl 1 rfl) ?_
  refine lv_iload_n hx hb dX1_perform_7 rfl (lv_at hl 2 rfl) ?_
  refine k_Vi (As := [.int (nI c0)]) (r := (Hwant h c0 8)) hF (c_X1_rowsThatWant l g a h c0 (by omega)) (cwV 1 hts gX1_perform_X1_rowsThatWant rfl rfl rfl (by decide +kernel) ⟨Nat.le_of_ble_eq_true rfl, Nat.le_of_ble_eq_true rfl⟩) hE hP hD hS hA (k_pall _) ((k_pall _).symm) 0 rfl rfl rfl rfl hl.1 rfl (Nat.le_of_ble_eq_true rfl) dX1_perform_8 ⟨Nat.le_of_ble_eq_true rfl, Nat.le_of_ble_eq_true rfl⟩ (fun H locs hP hD hS => ?_)
  have hP : va_P g.1 vwCl (wH g a h) _ := hP
  have hD : va_D A (wH g a h) := hD
  refine lv_istore_n (lv' := [(3, .int (Hwant h c0 8)), (2, .int (Hget h c0 8)), (0, .ref (a 0)), (1, .int (nI c0))]) hx hb dX1_perform_11 rfl hl (by decide) rfl (fun ls hl => ?_)
  refine lv_aload_n hx hb dX1_perform_12 rfl (lv_at hl 2 rfl) ?_
  refine va_get (D := g.1) (ci := 1) (v := .ref (a 3)) (C := RX1) (T := TX1) (N := 12) hx hb hts hiX1 hown hE.1 hP 0 rfl rfl 2 (by decide) f18 (fun _ h9 => h9) rfl dX1_perform_13 ?_
  refine lv_iconst (v := (nI 0)) hx hb dX1_perform_16 (by decide) ?_
  refine lv_dup2_11 hx hb dX1_perform_17 rfl rfl ?_
  refine k_iald (f := (hC h)) hx hb hE hP 3 rfl 0 rfl (by decide) (by decide) dX1_perform_18 ?_
  refine lv_iload_n hx hb dX1_perform_19 rfl (lv_at hl 1 rfl) ?_
  refine lv_iload_n hx hb dX1_perform_20 rfl (lv_at hl 0 rfl) ?_
  refine lv_iand hx hb dX1_perform_21 ?_
  refine k_Si (w0 := []) (w1 := []) (As := [.int ((Hget h c0 8) &&& (Hwant h c0 8))]) (r := (bc ((Hget h c0 8) &&& (Hwant h c0 8)))) hF (c_J6_bitCount_0f7a4 l g ((Hget h c0 8) &&& (Hwant h c0 8))) (va_cwS 1 hts gX1_perform_J6_bitCount_0f7a4 rfl rfl rfl (by decide +kernel) ⟨Nat.le_of_ble_eq_true rfl, Nat.le_of_ble_eq_true rfl⟩) hE hP hD hS hA (List.Perm.refl _) (List.Perm.refl _) rfl hl.1 rfl (Nat.le_of_ble_eq_true rfl) dX1_perform_22 ⟨Nat.le_of_ble_eq_true rfl, Nat.le_of_ble_eq_true rfl⟩ (fun H locs hP hD hS => ?_)
  have hP : va_P g.1 vwCl (wH g a h) _ := hP
  have hD : va_D A (wH g a h) := hD
  refine lv_iadd hx hb dX1_perform_25 ?_
  refine k_iast (f := (hC h)) (ws1 := (wH g a (sHC h (upd (hC h) 0 (((hC h) 0) + (bc ((Hget h c0 8) &&& (Hwant h c0 8)))))))) hx hb hE hP hD hS 3 rfl 0 rfl (by decide) (by decide) rfl dX1_perform_26 (fun H locs hP hD hS => ?_)
  refine lv_aload_n hx hb dX1_perform_27 rfl (lv_at hl 2 rfl) ?_
  refine va_get (D := g.1) (ci := 1) (v := .ref (a 3)) (C := RX1) (T := TX1) (N := 12) hx hb hts hiX1 hown hE.1 hP 0 rfl rfl 2 (by decide) f18 (fun _ h9 => h9) rfl dX1_perform_28 ?_
  refine lv_iconst (v := (nI 1)) hx hb dX1_perform_31 (by decide) ?_
  refine lv_dup2_11 hx hb dX1_perform_32 rfl rfl ?_
  refine k_iald (f := (upd (hC h) 0 (((hC h) 0) + (bc ((Hget h c0 8) &&& (Hwant h c0 8)))))) hx hb hE hP 3 rfl 1 rfl (by decide) (by decide) dX1_perform_33 ?_
  refine lv_iload_n hx hb dX1_perform_34 rfl (lv_at hl 1 rfl) ?_
  refine lv_iload_n hx hb dX1_perform_35 rfl (lv_at hl 0 rfl) ?_
  refine lv_iconst (v := (-1)) hx hb dX1_perform_36 (by decide) ?_
  refine lv_ixor hx hb dX1_perform_37 ?_
  refine lv_iand hx hb dX1_perform_38 ?_
  refine k_Si (w0 := []) (w1 := []) (As := [.int ((Hget h c0 8) &&& ((Hwant h c0 8) ^^^ (-1)))]) (r := (bc ((Hget h c0 8) &&& ((Hwant h c0 8) ^^^ (-1))))) hF (c_J6_bitCount_0f7a4 l g ((Hget h c0 8) &&& ((Hwant h c0 8) ^^^ (-1)))) (va_cwS 1 hts gX1_perform_J6_bitCount_0f7a4 rfl rfl rfl (by decide +kernel) ⟨Nat.le_of_ble_eq_true rfl, Nat.le_of_ble_eq_true rfl⟩) hE hP hD hS hA (List.Perm.refl _) (List.Perm.refl _) rfl hl.1 rfl (Nat.le_of_ble_eq_true rfl) dX1_perform_39 ⟨Nat.le_of_ble_eq_true rfl, Nat.le_of_ble_eq_true rfl⟩ (fun H locs hP hD hS => ?_)
  have hP : va_P g.1 vwCl (wH g a (sHC h (upd (hC h) 0 (((hC h) 0) + (bc ((Hget h c0 8) &&& (Hwant h c0 8))))))) _ := hP
  have hD : va_D A (wH g a (sHC h (upd (hC h) 0 (((hC h) 0) + (bc ((Hget h c0 8) &&& (Hwant h c0 8))))))) := hD
  refine lv_iadd hx hb dX1_perform_42 ?_
  refine k_iast (f := (upd (hC h) 0 (((hC h) 0) + (bc ((Hget h c0 8) &&& (Hwant h c0 8)))))) (ws1 := (wH g a (sHC h (upd (upd (hC h) 0 (((hC h) 0) + (bc ((Hget h c0 8) &&& (Hwant h c0 8))))) 1 (((upd (hC h) 0 (((hC h) 0) + (bc ((Hget h c0 8) &&& (Hwant h c0 8))))) 1) + (bc ((Hget h c0 8) &&& ((Hwant h c0 8) ^^^ (-1))))))))) hx hb hE hP hD hS 3 rfl 1 rfl (by decide) (by decide) rfl dX1_perform_43 (fun H locs hP hD hS => ?_)
  refine lv_aload_n hx hb dX1_perform_44 rfl (lv_at hl 2 rfl) ?_
  refine va_get (D := g.1) (ci := 1) (v := .ref (a 3)) (C := RX1) (T := TX1) (N := 12) hx hb hts hiX1 hown hE.1 hP 0 rfl rfl 2 (by decide) f18 (fun _ h9 => h9) rfl dX1_perform_45 ?_
  refine lv_iconst (v := (nI 2)) hx hb dX1_perform_48 (by decide) ?_
  refine lv_dup2_11 hx hb dX1_perform_49 rfl rfl ?_
  refine k_iald (f := (upd (upd (hC h) 0 (((hC h) 0) + (bc ((Hget h c0 8) &&& (Hwant h c0 8))))) 1 (((upd (hC h) 0 (((hC h) 0) + (bc ((Hget h c0 8) &&& (Hwant h c0 8))))) 1) + (bc ((Hget h c0 8) &&& ((Hwant h c0 8) ^^^ (-1))))))) hx hb hE hP 3 rfl 2 rfl (by decide) (by decide) dX1_perform_50 ?_
  refine lv_iload_n hx hb dX1_perform_51 rfl (lv_at hl 0 rfl) ?_
  refine lv_iload_n hx hb dX1_perform_52 rfl (lv_at hl 1 rfl) ?_
  refine lv_iconst (v := (-1)) hx hb dX1_perform_53 (by decide) ?_
  refine lv_ixor hx hb dX1_perform_54 ?_
  refine lv_iand hx hb dX1_perform_55 ?_
  refine k_Si (w0 := []) (w1 := []) (As := [.int ((Hwant h c0 8) &&& ((Hget h c0 8) ^^^ (-1)))]) (r := (bc ((Hwant h c0 8) &&& ((Hget h c0 8) ^^^ (-1))))) hF (c_J6_bitCount_0f7a4 l g ((Hwant h c0 8) &&& ((Hget h c0 8) ^^^ (-1)))) (va_cwS 1 hts gX1_perform_J6_bitCount_0f7a4 rfl rfl rfl (by decide +kernel) ⟨Nat.le_of_ble_eq_true rfl, Nat.le_of_ble_eq_true rfl⟩) hE hP hD hS hA (List.Perm.refl _) (List.Perm.refl _) rfl hl.1 rfl (Nat.le_of_ble_eq_true rfl) dX1_perform_56 ⟨Nat.le_of_ble_eq_true rfl, Nat.le_of_ble_eq_true rfl⟩ (fun H locs hP hD hS => ?_)
  have hP : va_P g.1 vwCl (wH g a (sHC h (upd (upd (hC h) 0 (((hC h) 0) + (bc ((Hget h c0 8) &&& (Hwant h c0 8))))) 1 (((upd (hC h) 0 (((hC h) 0) + (bc ((Hget h c0 8) &&& (Hwant h c0 8))))) 1) + (bc ((Hget h c0 8) &&& ((Hwant h c0 8) ^^^ (-1)))))))) _ := hP
  have hD : va_D A (wH g a (sHC h (upd (upd (hC h) 0 (((hC h) 0) + (bc ((Hget h c0 8) &&& (Hwant h c0 8))))) 1 (((upd (hC h) 0 (((hC h) 0) + (bc ((Hget h c0 8) &&& (Hwant h c0 8))))) 1) + (bc ((Hget h c0 8) &&& ((Hwant h c0 8) ^^^ (-1)))))))) := hD
  refine lv_iadd hx hb dX1_perform_59 ?_
  refine k_iast (f := (upd (upd (hC h) 0 (((hC h) 0) + (bc ((Hget h c0 8) &&& (Hwant h c0 8))))) 1 (((upd (hC h) 0 (((hC h) 0) + (bc ((Hget h c0 8) &&& (Hwant h c0 8))))) 1) + (bc ((Hget h c0 8) &&& ((Hwant h c0 8) ^^^ (-1))))))) (ws1 := (wH g a (sHC h (upd (upd (upd (hC h) 0 (((hC h) 0) + (bc ((Hget h c0 8) &&& (Hwant h c0 8))))) 1 (((upd (hC h) 0 (((hC h) 0) + (bc ((Hget h c0 8) &&& (Hwant h c0 8))))) 1) + (bc ((Hget h c0 8) &&& ((Hwant h c0 8) ^^^ (-1)))))) 2 (((upd (upd (hC h) 0 (((hC h) 0) + (bc ((Hget h c0 8) &&& (Hwant h c0 8))))) 1 (((upd (hC h) 0 (((hC h) 0) + (bc ((Hget h c0 8) &&& (Hwant h c0 8))))) 1) + (bc ((Hget h c0 8) &&& ((Hwant h c0 8) ^^^ (-1)))))) 2) + (bc ((Hwant h c0 8) &&& ((Hget h c0 8) ^^^ (-1))))))))) hx hb hE hP hD hS 3 rfl 2 rfl (by decide) (by decide) rfl dX1_perform_60 (fun H locs hP hD hS => ?_)
  refine lv_iload_n hx hb dX1_perform_61 rfl (lv_at hl 1 rfl) ?_
  refine k_Si (w0 := []) (w1 := []) (As := [.int (Hget h c0 8)]) (r := (bc (Hget h c0 8))) hF (c_J6_bitCount_0f7a4 l g (Hget h c0 8)) (va_cwS 1 hts gX1_perform_J6_bitCount_0f7a4 rfl rfl rfl (by decide +kernel) ⟨Nat.le_of_ble_eq_true rfl, Nat.le_of_ble_eq_true rfl⟩) hE hP hD hS hA (List.Perm.refl _) (List.Perm.refl _) rfl hl.1 rfl (Nat.le_of_ble_eq_true rfl) dX1_perform_62 ⟨Nat.le_of_ble_eq_true rfl, Nat.le_of_ble_eq_true rfl⟩ (fun H locs hP hD hS => ?_)
  have hP : va_P g.1 vwCl (wH g a (sHC h (upd (upd (upd (hC h) 0 (((hC h) 0) + (bc ((Hget h c0 8) &&& (Hwant h c0 8))))) 1 (((upd (hC h) 0 (((hC h) 0) + (bc ((Hget h c0 8) &&& (Hwant h c0 8))))) 1) + (bc ((Hget h c0 8) &&& ((Hwant h c0 8) ^^^ (-1)))))) 2 (((upd (upd (hC h) 0 (((hC h) 0) + (bc ((Hget h c0 8) &&& (Hwant h c0 8))))) 1 (((upd (hC h) 0 (((hC h) 0) + (bc ((Hget h c0 8) &&& (Hwant h c0 8))))) 1) + (bc ((Hget h c0 8) &&& ((Hwant h c0 8) ^^^ (-1)))))) 2) + (bc ((Hwant h c0 8) &&& ((Hget h c0 8) ^^^ (-1)))))))) _ := hP
  have hD : va_D A (wH g a (sHC h (upd (upd (upd (hC h) 0 (((hC h) 0) + (bc ((Hget h c0 8) &&& (Hwant h c0 8))))) 1 (((upd (hC h) 0 (((hC h) 0) + (bc ((Hget h c0 8) &&& (Hwant h c0 8))))) 1) + (bc ((Hget h c0 8) &&& ((Hwant h c0 8) ^^^ (-1)))))) 2 (((upd (upd (hC h) 0 (((hC h) 0) + (bc ((Hget h c0 8) &&& (Hwant h c0 8))))) 1 (((upd (hC h) 0 (((hC h) 0) + (bc ((Hget h c0 8) &&& (Hwant h c0 8))))) 1) + (bc ((Hget h c0 8) &&& ((Hwant h c0 8) ^^^ (-1)))))) 2) + (bc ((Hwant h c0 8) &&& ((Hget h c0 8) ^^^ (-1)))))))) := hD
  have hP : va_P g.1 vwCl (wH g a (Hperf c0 h)) _ := hP
  have hD : va_D A (wH g a (Hperf c0 h)) := hD
  exact k_iret hx hb hr hlocks rfl rfl hP hD hS (Nat.le_of_ble_eq_true rfl) (Nat.le_of_ble_eq_true rfl) dX1_perform_65
set_option maxHeartbeats 4000000 in
set_option maxRecDepth 100000 in
theorem c_X1_asksIn (l : Launch) (g : kG) (a : Nat → Nat) (h : HSt) : KI l yX1_asksIn wsX1_asksIn ({ frames := 2, cells := 0, slots := 0, locals := 40 }) g [.ref (a 0)] (wH g a h) (HasksIn h) (wH g a h) 0 0 := by
  refine k_begin (cc := cX1_asksIn) (maxL := 1) (ret := (some .int)) (Qc := fun A => kQi g (HasksIn h) (wH g a h) A) (by decide) rfl (Nat.le_of_ble_eq_true rfl) ?_
  intro p e s m below meth c A ls hF hr hlocks hin hE hP hD hS hA hl
  obtain ⟨hx, hb, hml, hown, hts⟩ := id hF
  have hown : s.vm.findClass RX1 = some m.cls := hown
  have hl : lv_has ls 1 [(0, .ref (a 0))] := hl
  have hiX1 : ∀ w ∈ wsX10, w ∈ wsX1_asksIn := fun _ h => List.mem_cons_of_mem _ (List.mem_append_right _ (h))
  have f47 : (Cond.fieldLink RX1 47 "ConcertUsher$Hall" "sinceQuestion" "I").before _ s = true := hts _ (List.mem_of_getElem? (i := 1) rfl)
  have mml : (Cond.methodLink RX1 99 Lib.Math.max.name).before _ s = true := hts _ (List.mem_of_getElem? (i := 2) rfl)
  have mms : (Cond.static Lib.Math.max.name).before _ s = true := hts _ (List.mem_of_getElem? (i := 3) rfl)
  have mmi : (Cond.initialized "java/lang/Math").before _ s = true := hts _ (List.mem_of_getElem? (i := 4) rfl)
  have mmc : (Cond.code Lib.Math.max.name Lib.Math.max.code 2 (some .int)).before _ s = true := hts _ (List.mem_of_getElem? (i := 5) rfl)
  refine lv_iconst (v := (nI 1)) hx hb dX1_asksIn_0 (by decide) ?_
  refine lv_aload_n hx hb dX1_asksIn_1 rfl (lv_at hl 0 rfl) ?_
  refine k_Vi (As := []) (r := (Htbq h)) hF (c_X1_timeBetweenQuestions l g a h) (cwV 0 hts gX1_asksIn_X1_timeBetweenQuestions rfl rfl rfl (by decide +kernel) ⟨Nat.le_of_ble_eq_true rfl, Nat.le_of_ble_eq_true rfl⟩) hE hP hD hS hA (k_pall _) ((k_pall _).symm) 0 rfl rfl rfl rfl hl.1 rfl (Nat.le_of_ble_eq_true rfl) dX1_asksIn_2 ⟨Nat.le_of_ble_eq_true rfl, Nat.le_of_ble_eq_true rfl⟩ (fun H locs hP hD hS => ?_)
  have hP : va_P g.1 vwCl (wH g a h) _ := hP
  have hD : va_D A (wH g a h) := hD
  refine lv_aload_n hx hb dX1_asksIn_5 rfl (lv_at hl 0 rfl) ?_
  refine va_get (D := g.1) (ci := 1) (v := .int (hsn h)) (C := RX1) (T := TX1) (N := 12) hx hb hts hiX1 hown hE.1 hP 0 rfl rfl 11 (by decide) f47 (fun _ h9 => h9) rfl dX1_asksIn_6 ?_
  refine lv_isub hx hb dX1_asksIn_9 ?_
  refine va_mmax hx hb (hml.trans hl.1.symm) hown mml mms mmi mmc (Nat.le_of_ble_eq_true rfl) (Nat.le_of_ble_eq_true rfl) (Nat.le_of_ble_eq_true rfl) (Nat.le_of_ble_eq_true rfl) dX1_asksIn_10 ?_
  have hP : va_P g.1 vwCl (wH g a h) _ := hP
  have hD : va_D A (wH g a h) := hD
  exact k_iret hx hb hr hlocks rfl (by first | rfl | (simp only [HasksIn, bI]; done) | (simp only [HasksIn, bI]; rfl) | (simp [HasksIn, bI]; done)) hP hD hS (Nat.le_of_ble_eq_true rfl) (Nat.le_of_ble_eq_true rfl) dX1_asksIn_13
set_option maxHeartbeats 4000000 in
set_option maxRecDepth 100000 in
theorem c_X1_fadesIn (l : Launch) (g : kG) (a : Nat → Nat) (h : HSt) (k : Nat) (hk : k < 48) : KI l yX1_fadesIn wsX1_fadesIn ({ frames := 3, cells := 0, slots := 0, locals := 60 }) g [.ref (a 0), .int (nI k)] (wH g a h) (HfadesIn k h) (wH g a h) 0 0 := by
  refine k_begin (cc := cX1_fadesIn) (maxL := 3) (ret := (some .int)) (Qc := fun A => kQi g (HfadesIn k h) (wH g a h) A) (by decide) rfl (Nat.le_of_ble_eq_true rfl) ?_
  intro p e s m below meth c A ls hF hr hlocks hin hE hP hD hS hA hl
  obtain ⟨hx, hb, hml, hown, hts⟩ := id hF
  have hown : s.vm.findClass RX1 = some m.cls := hown
  have hl : lv_has ls 3 [(0, .ref (a 0)), (1, .int (nI k))] := hl
  have hiX1 : ∀ w ∈ wsX10, w ∈ wsX1_fadesIn := fun _ h => List.mem_cons_of_mem _ (List.mem_append_right _ (h))
  have f15 : (Cond.fieldLink RX1 15 "ConcertUsher$Hall" "rests" "[I").before _ s = true := hts _ (List.mem_of_getElem? (i := 1) rfl)
  have f35 : (Cond.fieldLink RX1 35 "ConcertUsher$Hall" "fading" "I").before _ s = true := hts _ (List.mem_of_getElem? (i := 2) rfl)
  refine lv_aload_n hx hb dX1_fadesIn_0 rfl (lv_at hl 0 rfl) ?_
  refine k_Vi (As := []) (r := (HasksIn h)) hF (c_X1_asksIn l g a h) (cwV 0 hts gX1_fadesIn_X1_asksIn rfl rfl rfl (by decide +kernel) ⟨Nat.le_of_ble_eq_true rfl, Nat.le_of_ble_eq_true rfl⟩) hE hP hD hS hA (k_pall _) ((k_pall _).symm) 0 rfl rfl rfl rfl hl.1 rfl (Nat.le_of_ble_eq_true rfl) dX1_fadesIn_1 ⟨Nat.le_of_ble_eq_true rfl, Nat.le_of_ble_eq_true rfl⟩ (fun H locs hP hD hS => ?_)
  have hP : va_P g.1 vwCl (wH g a h) _ := hP
  have hD : va_D A (wH g a h) := hD
  refine lv_istore_n (lv' := [(2, .int (HasksIn h)), (0, .ref (a 0)), (1, .int (nI k))]) hx hb dX1_fadesIn_4 rfl hl (by decide) rfl (fun ls hl => ?_)
  refine lv_aload_n hx hb dX1_fadesIn_5 rfl (lv_at hl 1 rfl) ?_
  refine lv_iload_n hx hb dX1_fadesIn_6 rfl (lv_at hl 2 rfl) ?_
  refine k_Vi (As := [.int (nI k)]) (r := (bI (¬ ((hL h) k) ≤ 0))) hF (c_X1_isWantedAt l g a h k (by omega)) (cwV 1 hts gX1_fadesIn_X1_isWantedAt rfl rfl rfl (by decide +kernel) ⟨Nat.le_of_ble_eq_true rfl, Nat.le_of_ble_eq_true rfl⟩) hE hP hD hS hA (k_pall _) ((k_pall _).symm) 0 rfl rfl rfl rfl hl.1 rfl (Nat.le_of_ble_eq_true rfl) dX1_fadesIn_7 ⟨Nat.le_of_ble_eq_true rfl, Nat.le_of_ble_eq_true rfl⟩ (fun H locs hP hD hS => ?_)
  have hP : va_P g.1 vwCl (wH g a h) _ := hP
  have hD : va_D A (wH g a h) := hD
  refine k_ifeqB (tgt := 23) hx hb dX1_fadesIn_10 (by decide) (fun c1 => ?_) (fun c1 => ?_)
  ·
    refine lv_aload_n hx hb dX1_fadesIn_23 rfl (lv_at hl 1 rfl) ?_
    refine va_get (D := g.1) (ci := 1) (v := .ref (a 2)) (C := RX1) (T := TX1) (N := 12) hx hb hts hiX1 hown hE.1 hP 0 rfl rfl 1 (by decide) f15 (fun _ h9 => h9) rfl dX1_fadesIn_24 ?_
    refine lv_iload_n hx hb dX1_fadesIn_27 rfl (lv_at hl 2 rfl) ?_
    refine k_iald (f := (hR h)) hx hb hE hP 2 rfl k rfl (by omega) (by decide) dX1_fadesIn_28 ?_
    have hP : va_P g.1 vwCl (wH g a h) _ := hP
    have hD : va_D A (wH g a h) := hD
    exact k_iret hx hb hr hlocks rfl (by first | (simp only [HfadesIn, bI, if_neg c1, if_pos c1]; done) | (simp only [HfadesIn, bI, if_neg c1, if_pos c1]; rfl) | rfl | (simp [HfadesIn, bI, if_neg c1, if_pos c1]; done)) hP hD hS (Nat.le_of_ble_eq_true rfl) (Nat.le_of_ble_eq_true rfl) dX1_fadesIn_29
  ·
    refine lv_aload_n hx hb dX1_fadesIn_13 rfl (lv_at hl 1 rfl) ?_
    refine va_get (D := g.1) (ci := 1) (v := .ref (a 2)) (C := RX1) (T := TX1) (N := 12) hx hb hts hiX1 hown hE.1 hP 0 rfl rfl 1 (by decide) f15 (fun _ h9 => h9) rfl dX1_fadesIn_14 ?_
    refine lv_iload_n hx hb dX1_fadesIn_17 rfl (lv_at hl 2 rfl) ?_
    refine k_iald (f := (hR h)) hx hb hE hP 2 rfl k rfl (by omega) (by decide) dX1_fadesIn_18 ?_
    refine lv_iload_n hx hb dX1_fadesIn_19 rfl (lv_at hl 0 rfl) ?_
    refine lv_icmp_ge (tgt := 30) hx hb dX1_fadesIn_20 (by decide) (fun c2 => ?_) (fun c2 => ?_)
    ·
      refine lv_aload_n hx hb dX1_fadesIn_30 rfl (lv_at hl 1 rfl) ?_
      refine va_get (D := g.1) (ci := 1) (v := .int (hfd h)) (C := RX1) (T := TX1) (N := 12) hx hb hts hiX1 hown hE.1 hP 0 rfl rfl 7 (by decide) f35 (fun _ h9 => h9) rfl dX1_fadesIn_31 ?_
      refine lv_aload_n hx hb dX1_fadesIn_34 rfl (lv_at hl 1 rfl) ?_
      refine k_Vi (As := []) (r := (Htbq h)) hF (c_X1_timeBetweenQuestions l g a h) (cwV 0 hts gX1_fadesIn_X1_timeBetweenQuestions rfl rfl rfl (by decide +kernel) ⟨Nat.le_of_ble_eq_true rfl, Nat.le_of_ble_eq_true rfl⟩) hE hP hD hS hA (k_pall _) ((k_pall _).symm) 0 rfl rfl rfl rfl hl.1 rfl (Nat.le_of_ble_eq_true rfl) dX1_fadesIn_35 ⟨Nat.le_of_ble_eq_true rfl, Nat.le_of_ble_eq_true rfl⟩ (fun H locs hP hD hS => ?_)
      have hP : va_P g.1 vwCl (wH g a h) _ := hP
      have hD : va_D A (wH g a h) := hD
      refine lv_icmp_ge (tgt := 50) hx hb dX1_fadesIn_38 (by decide) (fun c3 => ?_) (fun c3 => ?_)
      ·
        refine lv_iconst (v := (-1)) hx hb dX1_fadesIn_50 (by decide) ?_
        have hP : va_P g.1 vwCl (wH g a h) _ := hP
        have hD : va_D A (wH g a h) := hD
        exact k_iret hx hb hr hlocks rfl (by first | (simp only [HfadesIn, bI, if_pos c1, if_neg (not_not_intro c1), if_pos c2, if_neg (not_not_intro c2), if_pos c3, if_neg (not_not_intro c3)]; done) | (simp only [HfadesIn, bI, if_pos c1, if_neg (not_not_intro c1), if_pos c2, if_neg (not_not_intro c2), if_pos c3, if_neg (not_not_intro c3)]; rfl) | rfl | (simp [HfadesIn, bI, if_pos c1, if_neg (not_not_intro c1), if_pos c2, if_neg (not_not_intro c2), if_pos c3, if_neg (not_not_intro c3)]; done)) hP hD hS (Nat.le_of_ble_eq_true rfl) (Nat.le_of_ble_eq_true rfl) dX1_fadesIn_51
      ·
        refine lv_iload_n hx hb dX1_fadesIn_41 rfl (lv_at hl 0 rfl) ?_
        refine lv_aload_n hx hb dX1_fadesIn_42 rfl (lv_at hl 1 rfl) ?_
        refine va_get (D := g.1) (ci := 1) (v := .int (hfd h)) (C := RX1) (T := TX1) (N := 12) hx hb hts hiX1 hown hE.1 hP 0 rfl rfl 7 (by decide) f35 (fun _ h9 => h9) rfl dX1_fadesIn_43 ?_
        refine lv_iadd hx hb dX1_fadesIn_46 ?_
        refine lv_goto (tgt := 51) hx hb dX1_fadesIn_47 (by decide) ?_
        have hP : va_P g.1 vwCl (wH g a h) _ := hP
        have hD : va_D A (wH g a h) := hD
        exact k_iret hx hb hr hlocks rfl (by first | (simp only [HfadesIn, bI, if_pos c1, if_neg (not_not_intro c1), if_pos c2, if_neg (not_not_intro c2), if_neg c3, if_pos c3]; done) | (simp only [HfadesIn, bI, if_pos c1, if_neg (not_not_intro c1), if_pos c2, if_neg (not_not_intro c2), if_neg c3, if_pos c3]; rfl) | rfl | (simp [HfadesIn, bI, if_pos c1, if_neg (not_not_intro c1), if_pos c2, if_neg (not_not_intro c2), if_neg c3, if_pos c3]; done)) hP hD hS (Nat.le_of_ble_eq_true rfl) (Nat.le_of_ble_eq_true rfl) dX1_fadesIn_51
    ·
      refine lv_aload_n hx hb dX1_fadesIn_23 rfl (lv_at hl 1 rfl) ?_
      refine va_get (D := g.1) (ci := 1) (v := .ref (a 2)) (C := RX1) (T := TX1) (N := 12) hx hb hts hiX1 hown hE.1 hP 0 rfl rfl 1 (by decide) f15 (fun _ h9 => h9) rfl dX1_fadesIn_24 ?_
      refine lv_iload_n hx hb dX1_fadesIn_27 rfl (lv_at hl 2 rfl) ?_
      refine k_iald (f := (hR h)) hx hb hE hP 2 rfl k rfl (by omega) (by decide) dX1_fadesIn_28 ?_
      have hP : va_P g.1 vwCl (wH g a h) _ := hP
      have hD : va_D A (wH g a h) := hD
      exact k_iret hx hb hr hlocks rfl (by first | (simp only [HfadesIn, bI, if_pos c1, if_neg (not_not_intro c1), if_neg c2, if_pos c2]; done) | (simp only [HfadesIn, bI, if_pos c1, if_neg (not_not_intro c1), if_neg c2, if_pos c2]; rfl) | rfl | (simp [HfadesIn, bI, if_pos c1, if_neg (not_not_intro c1), if_neg c2, if_pos c2]; done)) hP hD hS (Nat.le_of_ble_eq_true rfl) (Nat.le_of_ble_eq_true rfl) dX1_fadesIn_29
set_option maxHeartbeats 4000000 in
set_option maxRecDepth 100000 in
theorem c_X1_disturbedIn (l : Launch) (g : kG) (a : Nat → Nat) (h : HSt) (c0 : Nat) (hc0 : c0 < 6) (sp : Nat) (hsp : sp ≤ 60) : KI l yX1_disturbedIn wsX1_disturbedIn ({ frames := 1, cells := 0, slots := 0, locals := 21 }) g [.ref (a 0), .int (nI c0), .int (nI sp)] (wH g a h) (nI (Hdist h c0 sp 8)) (wH g a h) 0 0 := by
  refine k_begin (cc := cX1_disturbedIn) (maxL := 6) (ret := (some .int)) (Qc := fun A => kQi g (nI (Hdist h c0 sp 8)) (wH g a h) A) (by decide) rfl (Nat.le_of_ble_eq_true rfl) ?_
  intro p e s m below meth c A ls hF hr hlocks hin hE hP hD hS hA hl
  obtain ⟨hx, hb, hml, hown, hts⟩ := id hF
  have hown : s.vm.findClass RX1 = some m.cls := hown
  have hl : lv_has ls 6 [(0, .ref (a 0)), (1, .int (nI c0)), (2, .int (nI sp))] := hl
  have hiX1 : ∀ w ∈ wsX10, w ∈ wsX1_disturbedIn := fun _ h => List.mem_cons_of_mem _ (List.mem_append_right _ (h))
  have sta_X3_placeOf : (Cond.static yX3_placeOf).before _ s = true := hts _ (List.mem_of_getElem? (i := 2) rfl)
  have ini_X3 : (Cond.initialized RX3).before _ s = true := hts _ (List.mem_of_getElem? (i := 3) rfl)
  have f15 : (Cond.fieldLink RX1 15 "ConcertUsher$Hall" "rests" "[I").before _ s = true := hts _ (List.mem_of_getElem? (i := 1) rfl)
  refine lv_iconst (v := (nI 0)) hx hb dX1_disturbedIn_0 (by decide) ?_
  refine lv_istore_n (lv' := [(3, .int (nI 0)), (0, .ref (a 0)), (1, .int (nI c0)), (2, .int (nI sp))]) hx hb dX1_disturbedIn_1 rfl hl (by decide) rfl (fun ls hl => ?_)
  refine lv_iconst (v := (nI 0)) hx hb dX1_disturbedIn_2 (by decide) ?_
  refine lv_istore (lv' := [(4, .int (nI 0)), (3, .int (nI 0)), (0, .ref (a 0)), (1, .int (nI c0)), (2, .int (nI sp))]) hx hb dX1_disturbedIn_3 hl (by decide) rfl (fun ls hl => ?_)
  refine k_loop (N := 8) (Inv := fun (i : Nat) (H : Heap) (locs : List Loc) (ls : Array Slot) => va_P g.1 vwCl (wH g a h) H ∧ va_D A (wH g a h) ∧ va_S A s.heap H locs ∧ lv_has ls 6 [(4, .int (nI i)), (3, .int (nI (Hdist h c0 sp i))), (0, .ref (a 0)), (1, .int (nI c0)), (2, .int (nI sp))]) 0 (Nat.zero_le _) ⟨hP, hD, hS, lv_sub hl [0, 1, 2, 3, 4] rfl⟩ (fun i hle2 ih1 H locs ls hinv => ?_)
  obtain ⟨hP, hD, hS, hl⟩ := hinv
  refine lv_iload hx hb dX1_disturbedIn_5 (lv_at hl 0 rfl) ?_
  refine lv_bipush (v := (nI 8)) hx hb dX1_disturbedIn_7 (by decide) ?_
  refine k_geN (tgt := 58) hx hb (by omega) (by decide) dX1_disturbedIn_9 (by decide) (fun c3 => ?_) (fun c3 => ?_)
  ·
    obtain rfl : 8 = i := by omega
    refine lv_iload_n hx hb dX1_disturbedIn_58 rfl (lv_at hl 1 rfl) ?_
    have hP : va_P g.1 vwCl (wH g a h) _ := hP
    have hD : va_D A (wH g a h) := hD
    exact k_iret hx hb hr hlocks rfl rfl hP hD hS (Nat.le_of_ble_eq_true rfl) (Nat.le_of_ble_eq_true rfl) dX1_disturbedIn_59
  ·
    refine lv_iload hx hb dX1_disturbedIn_12 (lv_at hl 0 rfl) ?_
    refine lv_iload_n hx hb dX1_disturbedIn_14 rfl (lv_at hl 3 rfl) ?_
    refine k_SNi (w0 := []) (w1 := []) (As := [.int (nI i), .int (nI c0)]) (r := (nI (i * 6 + c0))) hF (c_X3_placeOf l g i c0) ⟨va_cnB 2 hts gX1_disturbedIn_X3_placeOf_n70 rfl rfl rfl hE.2.1.1 ini_X3 (by decide +kernel) ⟨Nat.le_of_ble_eq_true rfl, Nat.le_of_ble_eq_true rfl⟩, sta_X3_placeOf, trivial⟩ hE hP hD hS hA (List.Perm.refl _) (List.Perm.refl _) rfl hl.1 rfl (Nat.le_of_ble_eq_true rfl) dX1_disturbedIn_15 ⟨Nat.le_of_ble_eq_true rfl, Nat.le_of_ble_eq_true rfl⟩ (fun H locs hP hD hS => ?_)
    have hP : va_P g.1 vwCl (wH g a h) _ := hP
    have hD : va_D A (wH g a h) := hD
    refine lv_istore (lv' := [(5, .int (nI (i * 6 + c0))), (4, .int (nI i)), (3, .int (nI (Hdist h c0 sp i))), (0, .ref (a 0)), (1, .int (nI c0)), (2, .int (nI sp))]) hx hb dX1_disturbedIn_18 hl (by decide) rfl (fun ls hl => ?_)
    refine lv_aload_n hx hb dX1_disturbedIn_20 rfl (lv_at hl 3 rfl) ?_
    refine lv_iload hx hb dX1_disturbedIn_21 (lv_at hl 0 rfl) ?_
    refine k_Vi (As := [.int (nI (i * 6 + c0))]) (r := (bI (¬ ((hL h) (i * 6 + c0)) ≤ 0))) hF (c_X1_isWantedAt l g a h (i * 6 + c0) (by omega)) (cwV 1 hts gX1_disturbedIn_X1_isWantedAt rfl rfl rfl (by decide +kernel) ⟨Nat.le_of_ble_eq_true rfl, Nat.le_of_ble_eq_true rfl⟩) hE hP hD hS hA (k_pall _) ((k_pall _).symm) 0 rfl rfl rfl rfl hl.1 rfl (Nat.le_of_ble_eq_true rfl) dX1_disturbedIn_23 ⟨Nat.le_of_ble_eq_true rfl, Nat.le_of_ble_eq_true rfl⟩ (fun H locs hP hD hS => ?_)
    have hP : va_P g.1 vwCl (wH g a h) _ := hP
    have hD : va_D A (wH g a h) := hD
    refine k_ifneB (tgt := 52) hx hb dX1_disturbedIn_26 (by decide) (fun c4 => ?_) (fun c4 => ?_)
    ·
      refine lv_iinc (v := (nI (i + 1))) (lv' := [(4, .int (nI (i + 1))), (5, .int (nI (i * 6 + c0))), (3, .int (nI (Hdist h c0 sp i))), (0, .ref (a 0)), (1, .int (nI c0)), (2, .int (nI sp))]) hx hb dX1_disturbedIn_52 hl (k := 1) rfl (k_inc1 _) (by decide) rfl (fun ls hl => ?_)
      refine lv_goto (tgt := 5) hx hb dX1_disturbedIn_55 (by decide) ?_
      have e5 : (nI (Hdist h c0 sp (i + 1))) = (nI (Hdist h c0 sp i)) := (by first | (simp only [Hdist, bI, if_neg (Nat.not_le.mpr c3), if_pos (Nat.not_le.mpr c3), if_pos c4, if_neg (not_not_intro c4)]; done) | (simp only [Hdist, bI, if_neg (Nat.not_le.mpr c3), if_pos (Nat.not_le.mpr c3), if_pos c4, if_neg (not_not_intro c4)]; rfl) | rfl | (simp [Hdist, bI, if_neg (Nat.not_le.mpr c3), if_pos (Nat.not_le.mpr c3), if_pos c4, if_neg (not_not_intro c4)]; done))
      exact ih1 _ _ _ (by omega) ⟨hP, hD, hS, (by rw [e5]; exact lv_sub hl [0, 2, 3, 4, 5] rfl)⟩
    ·
      refine lv_aload_n hx hb dX1_disturbedIn_29 rfl (lv_at hl 3 rfl) ?_
      refine lv_iload hx hb dX1_disturbedIn_30 (lv_at hl 1 rfl) ?_
      refine k_Vi (As := [.int (nI i)]) (r := (bI (Hopen h i))) hF (c_X1_isRowOpen l g a h i (by omega)) (cwV 1 hts gX1_disturbedIn_X1_isRowOpen rfl rfl rfl (by decide +kernel) ⟨Nat.le_of_ble_eq_true rfl, Nat.le_of_ble_eq_true rfl⟩) hE hP hD hS hA (k_pall _) ((k_pall _).symm) 0 rfl rfl rfl rfl hl.1 rfl (Nat.le_of_ble_eq_true rfl) dX1_disturbedIn_32 ⟨Nat.le_of_ble_eq_true rfl, Nat.le_of_ble_eq_true rfl⟩ (fun H locs hP hD hS => ?_)
      have hP : va_P g.1 vwCl (wH g a h) _ := hP
      have hD : va_D A (wH g a h) := hD
      refine k_ifneB (tgt := 49) hx hb dX1_disturbedIn_35 (by decide) (fun c6 => ?_) (fun c6 => ?_)
      ·
        refine lv_iinc (v := (nI ((Hdist h c0 sp i) + 1))) (lv' := [(3, .int (nI ((Hdist h c0 sp i) + 1))), (5, .int (nI (i * 6 + c0))), (4, .int (nI i)), (0, .ref (a 0)), (1, .int (nI c0)), (2, .int (nI sp))]) hx hb dX1_disturbedIn_49 hl (k := 2) rfl (k_inc1 _) (by decide) rfl (fun ls hl => ?_)
        refine lv_iinc (v := (nI (i + 1))) (lv' := [(4, .int (nI (i + 1))), (3, .int (nI ((Hdist h c0 sp i) + 1))), (5, .int (nI (i * 6 + c0))), (0, .ref (a 0)), (1, .int (nI c0)), (2, .int (nI sp))]) hx hb dX1_disturbedIn_52 hl (k := 2) rfl (k_inc1 _) (by decide) rfl (fun ls hl => ?_)
        refine lv_goto (tgt := 5) hx hb dX1_disturbedIn_55 (by decide) ?_
        have e7 : (nI (Hdist h c0 sp (i + 1))) = (nI ((Hdist h c0 sp i) + 1)) := (by first | (simp only [Hdist, bI, if_neg (Nat.not_le.mpr c3), if_pos (Nat.not_le.mpr c3), if_neg c4, if_pos c4, if_pos c6, if_neg (not_not_intro c6)]; done) | (simp only [Hdist, bI, if_neg (Nat.not_le.mpr c3), if_pos (Nat.not_le.mpr c3), if_neg c4, if_pos c4, if_pos c6, if_neg (not_not_intro c6)]; rfl) | rfl | (simp [Hdist, bI, if_neg (Nat.not_le.mpr c3), if_pos (Nat.not_le.mpr c3), if_neg c4, if_pos c4, if_pos c6, if_neg (not_not_intro c6)]; done))
        exact ih1 _ _ _ (by omega) ⟨hP, hD, hS, (by rw [e7]; exact lv_sub hl [0, 1, 3, 4, 5] rfl)⟩
      ·
        refine lv_aload_n hx hb dX1_disturbedIn_38 rfl (lv_at hl 3 rfl) ?_
        refine va_get (D := g.1) (ci := 1) (v := .ref (a 2)) (C := RX1) (T := TX1) (N := 12) hx hb hts hiX1 hown hE.1 hP 0 rfl rfl 1 (by decide) f15 (fun _ h9 => h9) rfl dX1_disturbedIn_39 ?_
        refine lv_iload hx hb dX1_disturbedIn_42 (lv_at hl 0 rfl) ?_
        refine k_iald (f := (hR h)) hx hb hE hP 2 rfl (i * 6 + c0) rfl (by omega) (by decide) dX1_disturbedIn_44 ?_
        refine lv_iload_n hx hb dX1_disturbedIn_45 rfl (lv_at hl 5 rfl) ?_
        refine lv_icmp_le (tgt := 52) hx hb dX1_disturbedIn_46 (by decide) (fun c8 => ?_) (fun c8 => ?_)
        ·
          refine lv_iinc (v := (nI (i + 1))) (lv' := [(4, .int (nI (i + 1))), (5, .int (nI (i * 6 + c0))), (3, .int (nI (Hdist h c0 sp i))), (0, .ref (a 0)), (1, .int (nI c0)), (2, .int (nI sp))]) hx hb dX1_disturbedIn_52 hl (k := 1) rfl (k_inc1 _) (by decide) rfl (fun ls hl => ?_)
          refine lv_goto (tgt := 5) hx hb dX1_disturbedIn_55 (by decide) ?_
          have e9 : (nI (Hdist h c0 sp (i + 1))) = (nI (Hdist h c0 sp i)) := (by first | (simp only [Hdist, bI, if_neg (Nat.not_le.mpr c3), if_pos (Nat.not_le.mpr c3), if_neg c4, if_pos c4, if_neg c6, if_pos c6, if_pos c8, if_neg (not_not_intro c8)]; done) | (simp only [Hdist, bI, if_neg (Nat.not_le.mpr c3), if_pos (Nat.not_le.mpr c3), if_neg c4, if_pos c4, if_neg c6, if_pos c6, if_pos c8, if_neg (not_not_intro c8)]; rfl) | rfl | (simp [Hdist, bI, if_neg (Nat.not_le.mpr c3), if_pos (Nat.not_le.mpr c3), if_neg c4, if_pos c4, if_neg c6, if_pos c6, if_pos c8, if_neg (not_not_intro c8)]; done))
          exact ih1 _ _ _ (by omega) ⟨hP, hD, hS, (by rw [e9]; exact lv_sub hl [0, 2, 3, 4, 5] rfl)⟩
        ·
          refine lv_iinc (v := (nI ((Hdist h c0 sp i) + 1))) (lv' := [(3, .int (nI ((Hdist h c0 sp i) + 1))), (5, .int (nI (i * 6 + c0))), (4, .int (nI i)), (0, .ref (a 0)), (1, .int (nI c0)), (2, .int (nI sp))]) hx hb dX1_disturbedIn_49 hl (k := 2) rfl (k_inc1 _) (by decide) rfl (fun ls hl => ?_)
          refine lv_iinc (v := (nI (i + 1))) (lv' := [(4, .int (nI (i + 1))), (3, .int (nI ((Hdist h c0 sp i) + 1))), (5, .int (nI (i * 6 + c0))), (0, .ref (a 0)), (1, .int (nI c0)), (2, .int (nI sp))]) hx hb dX1_disturbedIn_52 hl (k := 2) rfl (k_inc1 _) (by decide) rfl (fun ls hl => ?_)
          refine lv_goto (tgt := 5) hx hb dX1_disturbedIn_55 (by decide) ?_
          have e10 : (nI (Hdist h c0 sp (i + 1))) = (nI ((Hdist h c0 sp i) + 1)) := (by first | (simp only [Hdist, bI, if_neg (Nat.not_le.mpr c3), if_pos (Nat.not_le.mpr c3), if_neg c4, if_pos c4, if_neg c6, if_pos c6, if_neg c8, if_pos c8]; done) | (simp only [Hdist, bI, if_neg (Nat.not_le.mpr c3), if_pos (Nat.not_le.mpr c3), if_neg c4, if_pos c4, if_neg c6, if_pos c6, if_neg c8, if_pos c8]; rfl) | rfl | (simp [Hdist, bI, if_neg (Nat.not_le.mpr c3), if_pos (Nat.not_le.mpr c3), if_neg c4, if_pos c4, if_neg c6, if_pos c6, if_neg c8, if_pos c8]; done))
          exact ih1 _ _ _ (by omega) ⟨hP, hD, hS, (by rw [e10]; exact lv_sub hl [0, 1, 3, 4, 5] rfl)⟩
