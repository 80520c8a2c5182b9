/-! what the reference's methods do -/
theorem k_P_ext {D : va_G} {cl : List vw_C} {a n : Nat} {cA : ClassId} {ws ws2 : va_W} {f f2 : Nat → Int32} {H : Heap} (p : Nat) (hq : ws[p]? = some (a, .inl (cA, n, .inl f))) (hw : ws.set p (a, .inl (cA, n, .inl f2)) = ws2) (hf : ∀ k, k < n → f k = f2 k) (hP : va_P D cl ws H) : va_P D cl ws2 H := by
  subst hw
  have hp : p < ws.length := by
    by_cases c : p < ws.length
    · exact c
    · rw [List.getElem?_eq_none (by omega)] at hq; cases hq
  intro k q hq2
  by_cases hk : k = p
  · subst hk
    rw [List.getElem?_set_self hp] at hq2
    cases hq2
    exact k_at_ext hf (hP k _ hq)
  · rw [List.getElem?_set_ne (Ne.symm hk)] at hq2
    exact hP k q hq2
theorem k_D_ext {A : Nat → Prop} {a : Nat} {e0 e : va_E} {ws ws2 : va_W} (p : Nat) (hq : ws[p]? = some (a, e0)) (hw : ws.set p (a, e) = ws2) (hD : va_D A ws) : va_D A ws2 := by
  subst hw
  exact hD.set (p := p) (a := a) (e0 := e0) (e := e) hq
def b01 (P : Prop) [Decidable P] : Nat := if P then 1 else 0
theorem b01_lt {P : Prop} [Decidable P] : b01 P < 2 := by unfold b01; split <;> omega
theorem b01_lt31 {P : Prop} [Decidable P] : b01 P < 2 ^ 31 := Nat.lt_trans b01_lt (by decide)
theorem b01_t {P : Prop} [Decidable P] (h : P) : b01 P = 1 := if_pos h
theorem b01_f {P : Prop} [Decidable P] (h : ¬ P) : b01 P = 0 := if_neg h
theorem b01_0 {P : Prop} [Decidable P] : b01 P = 0 ↔ ¬ P := by
  by_cases h : P
  · rw [b01_t h]; exact ⟨fun z => absurd z (by decide), fun z => absurd h z⟩
  · rw [b01_f h]; exact ⟨fun _ => h, fun _ => rfl⟩
abbrev pairOK (row con : Int32) : Prop := (nI 0 ≤ row ∧ row ≤ nI 7) ∧ nI 0 ≤ con ∧ con ≤ nI 5
def Mcalls (k : Nat) (s : Nat → Int32) : Nat → Int32 := upd (upd s (69 + k) (s 0)) 12 ((upd s (69 + k) (s 0)) 12 + nI 1)
def Mcomes (k : Nat) (s : Nat → Int32) : Nat → Int32 := Mcalls k (upd s (21 + k) (s (21 + k) + nI 1))
def Mask (k : Nat) (s : Nat → Int32) : Nat → Int32 := if s (21 + k) ≤ 0 then s else Mcalls k s
def Mfare2 (k : Nat) (s : Nat → Int32) : Nat → Int32 := if s (69 + k) ≤ s 1 then s else Mask k (upd (upd s (69 + k) (s 1)) 11 ((upd s (69 + k) (s 1)) 11 + nI 1))
def Mfare (k : Nat) (s : Nat → Int32) : Nat → Int32 := if s 3 = nI 1 then (if s (21 + k) = 0 then upd s (69 + k) (nI 0) else Mfare2 k s) else Mfare2 k s
def Mleaves (k b : Nat) (s : Nat → Int32) : Nat → Int32 := if b = 0 then upd s (21 + k) (s (21 + k) - nI 1) else Mfare k (upd s (21 + k) (s (21 + k) - nI 1))
/-- the first n of f, laid into h -/
def cpN (f h : Nat → Int32) : Nat → Nat → Int32
  | 0 => h
  | n + 1 => upd (cpN f h n) n (f n)
theorem cpN_in {f h : Nat → Int32} {n k : Nat} (hk : k < n) : cpN f h n k = f k := by
  induction n with
  | zero => exact absurd hk (Nat.not_lt_zero k)
  | succ n ih =>
    show upd (cpN f h n) n (f n) k = f k
    unfold upd
    by_cases e : k = n
    · rw [if_pos e, e]
    · rw [if_neg e]; exact ih (by omega)
def shN (v : Nat → Int32) : Nat → Nat → Int32
  | 0 => v
  | n + 1 => upd (shN v n) n ((shN v n) (n + 120))
def cpB (s v : Nat → Int32) (j : Nat) : Nat → Nat → Int32
  | 0 => v
  | n + 1 => upd (cpB s v j n) (120 * j + n) (s n)
def Msv (s v : Nat → Int32) (j : Nat) : Nat → Int32 := if ¬ j = 6 then cpB s v j 120 else cpB s (shN v 600) 5 120
def Mchief (s : Nat → Int32) : Int32 := if s 4 ≤ nI 3 then (if s 4 ≤ nI 1 then nI 0 else nI 1) else nI 2
abbrev Mgoes (s : Nat → Int32) (r c : Nat) : Prop := s (13 + r) = nI 1 ∨ ¬ s (69 + (6 * r + c)) ≤ 0
abbrev Mwants (s : Nat → Int32) (r c : Nat) : Prop := ¬ s (21 + (6 * r + c)) ≤ 0
def Ment (s : Nat → Int32) : Nat → Int32
  | 0 => nI 0
  | n + 1 => Ment s n + bI (¬ s (69 + n) ≤ 0)
def Mrow (s : Nat → Int32) (c : Nat) : Nat → Int32
  | 0 => nI 0
  | n + 1 => Mrow s c n ||| (if Mgoes s n c then (nI 1 <<< (nI n &&& 31)) else nI 0)
def Mwan (s : Nat → Int32) (c : Nat) : Nat → Int32
  | 0 => nI 0
  | n + 1 => Mwan s c n ||| (if Mwants s n c then (nI 1 <<< (nI n &&& 31)) else nI 0)
def Mdue (s : Nat → Int32) : Int32 := if Mchief s = 0 then s 2 else nI 2 * s 2
def MfadeN (s : Nat → Int32) : Nat → Nat → Int32
  | 0 => s
  | n + 1 => upd (MfadeN s n) (69 + n) (MfadeN s n (69 + n) - bI (¬ MfadeN s n (69 + n) ≤ 0))
def MaskN (s : Nat → Int32) : Nat → Nat → Int32
  | 0 => s
  | n + 1 => if MaskN s n (21 + n) ≤ 0 then MaskN s n else Mcalls n (MaskN s n)
def Mt1 (s : Nat → Int32) : Nat → Int32 := upd (MfadeN s 48) 5 (MfadeN s 48 5 + nI 1)
def Mtk (s : Nat → Int32) : Nat → Int32 := upd (Mt1 s) 6 (Mt1 s 6 + nI 1)
def Mq1 (s : Nat → Int32) : Nat → Int32 := upd (upd (Mtk s) 6 (nI 0)) 10 ((upd (Mtk s) 6 (nI 0)) 10 + nI 1)
abbrev Masks (s : Nat → Int32) : Prop := ¬ Mtk s 6 < Mdue (Mtk s)
def Mgo (s : Nat → Int32) : Nat → Int32 := if ¬ Mtk s 6 < Mdue (Mtk s) then MaskN (Mq1 s) 48 else Mtk s
def MgoN (s : Nat → Int32) : Nat → Nat → Int32
  | 0 => s
  | n + 1 => Mgo (MgoN s n)
def MgoQ (s : Nat → Int32) : Nat → Int32
  | 0 => nI 0
  | n + 1 => MgoQ s n + bI (Masks (MgoN s n))
def Mp0 (s : Nat → Int32) (n c : Nat) : Nat → Int32 := upd s 7 (s 7 + bI (Mgoes s n c ∧ Mwants s n c))
def Mp1 (s : Nat → Int32) (P Q : Prop) [Decidable P] [Decidable Q] : Nat → Int32 :=
  upd (upd (upd s 7 (s 7 + bI (P ∧ Q))) 8 ((upd s 7 (s 7 + bI (P ∧ Q))) 8 + bI (P ∧ ¬ Q))) 9 ((upd (upd s 7 (s 7 + bI (P ∧ Q))) 8 ((upd s 7 (s 7 + bI (P ∧ Q))) 8 + bI (P ∧ ¬ Q))) 9 + bI (¬ P ∧ Q))
def MplayN (s : Nat → Int32) (c : Nat) : Nat → Nat → Int32
  | 0 => s
  | n + 1 => Mp1 (MplayN s c n) (Mgoes (MplayN s c n) n c) (Mwants (MplayN s c n) n c)
def MplayQ (s : Nat → Int32) (c : Nat) : Nat → Int32
  | 0 => nI 0
  | n + 1 => MplayQ s c n + bI (Mgoes (MplayN s c n) n c)
/-- how many minutes until the entry is gone, from the minute i on, m more at most -/
def Mst (s : Nat → Int32) (k : Nat) : Nat → Nat → Nat
  | i, 0 => i
  | i, m + 1 => if MgoN s i (69 + k) ≤ 0 then i else Mst s k (i + 1) m
theorem Mst_go {s : Nat → Int32} {k i : Nat} (hi : i < 150) : Mst s k i (150 - i) = if MgoN s i (69 + k) ≤ 0 then i else Mst s k (i + 1) (150 - (i + 1)) := by
  rw [show 150 - i = (150 - (i + 1)) + 1 by omega]; rfl
def Mfd (s : Nat → Int32) (k : Nat) : Int32 := if MgoN s (Mst s k 0 150) (69 + k) ≤ 0 then nI (Mst s k 0 150) else (-1)
def MasksIn (s : Nat → Int32) : Int32 := if nI 1 ≤ Mdue s - s 6 then Mdue s - s 6 else nI 1
def Mdist (s : Nat → Int32) (c : Nat) : Nat → Int32
  | 0 => nI 0
  | n + 1 => Mdist s c n + bI (Mgoes s n c ∧ ¬ Mwants s n c)
theorem in_nat {x : Int32} {a b : Nat} (ha : a < 2 ^ 31) (hb : b < 2 ^ 31) (h : nI a ≤ x ∧ x ≤ nI b) : ∃ k : Nat, (a ≤ k ∧ k ≤ b) ∧ x = nI k := by
  have h0 : ¬ x < 0 := fun z => absurd (Int32.lt_of_le_of_lt h.1 z) (nI_pos ha)
  obtain ⟨j, hj, rfl⟩ := nI_of h0
  exact ⟨j, ⟨(nI_leI ha hj).mp h.1, (nI_leI hj hb).mp h.2⟩, rfl⟩
def plM (row con : Int32) : Nat := 6 * row.toNatClampNeg + con.toNatClampNeg
theorem plM_eq {row con : Int32} {r c : Nat} (hr : r ≤ 7) (hc : c ≤ 5) (h1 : row = nI r) (h2 : con = nI c) : plM row con = 6 * r + c := by
  unfold plM
  rw [h1, h2, nI_clamp (by omega), nI_clamp (by omega)]
abbrev Mkeep (j : Nat) (m : MSt) : MSt := sMsm (sMsv m (Msv (ms m) (msv m) j)) (nI (kSz j))
abbrev conOK (con : Int32) : Prop := nI 0 ≤ con ∧ con ≤ nI 5
abbrev minOK (x : Int32) : Prop := nI 1 ≤ x ∧ x ≤ nI 60
def Mcome (j : Nat) (row con : Int32) (m : MSt) : MSt := if pairOK row con then (if ms m (21 + plM row con) = nI 9 then sMth m (nI 2) else sMs (Mkeep j (sMth m (nI 0))) (Mcomes (plM row con) (ms m))) else sMth m (nI 1)
def McomeR (row con : Int32) (m : MSt) : Int32 := if pairOK row con then (if ms m (21 + plM row con) = nI 9 then nI 0 else Mcomes (plM row con) (ms m) (21 + plM row con)) else nI 0
def Mleave (j : Nat) (row con : Int32) (b : Nat) (m : MSt) : MSt := if pairOK row con then (if ¬ ms m (21 + plM row con) = 0 then sMs (Mkeep j (sMth m (nI 0))) (Mleaves (plM row con) b (ms m)) else sMth m (nI 2)) else sMth m (nI 1)
def MleaveR (row con : Int32) (b : Nat) (m : MSt) : Int32 := if pairOK row con then (if ¬ ms m (21 + plM row con) = 0 then Mleaves (plM row con) b (ms m) (21 + plM row con) else nI 0) else nI 0
def Mpair (row con : Int32) (m : MSt) : MSt := if pairOK row con then sMth m (nI 0) else sMth m (nI 1)
def Mcon (con : Int32) (m : MSt) : MSt := if conOK con then sMth m (nI 0) else sMth m (nI 1)
def MlisR (row con : Int32) (m : MSt) : Int32 := if pairOK row con then ms m (21 + plM row con) else nI 0
def MrestR (row con : Int32) (m : MSt) : Int32 := if pairOK row con then ms m (69 + plM row con) else nI 0
abbrev rowOK (row : Int32) : Prop := nI 0 ≤ row ∧ row ≤ nI 7
def MopenS (j : Nat) (row : Int32) (b : Nat) (m : MSt) : MSt := if rowOK row then sMs (Mkeep j (sMth m (nI 0))) (upd (ms m) (13 + row.toNatClampNeg) (nI b)) else sMth m (nI 1)
def MopenR (row : Int32) (m : MSt) : Int32 := if rowOK row then bI (ms m (13 + row.toNatClampNeg) = nI 1) else nI 0
def MopenQ (row : Int32) (m : MSt) : MSt := if rowOK row then sMth m (nI 0) else sMth m (nI 1)
def MtimesS (j : Nat) (a b c : Int32) (m : MSt) : MSt := if nI 2 ≤ a ∧ a ≤ nI 60 then (if nI 1 ≤ b ∧ b ≤ nI 10 then (if nI 1 ≤ c ∧ c ≤ nI 30 then sMs (Mkeep j (sMth m (nI 0))) (upd (upd (upd (ms m) 0 a) 1 b) 2 c) else sMth m (nI 1)) else sMth m (nI 1)) else sMth m (nI 1)
def MtimesR (a b c : Int32) (m : MSt) : Int32 := if nI 2 ≤ a ∧ a ≤ nI 60 then (if nI 1 ≤ b ∧ b ≤ nI 10 then (if nI 1 ≤ c ∧ c ≤ nI 30 then ms m 0 else nI 0) else nI 0) else nI 0
def Mpres (u : Int32) (b : Nat) (s : Nat → Int32) : Nat → Int32 := upd s 4 ((s 4 &&& ((nI 1 <<< (u &&& 31)) ^^^ (-1))) ||| (if b = 0 then nI 0 else (nI 1 <<< (u &&& 31))))
def MpresS (j : Nat) (u : Int32) (b : Nat) (m : MSt) : MSt := if nI 1 ≤ u ∧ u ≤ nI 2 then sMs (Mkeep j (sMth m (nI 0))) (Mpres u b (ms m)) else sMth m (nI 1)
def MpresR (u : Int32) (b : Nat) (m : MSt) : Int32 := if nI 1 ≤ u ∧ u ≤ nI 2 then Mchief (Mpres u b (ms m)) else nI 0
def MrowsR (con : Int32) (m : MSt) : Int32 := if conOK con then Mrow (ms m) con.toNatClampNeg 8 else nI 0
def MwanR (con : Int32) (m : MSt) : Int32 := if conOK con then Mwan (ms m) con.toNatClampNeg 8 else nI 0
def MpassS (j : Nat) (x : Int32) (m : MSt) : MSt := if minOK x then sMs (Mkeep j (sMth m (nI 0))) (MgoN (ms m) x.toNatClampNeg) else sMth m (nI 1)
def MpassR (x : Int32) (m : MSt) : Int32 := if minOK x then MgoQ (ms m) x.toNatClampNeg else nI 0
def MplayS (j : Nat) (con : Int32) (m : MSt) : MSt := if conOK con then sMs (Mkeep j (sMth m (nI 0))) (MplayN (ms m) con.toNatClampNeg 8) else sMth m (nI 1)
def MplayR (con : Int32) (m : MSt) : Int32 := if conOK con then MplayQ (ms m) con.toNatClampNeg 8 else nI 0
def McntS (x : Int32) (m : MSt) : MSt := if nI 0 ≤ x ∧ x ≤ nI 5 then sMth m (nI 0) else sMth m (nI 1)
def McntR (x : Int32) (m : MSt) : Int32 := if nI 0 ≤ x ∧ x ≤ nI 5 then ms m (7 + x.toNatClampNeg) else nI 0
def MfadeS (row con : Int32) (m : MSt) : MSt := if pairOK row con then sMas (sMth m (nI 0)) (ms m) else sMth m (nI 1)
def MfadeR (row con : Int32) (m : MSt) : Int32 := if pairOK row con then Mfd (ms m) (plM row con) else nI 0
def MdistS (con x : Int32) (m : MSt) : MSt := if conOK con then (if minOK x then sMas (sMth m (nI 0)) (ms m) else sMth m (nI 2)) else sMth m (nI 1)
def MdistR (con x : Int32) (m : MSt) : Int32 := if conOK con then (if minOK x then Mdist (MgoN (ms m) x.toNatClampNeg) con.toNatClampNeg 8 else nI 0) else nI 0
abbrev codeOK (x : Int32) : Prop := nI 33 ≤ x ∧ x ≤ nI 126
def MappS (n : Nat) (x : Int32) (m : MSt) : MSt := if codeOK x then (if n = 60 then sMth m (nI 2) else sMln (sMbf (sMth m (nI 0)) (upd (mbf m) n x)) (nI (n + 1))) else sMth m (nI 1)
def MappR (n : Nat) (x : Int32) : Int32 := if codeOK x then (if n = 60 then nI 0 else nI (n + 1)) else nI 0
def MundoS (j : Nat) (m : MSt) : MSt := if j = 0 then sMth m (nI 1) else sMs (sMsm (sMth m (nI 0)) (nI (j - 1))) (cpN (fun k => msv m (120 * (j - 1) + k)) (ms m) 120)
def MundoR (j : Nat) : Int32 := if j = 0 then nI 0 else nI (j - 1)
def MdgC (f : Nat → Int32) (x : Int64) : Nat → Int64
  | 0 => x
  | n + 1 => mixI (MdgC f x n) (f (7 + n))
def MdgM (s : Nat → Int32) (x : Int64) : Nat → Int64
  | 0 => x
  | n + 1 => mixI (mixI (MdgM s x n) (Mrow s n 8)) (Mwan s n 8)
def MdgK1 (s : Nat → Int32) (x : Int64) (n : Nat) : Int64 := if n % 6 = 0 then mixI x (s (13 + n / 6)) else x
def MdgK (s : Nat → Int32) (x : Int64) : Nat → Int64
  | 0 => x
  | n + 1 => mixI (mixI (mixI (MdgK1 s (MdgK s x n) n) (s (21 + n))) (s (69 + n))) (Mfd s n)
def Mdig (s : Nat → Int32) : Int64 := MdgK s (MdgM s (MdgC s (mixI (mixI (mixI (mixI (mixI 4701 (s 5)) (s 6)) (Mchief s)) (Ment s 48)) (MasksIn s)) 6) 6) 48
def MdigS (m : MSt) : MSt := sMas (sMhs (sMth m (nI 0)) (Mdig (ms m))) (ms m)
set_option maxHeartbeats 4000000 in
set_option maxRecDepth 100000 in
theorem c_X4_in (l : Launch) (g : kG) (x y z : Int32) : KI l yX4_in wsX4_in ({ frames := 0, cells := 0, slots := 0, locals := 0 }) g [.int x, .int y, .int z] [] (bI (y ≤ x ∧ x ≤ z)) [] 0 0 := by
  refine k_begin (cc := cX4_in) (maxL := 3) (ret := (some .boolean)) (Qc := fun A => kQi g (bI (y ≤ x ∧ x ≤ z)) [] A) (by decide) rfl (Nat.le_of_ble_eq_true rfl) ?_
  intro p e s m below meth c A ls hF hr hlocks hin hE hP hD hS hA hl
  obtain ⟨hx, hb, hml, hown, hts⟩ := id hF
  have hown : s.vm.findClass RX4 = some m.cls := hown
  have hl : lv_has ls 3 [(0, .int x), (1, .int y), (2, .int z)] := hl
  refine lv_iload_n hx hb dX4_in_0 rfl (lv_at hl 0 rfl) ?_
  refine lv_iload_n hx hb dX4_in_1 rfl (lv_at hl 1 rfl) ?_
  refine lv_icmp_lt (tgt := 14) hx hb dX4_in_2 (by decide) (fun c1 => ?_) (fun c1 => ?_)
  ·
    refine lv_iconst (v := (nI 0)) hx hb dX4_in_14 (by decide) ?_
    have hP : va_P g.1 vwCl [] _ := hP
    have hD : va_D A [] := hD
    exact k_iret hx hb hr hlocks rfl (bI_f (fun h9 => absurd ‹_› (Int32.not_lt.mpr h9.1))).symm hP hD hS (Nat.le_of_ble_eq_true rfl) (Nat.le_of_ble_eq_true rfl) dX4_in_15
  ·
    refine lv_iload_n hx hb dX4_in_5 rfl (lv_at hl 0 rfl) ?_
    refine lv_iload_n hx hb dX4_in_6 rfl (lv_at hl 2 rfl) ?_
    refine lv_icmp_gt (tgt := 14) hx hb dX4_in_7 (by decide) (fun c2 => ?_) (fun c2 => ?_)
    ·
      refine lv_iconst (v := (nI 0)) hx hb dX4_in_14 (by decide) ?_
      have hP : va_P g.1 vwCl [] _ := hP
      have hD : va_D A [] := hD
      exact k_iret hx hb hr hlocks rfl (bI_f (fun h9 => absurd ‹_› (Int32.not_lt.mpr h9.2))).symm hP hD hS (Nat.le_of_ble_eq_true rfl) (Nat.le_of_ble_eq_true rfl) dX4_in_15
    ·
      refine lv_iconst (v := (nI 1)) hx hb dX4_in_10 (by decide) ?_
      refine lv_goto (tgt := 15) hx hb dX4_in_11 (by decide) ?_
      have hP : va_P g.1 vwCl [] _ := hP
      have hD : va_D A [] := hD
      exact k_iret hx hb hr hlocks rfl (bI_t ⟨Int32.not_lt.mp ‹_›, Int32.not_lt.mp ‹_›⟩).symm hP hD hS (Nat.le_of_ble_eq_true rfl) (Nat.le_of_ble_eq_true rfl) dX4_in_15
set_option maxHeartbeats 4000000 in
set_option maxRecDepth 100000 in
theorem c_X4_cellOf (l : Launch) (g : kG) (r c9 : Nat) : KI l yX4_cellOf wsX4_cellOf ({ frames := 0, cells := 0, slots := 0, locals := 0 }) g [.int (nI r), .int (nI c9)] [] (nI (6 * r + c9)) [] 0 0 := by
  refine k_begin (cc := cX4_cellOf) (maxL := 2) (ret := (some .int)) (Qc := fun A => kQi g (nI (6 * r + c9)) [] A) (by decide) rfl (Nat.le_of_ble_eq_true rfl) ?_
  intro p e s m below meth c A ls hF hr hlocks hin hE hP hD hS hA hl
  obtain ⟨hx, hb, hml, hown, hts⟩ := id hF
  have hown : s.vm.findClass RX4 = some m.cls := hown
  have hl : lv_has ls 2 [(0, .int (nI r)), (1, .int (nI c9))] := hl
  refine lv_bipush (v := (nI 6)) hx hb dX4_cellOf_0 (by decide) ?_
  refine lv_iload_n hx hb dX4_cellOf_2 rfl (lv_at hl 0 rfl) ?_
  refine lv_imul hx hb dX4_cellOf_3 ?_
  refine k_top (pk_mul _ _) ?_
  refine lv_iload_n hx hb dX4_cellOf_4 rfl (lv_at hl 1 rfl) ?_
  refine lv_iadd hx hb dX4_cellOf_5 ?_
  refine k_top (nI_add _ _) ?_
  have hP : va_P g.1 vwCl [] _ := hP
  have hD : va_D A [] := hD
  exact k_iret hx hb hr hlocks rfl (by first | rfl | (simp only [bI]; done) | (simp only [bI]; rfl) | (simp [bI]; done)) hP hD hS (Nat.le_of_ble_eq_true rfl) (Nat.le_of_ble_eq_true rfl) dX4_cellOf_6
set_option maxHeartbeats 4000000 in
set_option maxRecDepth 100000 in
theorem c_X4_isPair (l : Launch) (g : kG) (row con : Int32) : KI l yX4_isPair wsX4_isPair ({ frames := 1, cells := 0, slots := 0, locals := 22 }) g [.int row, .int con] [] (bI (pairOK row con)) [] 0 0 := by
  refine k_begin (cc := cX4_isPair) (maxL := 2) (ret := (some .boolean)) (Qc := fun A => kQi g (bI (pairOK row con)) [] A) (by decide) rfl (Nat.le_of_ble_eq_true rfl) ?_
  intro p e s m below meth c A ls hF hr hlocks hin hE hP hD hS hA hl
  obtain ⟨hx, hb, hml, hown, hts⟩ := id hF
  have hown : s.vm.findClass RX4 = some m.cls := hown
  have hl : lv_has ls 2 [(0, .int row), (1, .int con)] := hl
  refine lv_iload_n hx hb dX4_isPair_0 rfl (lv_at hl 0 rfl) ?_
  refine lv_iconst (v := (nI 0)) hx hb dX4_isPair_1 (by decide) ?_
  refine lv_bipush (v := (nI 7)) hx hb dX4_isPair_2 (by decide) ?_
  refine k_Si (w0 := []) (w1 := []) (As := [.int row, .int (nI 0), .int (nI 7)]) (r := (bI ((nI 0) ≤ row ∧ row ≤ (nI 7)))) hF (c_X4_in l g row (nI 0) (nI 7)) (va_cwS 3 hts gX4_isPair_X4_in rfl rfl rfl (by decide +kernel) ⟨Nat.le_of_ble_eq_true rfl, Nat.le_of_ble_eq_true rfl⟩) hE hP hD hS hA (List.Perm.refl _) (List.Perm.refl _) rfl hl.1 rfl (Nat.le_of_ble_eq_true rfl) dX4_isPair_4 ⟨Nat.le_of_ble_eq_true rfl, Nat.le_of_ble_eq_true rfl⟩ (fun H locs hP hD hS => ?_)
  have hP : va_P g.1 vwCl [] _ := hP
  have hD : va_D A [] := hD
  refine k_ifeqB (tgt := 23) hx hb dX4_isPair_7 (by decide) (fun c1 => ?_) (fun c1 => ?_)
  ·
    refine lv_iconst (v := (nI 0)) hx hb dX4_isPair_23 (by decide) ?_
    have hP : va_P g.1 vwCl [] _ := hP
    have hD : va_D A [] := hD
    exact k_iret hx hb hr hlocks rfl (bI_f (fun h9 => c1 h9.1)).symm hP hD hS (Nat.le_of_ble_eq_true rfl) (Nat.le_of_ble_eq_true rfl) dX4_isPair_24
  ·
    refine lv_iload_n hx hb dX4_isPair_10 rfl (lv_at hl 1 rfl) ?_
    refine lv_iconst (v := (nI 0)) hx hb dX4_isPair_11 (by decide) ?_
    refine lv_iconst (v := (nI 5)) hx hb dX4_isPair_12 (by decide) ?_
    refine k_Si (w0 := []) (w1 := []) (As := [.int con, .int (nI 0), .int (nI 5)]) (r := (bI ((nI 0) ≤ con ∧ con ≤ (nI 5)))) hF (c_X4_in l g con (nI 0) (nI 5)) (va_cwS 3 hts gX4_isPair_X4_in rfl rfl rfl (by decide +kernel) ⟨Nat.le_of_ble_eq_true rfl, Nat.le_of_ble_eq_true rfl⟩) hE hP hD hS hA (List.Perm.refl _) (List.Perm.refl _) rfl hl.1 rfl (Nat.le_of_ble_eq_true rfl) dX4_isPair_13 ⟨Nat.le_of_ble_eq_true rfl, Nat.le_of_ble_eq_true rfl⟩ (fun H locs hP hD hS => ?_)
    have hP : va_P g.1 vwCl [] _ := hP
    have hD : va_D A [] := hD
    refine k_ifeqB (tgt := 23) hx hb dX4_isPair_16 (by decide) (fun c2 => ?_) (fun c2 => ?_)
    ·
      refine lv_iconst (v := (nI 0)) hx hb dX4_isPair_23 (by decide) ?_
      have hP : va_P g.1 vwCl [] _ := hP
      have hD : va_D A [] := hD
      exact k_iret hx hb hr hlocks rfl (bI_f (fun h9 => c2 h9.2)).symm hP hD hS (Nat.le_of_ble_eq_true rfl) (Nat.le_of_ble_eq_true rfl) dX4_isPair_24
    ·
      refine lv_iconst (v := (nI 1)) hx hb dX4_isPair_19 (by decide) ?_
      refine lv_goto (tgt := 24) hx hb dX4_isPair_20 (by decide) ?_
      have hP : va_P g.1 vwCl [] _ := hP
      have hD : va_D A [] := hD
      exact k_iret hx hb hr hlocks rfl (bI_t (by exact ⟨c1, c2⟩)).symm hP hD hS (Nat.le_of_ble_eq_true rfl) (Nat.le_of_ble_eq_true rfl) dX4_isPair_24
set_option maxHeartbeats 4000000 in
set_option maxRecDepth 100000 in
theorem c_X4_isConcert (l : Launch) (g : kG) (con : Int32) : KI l yX4_isConcert wsX4_isConcert ({ frames := 1, cells := 0, slots := 0, locals := 22 }) g [.int con] [] (bI (nI 0 ≤ con ∧ con ≤ nI 5)) [] 0 0 := by
  refine k_begin (cc := cX4_isConcert) (maxL := 1) (ret := (some .boolean)) (Qc := fun A => kQi g (bI (nI 0 ≤ con ∧ con ≤ nI 5)) [] A) (by decide) rfl (Nat.le_of_ble_eq_true rfl) ?_
  intro p e s m below meth c A ls hF hr hlocks hin hE hP hD hS hA hl
  obtain ⟨hx, hb, hml, hown, hts⟩ := id hF
  have hown : s.vm.findClass RX4 = some m.cls := hown
  have hl : lv_has ls 1 [(0, .int con)] := hl
  refine lv_iload_n hx hb dX4_isConcert_0 rfl (lv_at hl 0 rfl) ?_
  refine lv_iconst (v := (nI 0)) hx hb dX4_isConcert_1 (by decide) ?_
  refine lv_iconst (v := (nI 5)) hx hb dX4_isConcert_2 (by decide) ?_
  refine k_Si (w0 := []) (w1 := []) (As := [.int con, .int (nI 0), .int (nI 5)]) (r := (bI ((nI 0) ≤ con ∧ con ≤ (nI 5)))) hF (c_X4_in l g con (nI 0) (nI 5)) (va_cwS 3 hts gX4_isConcert_X4_in rfl rfl rfl (by decide +kernel) ⟨Nat.le_of_ble_eq_true rfl, Nat.le_of_ble_eq_true rfl⟩) hE hP hD hS hA (List.Perm.refl _) (List.Perm.refl _) rfl hl.1 rfl (Nat.le_of_ble_eq_true rfl) dX4_isConcert_3 ⟨Nat.le_of_ble_eq_true rfl, Nat.le_of_ble_eq_true rfl⟩ (fun H locs hP hD hS => ?_)
  have hP : va_P g.1 vwCl [] _ := hP
  have hD : va_D A [] := hD
  have hP : va_P g.1 vwCl [] _ := hP
  have hD : va_D A [] := hD
  exact k_iret hx hb hr hlocks bI_nar (by first | rfl | (simp only [bI]; done) | (simp only [bI]; rfl) | (simp [bI]; done)) hP hD hS (Nat.le_of_ble_eq_true rfl) (Nat.le_of_ble_eq_true rfl) dX4_isConcert_6
set_option maxHeartbeats 4000000 in
set_option maxRecDepth 100000 in
theorem c_X4_thrown (l : Launch) (g : kG) (a : Nat → Nat) (m9 : MSt) : KI l yX4_thrown wsX4_thrown ({ frames := 0, cells := 0, slots := 0, locals := 0 }) g [.ref (a 0)] (wM g a m9) (mth m9) (wM g a m9) 0 0 := by
  refine k_begin (cc := cX4_thrown) (maxL := 1) (ret := (some .int)) (Qc := fun A => kQi g (mth m9) (wM g a m9) A) (by decide) rfl (Nat.le_of_ble_eq_true rfl) ?_
  intro p e s m below meth c A ls hF hr hlocks hin hE hP hD hS hA hl
  obtain ⟨hx, hb, hml, hown, hts⟩ := id hF
  have hown : s.vm.findClass RX4 = some m.cls := hown
  have hl : lv_has ls 1 [(0, .ref (a 0))] := hl
  have hiX4 : ∀ w ∈ wsX40, w ∈ wsX4_thrown := fun _ h => List.mem_cons_of_mem _ (List.mem_append_right _ (h))
  have f25 : (Cond.fieldLink RX4 25 "ConcertUsherModel" "thrown" "I").before _ s = true := hts _ (List.mem_of_getElem? (i := 1) rfl)
  refine lv_aload_n hx hb dX4_thrown_0 rfl (lv_at hl 0 rfl) ?_
  refine va_get (D := g.1) (ci := 4) (v := .int (mth m9)) (C := RX4) (T := TX4) (N := 12) hx hb hts hiX4 hown hE.1 hP 0 rfl rfl 0 (by decide) f25 (fun _ h9 => h9) rfl dX4_thrown_1 ?_
  have hP : va_P g.1 vwCl (wM g a m9) _ := hP
  have hD : va_D A (wM g a m9) := hD
  exact k_iret hx hb hr hlocks rfl rfl hP hD hS (Nat.le_of_ble_eq_true rfl) (Nat.le_of_ble_eq_true rfl) dX4_thrown_4
set_option maxHeartbeats 4000000 in
set_option maxRecDepth 100000 in
theorem c_X4_fails (l : Launch) (g : kG) (a : Nat → Nat) (m9 : MSt) (x : Int32) : KI l yX4_fails wsX4_fails ({ frames := 0, cells := 0, slots := 0, locals := 0 }) g [.ref (a 0), .int x] (wM g a m9) (nI 0) (wM g a (sMth m9 x)) 0 0 := by
  refine k_begin (cc := cX4_fails) (maxL := 2) (ret := (some .int)) (Qc := fun A => kQi g (nI 0) (wM g a (sMth m9 x)) A) (by decide) rfl (Nat.le_of_ble_eq_true rfl) ?_
  intro p e s m below meth c A ls hF hr hlocks hin hE hP hD hS hA hl
  obtain ⟨hx, hb, hml, hown, hts⟩ := id hF
  have hown : s.vm.findClass RX4 = some m.cls := hown
  have hl : lv_has ls 2 [(0, .ref (a 0)), (1, .int x)] := hl
  have hiX4 : ∀ w ∈ wsX40, w ∈ wsX4_fails := fun _ h => List.mem_cons_of_mem _ (List.mem_append_right _ (h))
  have f25 : (Cond.fieldLink RX4 25 "ConcertUsherModel" "thrown" "I").before _ s = true := hts _ (List.mem_of_getElem? (i := 1) rfl)
  refine lv_aload_n hx hb dX4_fails_0 rfl (lv_at hl 0 rfl) ?_
  refine lv_iload_n hx hb dX4_fails_1 rfl (lv_at hl 1 rfl) ?_
  refine va_put (D := g.1) (ci := 4) (v := .int x) (ty := .int) (C := RX4) (T := TX4) (N := 12) hx hb hts hiX4 tyX4 tyX4_ok nmX4 hown hE.1 hP hD hS 0 rfl rfl 0 (by decide) f25 (fun _ h9 => h9) rfl (tyX4_ok 0 (by decide)) rfl rfl (Nat.le_of_ble_eq_true rfl) dX4_fails_2 (fun H locs hP hD hS => ?_)
  have hP : va_P g.1 vwCl (wM g a (sMth m9 x)) _ := hP
  have hD : va_D A (wM g a (sMth m9 x)) := hD
  refine lv_iconst (v := (nI 0)) hx hb dX4_fails_5 (by decide) ?_
  have hP : va_P g.1 vwCl (wM g a (sMth m9 x)) _ := hP
  have hD : va_D A (wM g a (sMth m9 x)) := hD
  exact k_iret hx hb hr hlocks rfl rfl hP hD hS (Nat.le_of_ble_eq_true rfl) (Nat.le_of_ble_eq_true rfl) dX4_fails_6
set_option maxHeartbeats 4000000 in
set_option maxRecDepth 100000 in
theorem c_X4_calls (l : Launch) (g : kG) (a : Nat → Nat) (m9 : MSt) (k : Nat) (hk : k < 48) : KV l yX4_calls wsX4_calls ({ frames := 0, cells := 0, slots := 0, locals := 0 }) g [.ref (a 0), .int (nI k)] (wM g a m9) (wM g a (sMs m9 (Mcalls k (ms m9)))) 0 0 := by
  refine k_begin (cc := cX4_calls) (maxL := 2) (ret := none) (Qc := fun A => kQv g (wM g a (sMs m9 (Mcalls k (ms m9)))) A) (by decide) rfl (Nat.le_of_ble_eq_true rfl) ?_
  intro p e s m below meth c A ls hF hr hlocks hin hE hP hD hS hA hl
  obtain ⟨hx, hb, hml, hown, hts⟩ := id hF
  have hown : s.vm.findClass RX4 = some m.cls := hown
  have hl : lv_has ls 2 [(0, .ref (a 0)), (1, .int (nI k))] := hl
  have hiX4 : ∀ w ∈ wsX40, w ∈ wsX4_calls := fun _ h => List.mem_cons_of_mem _ (List.mem_append_right _ (h))
  have f7 : (Cond.fieldLink RX4 7 "ConcertUsherModel" "s" "[I").before _ s = true := hts _ (List.mem_of_getElem? (i := 1) rfl)
  refine lv_aload_n hx hb dX4_calls_0 rfl (lv_at hl 0 rfl) ?_
  refine va_get (D := g.1) (ci := 4) (v := .ref (a 1)) (C := RX4) (T := TX4) (N := 12) hx hb hts hiX4 hown hE.1 hP 0 rfl rfl 1 (by decide) f7 (fun _ h9 => h9) rfl dX4_calls_1 ?_
  refine lv_bipush (v := (nI 69)) hx hb dX4_calls_4 (by decide) ?_
  refine lv_iload_n hx hb dX4_calls_6 rfl (lv_at hl 1 rfl) ?_
  refine lv_iadd hx hb dX4_calls_7 ?_
  refine k_top (nI_add _ _) ?_
  refine lv_aload_n hx hb dX4_calls_8 rfl (lv_at hl 0 rfl) ?_
  refine va_get (D := g.1) (ci := 4) (v := .ref (a 1)) (C := RX4) (T := TX4) (N := 12) hx hb hts hiX4 hown hE.1 hP 0 rfl rfl 1 (by decide) f7 (fun _ h9 => h9) rfl dX4_calls_9 ?_
  refine lv_iconst (v := (nI 0)) hx hb dX4_calls_12 (by decide) ?_
  refine k_iald (f := (ms m9)) hx hb hE hP 1 rfl 0 rfl (by decide) (by decide) dX4_calls_13 ?_
  refine k_iast (f := (ms m9)) (ws1 := (wM g a (sMs m9 (upd (ms m9) (69 + k) ((ms m9) 0))))) hx hb hE hP hD hS 1 rfl (69 + k) rfl (by omega) (by decide) rfl dX4_calls_14 (fun H locs hP hD hS => ?_)
  refine lv_aload_n hx hb dX4_calls_15 rfl (lv_at hl 0 rfl) ?_
  refine va_get (D := g.1) (ci := 4) (v := .ref (a 1)) (C := RX4) (T := TX4) (N := 12) hx hb hts hiX4 hown hE.1 hP 0 rfl rfl 1 (by decide) f7 (fun _ h9 => h9) rfl dX4_calls_16 ?_
  refine lv_bipush (v := (nI 12)) hx hb dX4_calls_19 (by decide) ?_
  refine lv_dup2_11 hx hb dX4_calls_21 rfl rfl ?_
  refine k_iald (f := (upd (ms m9) (69 + k) ((ms m9) 0))) hx hb hE hP 1 rfl 12 rfl (by decide) (by decide) dX4_calls_22 ?_
  refine lv_iconst (v := (nI 1)) hx hb dX4_calls_23 (by decide) ?_
  refine lv_iadd hx hb dX4_calls_24 ?_
  refine k_iast (f := (upd (ms m9) (69 + k) ((ms m9) 0))) (ws1 := (wM g a (sMs m9 (upd (upd (ms m9) (69 + k) ((ms m9) 0)) 12 (((upd (ms m9) (69 + k) ((ms m9) 0)) 12) + (nI 1)))))) hx hb hE hP hD hS 1 rfl 12 rfl (by decide) (by decide) rfl dX4_calls_25 (fun H locs hP hD hS => ?_)
  have hP : va_P g.1 vwCl (wM g a (sMs m9 (Mcalls k (ms m9)))) _ := hP
  have hD : va_D A (wM g a (sMs m9 (Mcalls k (ms m9)))) := hD
  exact k_vret hx hb hr hlocks hP hD hS (Nat.le_of_ble_eq_true rfl) (Nat.le_of_ble_eq_true rfl) dX4_calls_26
set_option maxHeartbeats 4000000 in
set_option maxRecDepth 100000 in
theorem c_X4_comes (l : Launch) (g : kG) (a : Nat → Nat) (m9 : MSt) (k : Nat) (hk : k < 48) : KI l yX4_comes wsX4_comes ({ frames := 1, cells := 0, slots := 0, locals := 21 }) g [.ref (a 0), .int (nI k)] (wM g a m9) (Mcomes k (ms m9) (21 + k)) (wM g a (sMs m9 (Mcomes k (ms m9)))) 0 0 := by
  refine k_begin (cc := cX4_comes) (maxL := 2) (ret := (some .int)) (Qc := fun A => kQi g (Mcomes k (ms m9) (21 + k)) (wM g a (sMs m9 (Mcomes k (ms m9)))) A) (by decide) rfl (Nat.le_of_ble_eq_true rfl) ?_
  intro p e s m below meth c A ls hF hr hlocks hin hE hP hD hS hA hl
  obtain ⟨hx, hb, hml, hown, hts⟩ := id hF
  have hown : s.vm.findClass RX4 = some m.cls := hown
  have hl : lv_has ls 2 [(0, .ref (a 0)), (1, .int (nI k))] := hl
  have hiX4 : ∀ w ∈ wsX40, w ∈ wsX4_comes := fun _ h => List.mem_cons_of_mem _ (List.mem_append_right _ (h))
  have f7 : (Cond.fieldLink RX4 7 "ConcertUsherModel" "s" "[I").before _ s = true := hts _ (List.mem_of_getElem? (i := 1) rfl)
  refine lv_aload_n hx hb dX4_comes_0 rfl (lv_at hl 0 rfl) ?_
  refine va_get (D := g.1) (ci := 4) (v := .ref (a 1)) (C := RX4) (T := TX4) (N := 12) hx hb hts hiX4 hown hE.1 hP 0 rfl rfl 1 (by decide) f7 (fun _ h9 => h9) rfl dX4_comes_1 ?_
  refine lv_bipush (v := (nI 21)) hx hb dX4_comes_4 (by decide) ?_
  refine lv_iload_n hx hb dX4_comes_6 rfl (lv_at hl 1 rfl) ?_
  refine lv_iadd hx hb dX4_comes_7 ?_
  refine k_top (nI_add _ _) ?_
  refine lv_dup2_11 hx hb dX4_comes_8 rfl rfl ?_
  refine k_iald (f := (ms m9)) hx hb hE hP 1 rfl (21 + k) rfl (by omega) (by decide) dX4_comes_9 ?_
  refine lv_iconst (v := (nI 1)) hx hb dX4_comes_10 (by decide) ?_
  refine lv_iadd hx hb dX4_comes_11 ?_
  refine k_iast (f := (ms m9)) (ws1 := (wM g a (sMs m9 (upd (ms m9) (21 + k) (((ms m9) (21 + k)) + (nI 1)))))) hx hb hE hP hD hS 1 rfl (21 + k) rfl (by omega) (by decide) rfl dX4_comes_12 (fun H locs hP hD hS => ?_)
  refine lv_aload_n hx hb dX4_comes_13 rfl (lv_at hl 0 rfl) ?_
  refine lv_iload_n hx hb dX4_comes_14 rfl (lv_at hl 1 rfl) ?_
  refine k_Vv (As := [.int (nI k)]) hF (c_X4_calls l g a (sMs m9 (upd (ms m9) (21 + k) (((ms m9) (21 + k)) + (nI 1)))) k (by omega)) (cwV 1 hts gX4_comes_X4_calls rfl rfl rfl (by decide +kernel) ⟨Nat.le_of_ble_eq_true rfl, Nat.le_of_ble_eq_true rfl⟩) hE hP hD hS hA (k_pall _) ((k_pall _).symm) 0 rfl rfl rfl rfl hl.1 rfl (Nat.le_of_ble_eq_true rfl) dX4_comes_15 ⟨Nat.le_of_ble_eq_true rfl, Nat.le_of_ble_eq_true rfl⟩ (fun H locs hP hD hS => ?_)
  have hP : va_P g.1 vwCl (wM g a (sMs m9 (Mcalls k (upd (ms m9) (21 + k) (((ms m9) (21 + k)) + (nI 1)))))) _ := hP
  have hD : va_D A (wM g a (sMs m9 (Mcalls k (upd (ms m9) (21 + k) (((ms m9) (21 + k)) + (nI 1)))))) := hD
  refine lv_aload_n hx hb dX4_comes_18 rfl (lv_at hl 0 rfl) ?_
  refine va_get (D := g.1) (ci := 4) (v := .ref (a 1)) (C := RX4) (T := TX4) (N := 12) hx hb hts hiX4 hown hE.1 hP 0 rfl rfl 1 (by decide) f7 (fun _ h9 => h9) rfl dX4_comes_19 ?_
  refine lv_bipush (v := (nI 21)) hx hb dX4_comes_22 (by decide) ?_
  refine lv_iload_n hx hb dX4_comes_24 rfl (lv_at hl 1 rfl) ?_
  refine lv_iadd hx hb dX4_comes_25 ?_
  refine k_top (nI_add _ _) ?_
  refine k_iald (f := (Mcalls k (upd (ms m9) (21 + k) (((ms m9) (21 + k)) + (nI 1))))) hx hb hE hP 1 rfl (21 + k) rfl (by omega) (by decide) dX4_comes_26 ?_
  have hP : va_P g.1 vwCl (wM g a (sMs m9 (Mcomes k (ms m9)))) _ := hP
  have hD : va_D A (wM g a (sMs m9 (Mcomes k (ms m9)))) := hD
  exact k_iret hx hb hr hlocks rfl (by first | rfl | (simp only [Mcomes, bI]; done) | (simp only [Mcomes, bI]; rfl) | (simp [Mcomes, bI]; done)) hP hD hS (Nat.le_of_ble_eq_true rfl) (Nat.le_of_ble_eq_true rfl) dX4_comes_27
set_option maxHeartbeats 4000000 in
set_option maxRecDepth 100000 in
theorem c_X4_farewell (l : Launch) (g : kG) (a : Nat → Nat) (m9 : MSt) (k : Nat) (hk : k < 48) : KV l yX4_farewell wsX4_farewell ({ frames := 1, cells := 0, slots := 0, locals := 21 }) g [.ref (a 0), .int (nI k)] (wM g a m9) (wM g a (sMs m9 (Mfare k (ms m9)))) 0 0 := by
  refine k_begin (cc := cX4_farewell) (maxL := 2) (ret := none) (Qc := fun A => kQv g (wM g a (sMs m9 (Mfare k (ms m9)))) A) (by decide) rfl (Nat.le_of_ble_eq_true rfl) ?_
  intro p e s m below meth c A ls hF hr hlocks hin hE hP hD hS hA hl
  obtain ⟨hx, hb, hml, hown, hts⟩ := id hF
  have hown : s.vm.findClass RX4 = some m.cls := hown
  have hl : lv_has ls 2 [(0, .ref (a 0)), (1, .int (nI k))] := hl
  have hiX4 : ∀ w ∈ wsX40, w ∈ wsX4_farewell := fun _ h => List.mem_cons_of_mem _ (List.mem_append_right _ (h))
  have f7 : (Cond.fieldLink RX4 7 "ConcertUsherModel" "s" "[I").before _ s = true := hts _ (List.mem_of_getElem? (i := 1) rfl)
  refine lv_aload_n hx hb dX4_farewell_0 rfl (lv_at hl 0 rfl) ?_
  refine va_get (D := g.1) (ci := 4) (v := .ref (a 1)) (C := RX4) (T := TX4) (N := 12) hx hb hts hiX4 hown hE.1 hP 0 rfl rfl 1 (by decide) f7 (fun _ h9 => h9) rfl dX4_farewell_1 ?_
  refine lv_iconst (v := (nI 3)) hx hb dX4_farewell_4 (by decide) ?_
  refine k_iald (f := (ms m9)) hx hb hE hP 1 rfl 3 rfl (by decide) (by decide) dX4_farewell_5 ?_
  refine lv_iconst (v := (nI 1)) hx hb dX4_farewell_6 (by decide) ?_
  refine lv_icmp_ne (tgt := 35) hx hb dX4_farewell_7 (by decide) (fun c1 => ?_) (fun c1 => ?_)
  ·
    refine lv_aload_n hx hb dX4_farewell_35 rfl (lv_at hl 0 rfl) ?_
    refine va_get (D := g.1) (ci := 4) (v := .ref (a 1)) (C := RX4) (T := TX4) (N := 12) hx hb hts hiX4 hown hE.1 hP 0 rfl rfl 1 (by decide) f7 (fun _ h9 => h9) rfl dX4_farewell_36 ?_
    refine lv_bipush (v := (nI 69)) hx hb dX4_farewell_39 (by decide) ?_
    refine lv_iload_n hx hb dX4_farewell_41 rfl (lv_at hl 1 rfl) ?_
    refine lv_iadd hx hb dX4_farewell_42 ?_
    refine k_top (nI_add _ _) ?_
    refine k_iald (f := (ms m9)) hx hb hE hP 1 rfl (69 + k) rfl (by omega) (by decide) dX4_farewell_43 ?_
    refine lv_aload_n hx hb dX4_farewell_44 rfl (lv_at hl 0 rfl) ?_
    refine va_get (D := g.1) (ci := 4) (v := .ref (a 1)) (C := RX4) (T := TX4) (N := 12) hx hb hts hiX4 hown hE.1 hP 0 rfl rfl 1 (by decide) f7 (fun _ h9 => h9) rfl dX4_farewell_45 ?_
    refine lv_iconst (v := (nI 1)) hx hb dX4_farewell_48 (by decide) ?_
    refine k_iald (f := (ms m9)) hx hb hE hP 1 rfl 1 rfl (by decide) (by decide) dX4_farewell_49 ?_
    refine lv_icmp_le (tgt := 96) hx hb dX4_farewell_50 (by decide) (fun c2 => ?_) (fun c2 => ?_)
    ·
      have e3 : (sMs m9 (Mfare k (ms m9))) = m9 := (by first | (simp only [Mfare, Mfare2, Mask, if_neg c1, if_pos c1, if_pos c2, if_neg (not_not_intro c2)]; done) | (simp only [Mfare, Mfare2, Mask, if_neg c1, if_pos c1, if_pos c2, if_neg (not_not_intro c2)]; rfl) | rfl | (simp [Mfare, Mfare2, Mask, if_neg c1, if_pos c1, if_pos c2, if_neg (not_not_intro c2)]; done))
      have hP : va_P g.1 vwCl (wM g a (sMs m9 (Mfare k (ms m9)))) s.heap := by rw [e3]; exact hP
      have hD : va_D A (wM g a (sMs m9 (Mfare k (ms m9)))) := by rw [e3]; exact hD
      exact k_vret hx hb hr hlocks hP hD hS (Nat.le_of_ble_eq_true rfl) (Nat.le_of_ble_eq_true rfl) dX4_farewell_96
    ·
      refine lv_aload_n hx hb dX4_farewell_53 rfl (lv_at hl 0 rfl) ?_
      refine va_get (D := g.1) (ci := 4) (v := .ref (a 1)) (C := RX4) (T := TX4) (N := 12) hx hb hts hiX4 hown hE.1 hP 0 rfl rfl 1 (by decide) f7 (fun _ h9 => h9) rfl dX4_farewell_54 ?_
      refine lv_bipush (v := (nI 69)) hx hb dX4_farewell_57 (by decide) ?_
      refine lv_iload_n hx hb dX4_farewell_59 rfl (lv_at hl 1 rfl) ?_
      refine lv_iadd hx hb dX4_farewell_60 ?_
      refine k_top (nI_add _ _) ?_
      refine lv_aload_n hx hb dX4_farewell_61 rfl (lv_at hl 0 rfl) ?_
      refine va_get (D := g.1) (ci := 4) (v := .ref (a 1)) (C := RX4) (T := TX4) (N := 12) hx hb hts hiX4 hown hE.1 hP 0 rfl rfl 1 (by decide) f7 (fun _ h9 => h9) rfl dX4_farewell_62 ?_
      refine lv_iconst (v := (nI 1)) hx hb dX4_farewell_65 (by decide) ?_
      refine k_iald (f := (ms m9)) hx hb hE hP 1 rfl 1 rfl (by decide) (by decide) dX4_farewell_66 ?_
      refine k_iast (f := (ms m9)) (ws1 := (wM g a (sMs m9 (upd (ms m9) (69 + k) ((ms m9) 1))))) hx hb hE hP hD hS 1 rfl (69 + k) rfl (by omega) (by decide) rfl dX4_farewell_67 (fun H locs hP hD hS => ?_)
      refine lv_aload_n hx hb dX4_farewell_68 rfl (lv_at hl 0 rfl) ?_
      refine va_get (D := g.1) (ci := 4) (v := .ref (a 1)) (C := RX4) (T := TX4) (N := 12) hx hb hts hiX4 hown hE.1 hP 0 rfl rfl 1 (by decide) f7 (fun _ h9 => h9) rfl dX4_farewell_69 ?_
      refine lv_bipush (v := (nI 11)) hx hb dX4_farewell_72 (by decide) ?_
      refine lv_dup2_11 hx hb dX4_farewell_74 rfl rfl ?_
      refine k_iald (f := (upd (ms m9) (69 + k) ((ms m9) 1))) hx hb hE hP 1 rfl 11 rfl (by decide) (by decide) dX4_farewell_75 ?_
      refine lv_iconst (v := (nI 1)) hx hb dX4_farewell_76 (by decide) ?_
      refine lv_iadd hx hb dX4_farewell_77 ?_
      refine k_iast (f := (upd (ms m9) (69 + k) ((ms m9) 1))) (ws1 := (wM g a (sMs m9 (upd (upd (ms m9) (69 + k) ((ms m9) 1)) 11 (((upd (ms m9) (69 + k) ((ms m9) 1)) 11) + (nI 1)))))) hx hb hE hP hD hS 1 rfl 11 rfl (by decide) (by decide) rfl dX4_farewell_78 (fun H locs hP hD hS => ?_)
      refine lv_aload_n hx hb dX4_farewell_79 rfl (lv_at hl 0 rfl) ?_
      refine va_get (D := g.1) (ci := 4) (v := .ref (a 1)) (C := RX4) (T := TX4) (N := 12) hx hb hts hiX4 hown hE.1 hP 0 rfl rfl 1 (by decide) f7 (fun _ h9 => h9) rfl dX4_farewell_80 ?_
      refine lv_bipush (v := (nI 21)) hx hb dX4_farewell_83 (by decide) ?_
      refine lv_iload_n hx hb dX4_farewell_85 rfl (lv_at hl 1 rfl) ?_
      refine lv_iadd hx hb dX4_farewell_86 ?_
      refine k_top (nI_add _ _) ?_
      refine k_iald (f := (upd (upd (ms m9) (69 + k) ((ms m9) 1)) 11 (((upd (ms m9) (69 + k) ((ms m9) 1)) 11) + (nI 1)))) hx hb hE hP 1 rfl (21 + k) rfl (by omega) (by decide) dX4_farewell_87 ?_
      refine lv_if_le (tgt := 96) hx hb dX4_farewell_88 (by decide) (fun c4 => ?_) (fun c4 => ?_)
      ·
        have e5 : (sMs m9 (Mfare k (ms m9))) = (sMs m9 (upd (upd (ms m9) (69 + k) ((ms m9) 1)) 11 (((upd (ms m9) (69 + k) ((ms m9) 1)) 11) + (nI 1)))) := (by first | (simp only [Mfare, Mfare2, Mask, if_neg c1, if_pos c1, if_neg c2, if_pos c2, if_pos c4, if_neg (not_not_intro c4)]; done) | (simp only [Mfare, Mfare2, Mask, if_neg c1, if_pos c1, if_neg c2, if_pos c2, if_pos c4, if_neg (not_not_intro c4)]; rfl) | rfl | (simp [Mfare, Mfare2, Mask, if_neg c1, if_pos c1, if_neg c2, if_pos c2, if_pos c4, if_neg (not_not_intro c4)]; done))
        have hP : va_P g.1 vwCl (wM g a (sMs m9 (Mfare k (ms m9)))) H := by rw [e5]; exact hP
        have hD : va_D A (wM g a (sMs m9 (Mfare k (ms m9)))) := by rw [e5]; exact hD
        exact k_vret hx hb hr hlocks hP hD hS (Nat.le_of_ble_eq_true rfl) (Nat.le_of_ble_eq_true rfl) dX4_farewell_96
      ·
        refine lv_aload_n hx hb dX4_farewell_91 rfl (lv_at hl 0 rfl) ?_
        refine lv_iload_n hx hb dX4_farewell_92 rfl (lv_at hl 1 rfl) ?_
        refine k_Vv (As := [.int (nI k)]) hF (c_X4_calls l g a (sMs m9 (upd (upd (ms m9) (69 + k) ((ms m9) 1)) 11 (((upd (ms m9) (69 + k) ((ms m9) 1)) 11) + (nI 1)))) k (by omega)) (cwV 1 hts gX4_farewell_X4_calls rfl rfl rfl (by decide +kernel) ⟨Nat.le_of_ble_eq_true rfl, Nat.le_of_ble_eq_true rfl⟩) hE hP hD hS hA (k_pall _) ((k_pall _).symm) 0 rfl rfl rfl rfl hl.1 rfl (Nat.le_of_ble_eq_true rfl) dX4_farewell_93 ⟨Nat.le_of_ble_eq_true rfl, Nat.le_of_ble_eq_true rfl⟩ (fun H locs hP hD hS => ?_)
        have hP : va_P g.1 vwCl (wM g a (sMs m9 (Mcalls k (upd (upd (ms m9) (69 + k) ((ms m9) 1)) 11 (((upd (ms m9) (69 + k) ((ms m9) 1)) 11) + (nI 1)))))) _ := hP
        have hD : va_D A (wM g a (sMs m9 (Mcalls k (upd (upd (ms m9) (69 + k) ((ms m9) 1)) 11 (((upd (ms m9) (69 + k) ((ms m9) 1)) 11) + (nI 1)))))) := hD
        have e6 : (sMs m9 (Mfare k (ms m9))) = (sMs m9 (Mcalls k (upd (upd (ms m9) (69 + k) ((ms m9) 1)) 11 (((upd (ms m9) (69 + k) ((ms m9) 1)) 11) + (nI 1))))) := (by first | (simp only [Mfare, Mfare2, Mask, if_neg c1, if_pos c1, if_neg c2, if_pos c2, if_neg c4, if_pos c4]; done) | (simp only [Mfare, Mfare2, Mask, if_neg c1, if_pos c1, if_neg c2, if_pos c2, if_neg c4, if_pos c4]; rfl) | rfl | (simp [Mfare, Mfare2, Mask, if_neg c1, if_pos c1, if_neg c2, if_pos c2, if_neg c4, if_pos c4]; done))
        have hP : va_P g.1 vwCl (wM g a (sMs m9 (Mfare k (ms m9)))) H := by rw [e6]; exact hP
        have hD : va_D A (wM g a (sMs m9 (Mfare k (ms m9)))) := by rw [e6]; exact hD
        exact k_vret hx hb hr hlocks hP hD hS (Nat.le_of_ble_eq_true rfl) (Nat.le_of_ble_eq_true rfl) dX4_farewell_96
  ·
    refine lv_aload_n hx hb dX4_farewell_10 rfl (lv_at hl 0 rfl) ?_
    refine va_get (D := g.1) (ci := 4) (v := .ref (a 1)) (C := RX4) (T := TX4) (N := 12) hx hb hts hiX4 hown hE.1 hP 0 rfl rfl 1 (by decide) f7 (fun _ h9 => h9) rfl dX4_farewell_11 ?_
    refine lv_bipush (v := (nI 21)) hx hb dX4_farewell_14 (by decide) ?_
    refine lv_iload_n hx hb dX4_farewell_16 rfl (lv_at hl 1 rfl) ?_
    refine lv_iadd hx hb dX4_farewell_17 ?_
    refine k_top (nI_add _ _) ?_
    refine k_iald (f := (ms m9)) hx hb hE hP 1 rfl (21 + k) rfl (by omega) (by decide) dX4_farewell_18 ?_
    refine lv_if_ne (tgt := 35) hx hb dX4_farewell_19 (by decide) (fun c7 => ?_) (fun c7 => ?_)
    ·
      refine lv_aload_n hx hb dX4_farewell_35 rfl (lv_at hl 0 rfl) ?_
      refine va_get (D := g.1) (ci := 4) (v := .ref (a 1)) (C := RX4) (T := TX4) (N := 12) hx hb hts hiX4 hown hE.1 hP 0 rfl rfl 1 (by decide) f7 (fun _ h9 => h9) rfl dX4_farewell_36 ?_
      refine lv_bipush (v := (nI 69)) hx hb dX4_farewell_39 (by decide) ?_
      refine lv_iload_n hx hb dX4_farewell_41 rfl (lv_at hl 1 rfl) ?_
      refine lv_iadd hx hb dX4_farewell_42 ?_
      refine k_top (nI_add _ _) ?_
      refine k_iald (f := (ms m9)) hx hb hE hP 1 rfl (69 + k) rfl (by omega) (by decide) dX4_farewell_43 ?_
      refine lv_aload_n hx hb dX4_farewell_44 rfl (lv_at hl 0 rfl) ?_
      refine va_get (D := g.1) (ci := 4) (v := .ref (a 1)) (C := RX4) (T := TX4) (N := 12) hx hb hts hiX4 hown hE.1 hP 0 rfl rfl 1 (by decide) f7 (fun _ h9 => h9) rfl dX4_farewell_45 ?_
      refine lv_iconst (v := (nI 1)) hx hb dX4_farewell_48 (by decide) ?_
      refine k_iald (f := (ms m9)) hx hb hE hP 1 rfl 1 rfl (by decide) (by decide) dX4_farewell_49 ?_
      refine lv_icmp_le (tgt := 96) hx hb dX4_farewell_50 (by decide) (fun c8 => ?_) (fun c8 => ?_)
      ·
        have e9 : (sMs m9 (Mfare k (ms m9))) = m9 := (by first | (simp only [Mfare, Mfare2, Mask, if_pos c1, if_neg (not_not_intro c1), if_neg c7, if_pos c7, if_pos c8, if_neg (not_not_intro c8)]; done) | (simp only [Mfare, Mfare2, Mask, if_pos c1, if_neg (not_not_intro c1), if_neg c7, if_pos c7, if_pos c8, if_neg (not_not_intro c8)]; rfl) | rfl | (simp [Mfare, Mfare2, Mask, if_pos c1, if_neg (not_not_intro c1), if_neg c7, if_pos c7, if_pos c8, if_neg (not_not_intro c8)]; done))
        have hP : va_P g.1 vwCl (wM g a (sMs m9 (Mfare k (ms m9)))) s.heap := by rw [e9]; exact hP
        have hD : va_D A (wM g a (sMs m9 (Mfare k (ms m9)))) := by rw [e9]; exact hD
        exact k_vret hx hb hr hlocks hP hD hS (Nat.le_of_ble_eq_true rfl) (Nat.le_of_ble_eq_true rfl) dX4_farewell_96
      ·
        refine lv_aload_n hx hb dX4_farewell_53 rfl (lv_at hl 0 rfl) ?_
        refine va_get (D := g.1) (ci := 4) (v := .ref (a 1)) (C := RX4) (T := TX4) (N := 12) hx hb hts hiX4 hown hE.1 hP 0 rfl rfl 1 (by decide) f7 (fun _ h9 => h9) rfl dX4_farewell_54 ?_
        refine lv_bipush (v := (nI 69)) hx hb dX4_farewell_57 (by decide) ?_
        refine lv_iload_n hx hb dX4_farewell_59 rfl (lv_at hl 1 rfl) ?_
        refine lv_iadd hx hb dX4_farewell_60 ?_
        refine k_top (nI_add _ _) ?_
        refine lv_aload_n hx hb dX4_farewell_61 rfl (lv_at hl 0 rfl) ?_
        refine va_get (D := g.1) (ci := 4) (v := .ref (a 1)) (C := RX4) (T := TX4) (N := 12) hx hb hts hiX4 hown hE.1 hP 0 rfl rfl 1 (by decide) f7 (fun _ h9 => h9) rfl dX4_farewell_62 ?_
        refine lv_iconst (v := (nI 1)) hx hb dX4_farewell_65 (by decide) ?_
        refine k_iald (f := (ms m9)) hx hb hE hP 1 rfl 1 rfl (by decide) (by decide) dX4_farewell_66 ?_
        refine k_iast (f := (ms m9)) (ws1 := (wM g a (sMs m9 (upd (ms m9) (69 + k) ((ms m9) 1))))) hx hb hE hP hD hS 1 rfl (69 + k) rfl (by omega) (by decide) rfl dX4_farewell_67 (fun H locs hP hD hS => ?_)
        refine lv_aload_n hx hb dX4_farewell_68 rfl (lv_at hl 0 rfl) ?_
        refine va_get (D := g.1) (ci := 4) (v := .ref (a 1)) (C := RX4) (T := TX4) (N := 12) hx hb hts hiX4 hown hE.1 hP 0 rfl rfl 1 (by decide) f7 (fun _ h9 => h9) rfl dX4_farewell_69 ?_
        refine lv_bipush (v := (nI 11)) hx hb dX4_farewell_72 (by decide) ?_
        refine lv_dup2_11 hx hb dX4_farewell_74 rfl rfl ?_
        refine k_iald (f := (upd (ms m9) (69 + k) ((ms m9) 1))) hx hb hE hP 1 rfl 11 rfl (by decide) (by decide) dX4_farewell_75 ?_
        refine lv_iconst (v := (nI 1)) hx hb dX4_farewell_76 (by decide) ?_
        refine lv_iadd hx hb dX4_farewell_77 ?_
        refine k_iast (f := (upd (ms m9) (69 + k) ((ms m9) 1))) (ws1 := (wM g a (sMs m9 (upd (upd (ms m9) (69 + k) ((ms m9) 1)) 11 (((upd (ms m9) (69 + k) ((ms m9) 1)) 11) + (nI 1)))))) hx hb hE hP hD hS 1 rfl 11 rfl (by decide) (by decide) rfl dX4_farewell_78 (fun H locs hP hD hS => ?_)
        refine lv_aload_n hx hb dX4_farewell_79 rfl (lv_at hl 0 rfl) ?_
        refine va_get (D := g.1) (ci := 4) (v := .ref (a 1)) (C := RX4) (T := TX4) (N := 12) hx hb hts hiX4 hown hE.1 hP 0 rfl rfl 1 (by decide) f7 (fun _ h9 => h9) rfl dX4_farewell_80 ?_
        refine lv_bipush (v := (nI 21)) hx hb dX4_farewell_83 (by decide) ?_
        refine lv_iload_n hx hb dX4_farewell_85 rfl (lv_at hl 1 rfl) ?_
        refine lv_iadd hx hb dX4_farewell_86 ?_
        refine k_top (nI_add _ _) ?_
        refine k_iald (f := (upd (upd (ms m9) (69 + k) ((ms m9) 1)) 11 (((upd (ms m9) (69 + k) ((ms m9) 1)) 11) + (nI 1)))) hx hb hE hP 1 rfl (21 + k) rfl (by omega) (by decide) dX4_farewell_87 ?_
        refine lv_if_le (tgt := 96) hx hb dX4_farewell_88 (by decide) (fun c10 => ?_) (fun c10 => ?_)
        ·
          have e11 : (sMs m9 (Mfare k (ms m9))) = (sMs m9 (upd (upd (ms m9) (69 + k) ((ms m9) 1)) 11 (((upd (ms m9) (69 + k) ((ms m9) 1)) 11) + (nI 1)))) := (by first | (simp only [Mfare, Mfare2, Mask, if_pos c1, if_neg (not_not_intro c1), if_neg c7, if_pos c7, if_neg c8, if_pos c8, if_pos c10, if_neg (not_not_intro c10)]; done) | (simp only [Mfare, Mfare2, Mask, if_pos c1, if_neg (not_not_intro c1), if_neg c7, if_pos c7, if_neg c8, if_pos c8, if_pos c10, if_neg (not_not_intro c10)]; rfl) | rfl | (simp [Mfare, Mfare2, Mask, if_pos c1, if_neg (not_not_intro c1), if_neg c7, if_pos c7, if_neg c8, if_pos c8, if_pos c10, if_neg (not_not_intro c10)]; done))
          have hP : va_P g.1 vwCl (wM g a (sMs m9 (Mfare k (ms m9)))) H := by rw [e11]; exact hP
          have hD : va_D A (wM g a (sMs m9 (Mfare k (ms m9)))) := by rw [e11]; exact hD
          exact k_vret hx hb hr hlocks hP hD hS (Nat.le_of_ble_eq_true rfl) (Nat.le_of_ble_eq_true rfl) dX4_farewell_96
        ·
          refine lv_aload_n hx hb dX4_farewell_91 rfl (lv_at hl 0 rfl) ?_
          refine lv_iload_n hx hb dX4_farewell_92 rfl (lv_at hl 1 rfl) ?_
          refine k_Vv (As := [.int (nI k)]) hF (c_X4_calls l g a (sMs m9 (upd (upd (ms m9) (69 + k) ((ms m9) 1)) 11 (((upd (ms m9) (69 + k) ((ms m9) 1)) 11) + (nI 1)))) k (by omega)) (cwV 1 hts gX4_farewell_X4_calls rfl rfl rfl (by decide +kernel) ⟨Nat.le_of_ble_eq_true rfl, Nat.le_of_ble_eq_true rfl⟩) hE hP hD hS hA (k_pall _) ((k_pall _).symm) 0 rfl rfl rfl rfl hl.1 rfl (Nat.le_of_ble_eq_true rfl) dX4_farewell_93 ⟨Nat.le_of_ble_eq_true rfl, Nat.le_of_ble_eq_true rfl⟩ (fun H locs hP hD hS => ?_)
          have hP : va_P g.1 vwCl (wM g a (sMs m9 (Mcalls k (upd (upd (ms m9) (69 + k) ((ms m9) 1)) 11 (((upd (ms m9) (69 + k) ((ms m9) 1)) 11) + (nI 1)))))) _ := hP
          have hD : va_D A (wM g a (sMs m9 (Mcalls k (upd (upd (ms m9) (69 + k) ((ms m9) 1)) 11 (((upd (ms m9) (69 + k) ((ms m9) 1)) 11) + (nI 1)))))) := hD
          have e12 : (sMs m9 (Mfare k (ms m9))) = (sMs m9 (Mcalls k (upd (upd (ms m9) (69 + k) ((ms m9) 1)) 11 (((upd (ms m9) (69 + k) ((ms m9) 1)) 11) + (nI 1))))) := (by first | (simp only [Mfare, Mfare2, Mask, if_pos c1, if_neg (not_not_intro c1), if_neg c7, if_pos c7, if_neg c8, if_pos c8, if_neg c10, if_pos c10]; done) | (simp only [Mfare, Mfare2, Mask, if_pos c1, if_neg (not_not_intro c1), if_neg c7, if_pos c7, if_neg c8, if_pos c8, if_neg c10, if_pos c10]; rfl) | rfl | (simp [Mfare, Mfare2, Mask, if_pos c1, if_neg (not_not_intro c1), if_neg c7, if_pos c7, if_neg c8, if_pos c8, if_neg c10, if_pos c10]; done))
          have hP : va_P g.1 vwCl (wM g a (sMs m9 (Mfare k (ms m9)))) H := by rw [e12]; exact hP
          have hD : va_D A (wM g a (sMs m9 (Mfare k (ms m9)))) := by rw [e12]; exact hD
          exact k_vret hx hb hr hlocks hP hD hS (Nat.le_of_ble_eq_true rfl) (Nat.le_of_ble_eq_true rfl) dX4_farewell_96
    ·
      refine lv_aload_n hx hb dX4_farewell_22 rfl (lv_at hl 0 rfl) ?_
      refine va_get (D := g.1) (ci := 4) (v := .ref (a 1)) (C := RX4) (T := TX4) (N := 12) hx hb hts hiX4 hown hE.1 hP 0 rfl rfl 1 (by decide) f7 (fun _ h9 => h9) rfl dX4_farewell_23 ?_
      refine lv_bipush (v := (nI 69)) hx hb dX4_farewell_26 (by decide) ?_
      refine lv_iload_n hx hb dX4_farewell_28 rfl (lv_at hl 1 rfl) ?_
      refine lv_iadd hx hb dX4_farewell_29 ?_
      refine k_top (nI_add _ _) ?_
      refine lv_iconst (v := (nI 0)) hx hb dX4_farewell_30 (by decide) ?_
      refine k_iast (f := (ms m9)) (ws1 := (wM g a (sMs m9 (upd (ms m9) (69 + k) (nI 0))))) hx hb hE hP hD hS 1 rfl (69 + k) rfl (by omega) (by decide) rfl dX4_farewell_31 (fun H locs hP hD hS => ?_)
      refine lv_goto (tgt := 96) hx hb dX4_farewell_32 (by decide) ?_
      have e13 : (sMs m9 (Mfare k (ms m9))) = (sMs m9 (upd (ms m9) (69 + k) (nI 0))) := (by first | (simp only [Mfare, Mfare2, Mask, if_pos c1, if_neg (not_not_intro c1), if_pos c7, if_neg (not_not_intro c7)]; done) | (simp only [Mfare, Mfare2, Mask, if_pos c1, if_neg (not_not_intro c1), if_pos c7, if_neg (not_not_intro c7)]; rfl) | rfl | (simp [Mfare, Mfare2, Mask, if_pos c1, if_neg (not_not_intro c1), if_pos c7, if_neg (not_not_intro c7)]; done))
      have hP : va_P g.1 vwCl (wM g a (sMs m9 (Mfare k (ms m9)))) H := by rw [e13]; exact hP
      have hD : va_D A (wM g a (sMs m9 (Mfare k (ms m9)))) := by rw [e13]; exact hD
      exact k_vret hx hb hr hlocks hP hD hS (Nat.le_of_ble_eq_true rfl) (Nat.le_of_ble_eq_true rfl) dX4_farewell_96
set_option maxHeartbeats 4000000 in
set_option maxRecDepth 100000 in
theorem c_X4_leaves (l : Launch) (g : kG) (a : Nat → Nat) (m9 : MSt) (k : Nat) (hk : k < 48) (b : Nat) (hb2 : b < 2) : KI l yX4_leaves wsX4_leaves ({ frames := 2, cells := 0, slots := 0, locals := 42 }) g [.ref (a 0), .int (nI k), .int (nI b)] (wM g a m9) (Mleaves k b (ms m9) (21 + k)) (wM g a (sMs m9 (Mleaves k b (ms m9)))) 0 0 := by
  refine k_begin (cc := cX4_leaves) (maxL := 3) (ret := (some .int)) (Qc := fun A => kQi g (Mleaves k b (ms m9) (21 + k)) (wM g a (sMs m9 (Mleaves k b (ms m9)))) A) (by decide) rfl (Nat.le_of_ble_eq_true rfl) ?_
  intro p e s m below meth c A ls hF hr hlocks hin hE hP hD hS hA hl
  obtain ⟨hx, hb, hml, hown, hts⟩ := id hF
  have hown : s.vm.findClass RX4 = some m.cls := hown
  have hl : lv_has ls 3 [(0, .ref (a 0)), (1, .int (nI k)), (2, .int (nI b))] := hl
  have hiX4 : ∀ w ∈ wsX40, w ∈ wsX4_leaves := fun _ h => List.mem_cons_of_mem _ (List.mem_append_right _ (h))
  have f7 : (Cond.fieldLink RX4 7 "ConcertUsherModel" "s" "[I").before _ s = true := hts _ (List.mem_of_getElem? (i := 1) rfl)
  refine lv_aload_n hx hb dX4_leaves_0 rfl (lv_at hl 0 rfl) ?_
  refine va_get (D := g.1) (ci := 4) (v := .ref (a 1)) (C := RX4) (T := TX4) (N := 12) hx hb hts hiX4 hown hE.1 hP 0 rfl rfl 1 (by decide) f7 (fun _ h9 => h9) rfl dX4_leaves_1 ?_
  refine lv_bipush (v := (nI 21)) hx hb dX4_leaves_4 (by decide) ?_
  refine lv_iload_n hx hb dX4_leaves_6 rfl (lv_at hl 1 rfl) ?_
  refine lv_iadd hx hb dX4_leaves_7 ?_
  refine k_top (nI_add _ _) ?_
  refine lv_dup2_11 hx hb dX4_leaves_8 rfl rfl ?_
  refine k_iald (f := (ms m9)) hx hb hE hP 1 rfl (21 + k) rfl (by omega) (by decide) dX4_leaves_9 ?_
  refine lv_iconst (v := (nI 1)) hx hb dX4_leaves_10 (by decide) ?_
  refine lv_isub hx hb dX4_leaves_11 ?_
  refine k_iast (f := (ms m9)) (ws1 := (wM g a (sMs m9 (upd (ms m9) (21 + k) (((ms m9) (21 + k)) - (nI 1)))))) hx hb hE hP hD hS 1 rfl (21 + k) rfl (by omega) (by decide) rfl dX4_leaves_12 (fun H locs hP hD hS => ?_)
  refine lv_iload_n hx hb dX4_leaves_13 rfl (lv_at hl 2 rfl) ?_
  refine k_if0 (tgt := 22) hx hb (by omega) dX4_leaves_14 (by decide) (fun c1 => ?_) (fun c1 => ?_)
  ·
    refine lv_aload_n hx hb dX4_leaves_22 rfl (lv_at hl 0 rfl) ?_
    refine va_get (D := g.1) (ci := 4) (v := .ref (a 1)) (C := RX4) (T := TX4) (N := 12) hx hb hts hiX4 hown hE.1 hP 0 rfl rfl 1 (by decide) f7 (fun _ h9 => h9) rfl dX4_leaves_23 ?_
    refine lv_bipush (v := (nI 21)) hx hb dX4_leaves_26 (by decide) ?_
    refine lv_iload_n hx hb dX4_leaves_28 rfl (lv_at hl 1 rfl) ?_
    refine lv_iadd hx hb dX4_leaves_29 ?_
    refine k_top (nI_add _ _) ?_
    refine k_iald (f := (upd (ms m9) (21 + k) (((ms m9) (21 + k)) - (nI 1)))) hx hb hE hP 1 rfl (21 + k) rfl (by omega) (by decide) dX4_leaves_30 ?_
    have e2 : (sMs m9 (Mleaves k b (ms m9))) = (sMs m9 (upd (ms m9) (21 + k) (((ms m9) (21 + k)) - (nI 1)))) := (by first | (simp only [Mleaves, if_pos c1, if_neg (not_not_intro c1)]; done) | (simp only [Mleaves, if_pos c1, if_neg (not_not_intro c1)]; rfl) | rfl | (simp [Mleaves, if_pos c1, if_neg (not_not_intro c1)]; done))
    have hP : va_P g.1 vwCl (wM g a (sMs m9 (Mleaves k b (ms m9)))) H := by rw [e2]; exact hP
    have hD : va_D A (wM g a (sMs m9 (Mleaves k b (ms m9)))) := by rw [e2]; exact hD
    exact k_iret hx hb hr hlocks rfl (by first | (simp only [Mleaves, bI, if_pos c1, if_neg (not_not_intro c1)]; done) | (simp only [Mleaves, bI, if_pos c1, if_neg (not_not_intro c1)]; rfl) | rfl | (simp [Mleaves, bI, if_pos c1, if_neg (not_not_intro c1)]; done)) hP hD hS (Nat.le_of_ble_eq_true rfl) (Nat.le_of_ble_eq_true rfl) dX4_leaves_31
  ·
    refine lv_aload_n hx hb dX4_leaves_17 rfl (lv_at hl 0 rfl) ?_
    refine lv_iload_n hx hb dX4_leaves_18 rfl (lv_at hl 1 rfl) ?_
    refine k_Vv (As := [.int (nI k)]) hF (c_X4_farewell l g a (sMs m9 (upd (ms m9) (21 + k) (((ms m9) (21 + k)) - (nI 1)))) k (by omega)) (cwV 1 hts gX4_leaves_X4_farewell rfl rfl rfl (by decide +kernel) ⟨Nat.le_of_ble_eq_true rfl, Nat.le_of_ble_eq_true rfl⟩) hE hP hD hS hA (k_pall _) ((k_pall _).symm) 0 rfl rfl rfl rfl hl.1 rfl (Nat.le_of_ble_eq_true rfl) dX4_leaves_19 ⟨Nat.le_of_ble_eq_true rfl, Nat.le_of_ble_eq_true rfl⟩ (fun H locs hP hD hS => ?_)
    have hP : va_P g.1 vwCl (wM g a (sMs m9 (Mfare k (upd (ms m9) (21 + k) (((ms m9) (21 + k)) - (nI 1)))))) _ := hP
    have hD : va_D A (wM g a (sMs m9 (Mfare k (upd (ms m9) (21 + k) (((ms m9) (21 + k)) - (nI 1)))))) := hD
    refine lv_aload_n hx hb dX4_leaves_22 rfl (lv_at hl 0 rfl) ?_
    refine va_get (D := g.1) (ci := 4) (v := .ref (a 1)) (C := RX4) (T := TX4) (N := 12) hx hb hts hiX4 hown hE.1 hP 0 rfl rfl 1 (by decide) f7 (fun _ h9 => h9) rfl dX4_leaves_23 ?_
    refine lv_bipush (v := (nI 21)) hx hb dX4_leaves_26 (by decide) ?_
    refine lv_iload_n hx hb dX4_leaves_28 rfl (lv_at hl 1 rfl) ?_
    refine lv_iadd hx hb dX4_leaves_29 ?_
    refine k_top (nI_add _ _) ?_
    refine k_iald (f := (Mfare k (upd (ms m9) (21 + k) (((ms m9) (21 + k)) - (nI 1))))) hx hb hE hP 1 rfl (21 + k) rfl (by omega) (by decide) dX4_leaves_30 ?_
    have e3 : (sMs m9 (Mleaves k b (ms m9))) = (sMs m9 (Mfare k (upd (ms m9) (21 + k) (((ms m9) (21 + k)) - (nI 1))))) := (by first | (simp only [Mleaves, if_neg c1, if_pos c1]; done) | (simp only [Mleaves, if_neg c1, if_pos c1]; rfl) | rfl | (simp [Mleaves, if_neg c1, if_pos c1]; done))
    have hP : va_P g.1 vwCl (wM g a (sMs m9 (Mleaves k b (ms m9)))) H := by rw [e3]; exact hP
    have hD : va_D A (wM g a (sMs m9 (Mleaves k b (ms m9)))) := by rw [e3]; exact hD
    exact k_iret hx hb hr hlocks rfl (by first | (simp only [Mleaves, bI, if_neg c1, if_pos c1]; done) | (simp only [Mleaves, bI, if_neg c1, if_pos c1]; rfl) | rfl | (simp [Mleaves, bI, if_neg c1, if_pos c1]; done)) hP hD hS (Nat.le_of_ble_eq_true rfl) (Nat.le_of_ble_eq_true rfl) dX4_leaves_31
set_option maxHeartbeats 4000000 in
set_option maxRecDepth 100000 in
theorem c_X4_putAside (l : Launch) (g : kG) (a : Nat → Nat) (m9 : MSt) : KV l yX4_putAside wsX4_putAside ({ frames := 0, cells := 0, slots := 0, locals := 0 }) g [.ref (a 0)] (wM g a m9) (wM g a (sMas m9 (ms m9))) 0 0 := by
  refine k_begin (cc := cX4_putAside) (maxL := 2) (ret := none) (Qc := fun A => kQv g (wM g a (sMas m9 (ms m9))) A) (by decide) rfl (Nat.le_of_ble_eq_true rfl) ?_
  intro p e s m below meth c A ls hF hr hlocks hin hE hP hD hS hA hl
  obtain ⟨hx, hb, hml, hown, hts⟩ := id hF
  have hown : s.vm.findClass RX4 = some m.cls := hown
  have hl : lv_has ls 2 [(0, .ref (a 0))] := hl
  have hiX4 : ∀ w ∈ wsX40, w ∈ wsX4_putAside := fun _ h => List.mem_cons_of_mem _ (List.mem_append_right _ (h))
  have f13 : (Cond.fieldLink RX4 13 "ConcertUsherModel" "aside" "[I").before _ s = true := hts _ (List.mem_of_getElem? (i := 1) rfl)
  have f7 : (Cond.fieldLink RX4 7 "ConcertUsherModel" "s" "[I").before _ s = true := hts _ (List.mem_of_getElem? (i := 2) rfl)
  refine lv_iconst (v := (nI 0)) hx hb dX4_putAside_0 (by decide) ?_
  refine lv_istore_n (lv' := [(1, .int (nI 0)), (0, .ref (a 0))]) hx hb dX4_putAside_1 rfl hl (by decide) rfl (fun ls hl => ?_)
  refine k_loop (N := 120) (Inv := fun (i : Nat) (H : Heap) (locs : List Loc) (ls : Array Slot) => va_P g.1 vwCl (wM g a (sMas m9 (cpN (ms m9) (mas m9) i))) H ∧ va_D A (wM g a (sMas m9 (cpN (ms m9) (mas m9) i))) ∧ va_S A s.heap H locs ∧ lv_has ls 2 [(1, .int (nI i)), (0, .ref (a 0))]) 0 (Nat.zero_le _) ⟨hP, hD, hS, lv_sub hl [0, 1] rfl⟩ (fun i hle2 ih1 H locs ls hinv => ?_)
  obtain ⟨hP, hD, hS, hl⟩ := hinv
  refine lv_iload_n hx hb dX4_putAside_2 rfl (lv_at hl 0 rfl) ?_
  refine lv_bipush (v := (nI 120)) hx hb dX4_putAside_3 (by decide) ?_
  refine k_geN (tgt := 26) hx hb (by omega) (by decide) dX4_putAside_5 (by decide) (fun c3 => ?_) (fun c3 => ?_)
  ·
    obtain rfl : 120 = i := by omega
    have hP : va_P g.1 vwCl (wM g a (sMas m9 (ms m9))) H := k_P_ext (ws := (wM g a (sMas m9 (cpN (ms m9) (mas m9) 120)))) (f := (cpN (ms m9) (mas m9) 120)) (f2 := (ms m9)) 2 rfl rfl (fun k hk => cpN_in hk) hP
    have hD : va_D A (wM g a (sMas m9 (ms m9))) := k_D_ext (ws := (wM g a (sMas m9 (cpN (ms m9) (mas m9) 120)))) 2 rfl rfl hD
    exact k_vret hx hb hr hlocks hP hD hS (Nat.le_of_ble_eq_true rfl) (Nat.le_of_ble_eq_true rfl) dX4_putAside_26
  ·
    refine lv_aload_n hx hb dX4_putAside_8 rfl (lv_at hl 1 rfl) ?_
    refine va_get (D := g.1) (ci := 4) (v := .ref (a 2)) (C := RX4) (T := TX4) (N := 12) hx hb hts hiX4 hown hE.1 hP 0 rfl rfl 2 (by decide) f13 (fun _ h9 => h9) rfl dX4_putAside_9 ?_
    refine lv_iload_n hx hb dX4_putAside_12 rfl (lv_at hl 0 rfl) ?_
    refine lv_aload_n hx hb dX4_putAside_13 rfl (lv_at hl 1 rfl) ?_
    refine va_get (D := g.1) (ci := 4) (v := .ref (a 1)) (C := RX4) (T := TX4) (N := 12) hx hb hts hiX4 hown hE.1 hP 0 rfl rfl 1 (by decide) f7 (fun _ h9 => h9) rfl dX4_putAside_14 ?_
    refine lv_iload_n hx hb dX4_putAside_17 rfl (lv_at hl 0 rfl) ?_
    refine k_iald (f := (ms m9)) hx hb hE hP 1 rfl i rfl (by omega) (by decide) dX4_putAside_18 ?_
    refine k_iast (f := (cpN (ms m9) (mas m9) i)) (ws1 := (wM g a (sMas m9 (upd (cpN (ms m9) (mas m9) i) i ((ms m9) i))))) hx hb hE hP hD hS 2 rfl i rfl (by omega) (by decide) rfl dX4_putAside_19 (fun H locs hP hD hS => ?_)
    refine lv_iinc (v := (nI (i + 1))) (lv' := [(1, .int (nI (i + 1))), (0, .ref (a 0))]) hx hb dX4_putAside_20 hl (k := 0) rfl (k_inc1 _) (by decide) rfl (fun ls hl => ?_)
    refine lv_goto (tgt := 2) hx hb dX4_putAside_23 (by decide) ?_
    have e4 : (sMas m9 (cpN (ms m9) (mas m9) (i + 1))) = (sMas m9 (upd (cpN (ms m9) (mas m9) i) i ((ms m9) i))) := (by first | (simp only [cpN, if_neg (Nat.not_le.mpr c3), if_pos (Nat.not_le.mpr c3)]; done) | (simp only [cpN, if_neg (Nat.not_le.mpr c3), if_pos (Nat.not_le.mpr c3)]; rfl) | rfl | (simp [cpN, if_neg (Nat.not_le.mpr c3), if_pos (Nat.not_le.mpr c3)]; done))
    exact ih1 _ _ _ (by omega) ⟨(by rw [e4]; exact hP), (by rw [e4]; exact hD), hS, lv_sub hl [0, 1] rfl⟩
set_option maxHeartbeats 4000000 in
set_option maxRecDepth 100000 in
theorem c_X4_takeBack (l : Launch) (g : kG) (a : Nat → Nat) (m9 : MSt) : KV l yX4_takeBack wsX4_takeBack ({ frames := 0, cells := 0, slots := 0, locals := 0 }) g [.ref (a 0)] (wM g a m9) (wM g a (sMs m9 (mas m9))) 0 0 := by
  refine k_begin (cc := cX4_takeBack) (maxL := 2) (ret := none) (Qc := fun A => kQv g (wM g a (sMs m9 (mas m9))) A) (by decide) rfl (Nat.le_of_ble_eq_true rfl) ?_
  intro p e s m below meth c A ls hF hr hlocks hin hE hP hD hS hA hl
  obtain ⟨hx, hb, hml, hown, hts⟩ := id hF
  have hown : s.vm.findClass RX4 = some m.cls := hown
  have hl : lv_has ls 2 [(0, .ref (a 0))] := hl
  have hiX4 : ∀ w ∈ wsX40, w ∈ wsX4_takeBack := fun _ h => List.mem_cons_of_mem _ (List.mem_append_right _ (h))
  have f7 : (Cond.fieldLink RX4 7 "ConcertUsherModel" "s" "[I").before _ s = true := hts _ (List.mem_of_getElem? (i := 1) rfl)
  have f13 : (Cond.fieldLink RX4 13 "ConcertUsherModel" "aside" "[I").before _ s = true := hts _ (List.mem_of_getElem? (i := 2) rfl)
  refine lv_iconst (v := (nI 0)) hx hb dX4_takeBack_0 (by decide) ?_
  refine lv_istore_n (lv' := [(1, .int (nI 0)), (0, .ref (a 0))]) hx hb dX4_takeBack_1 rfl hl (by decide) rfl (fun ls hl => ?_)
  refine k_loop (N := 120) (Inv := fun (i : Nat) (H : Heap) (locs : List Loc) (ls : Array Slot) => va_P g.1 vwCl (wM g a (sMs m9 (cpN (mas m9) (ms m9) i))) H ∧ va_D A (wM g a (sMs m9 (cpN (mas m9) (ms m9) i))) ∧ va_S A s.heap H locs ∧ lv_has ls 2 [(1, .int (nI i)), (0, .ref (a 0))]) 0 (Nat.zero_le _) ⟨hP, hD, hS, lv_sub hl [0, 1] rfl⟩ (fun i hle2 ih1 H locs ls hinv => ?_)
  obtain ⟨hP, hD, hS, hl⟩ := hinv
  refine lv_iload_n hx hb dX4_takeBack_2 rfl (lv_at hl 0 rfl) ?_
  refine lv_bipush (v := (nI 120)) hx hb dX4_takeBack_3 (by decide) ?_
  refine k_geN (tgt := 26) hx hb (by omega) (by decide) dX4_takeBack_5 (by decide) (fun c3 => ?_) (fun c3 => ?_)
  ·
    obtain rfl : 120 = i := by omega
    have hP : va_P g.1 vwCl (wM g a (sMs m9 (mas m9))) H := k_P_ext (ws := (wM g a (sMs m9 (cpN (mas m9) (ms m9) 120)))) (f := (cpN (mas m9) (ms m9) 120)) (f2 := (mas m9)) 1 rfl rfl (fun k hk => cpN_in hk) hP
    have hD : va_D A (wM g a (sMs m9 (mas m9))) := k_D_ext (ws := (wM g a (sMs m9 (cpN (mas m9) (ms m9) 120)))) 1 rfl rfl hD
    exact k_vret hx hb hr hlocks hP hD hS (Nat.le_of_ble_eq_true rfl) (Nat.le_of_ble_eq_true rfl) dX4_takeBack_26
  ·
    refine lv_aload_n hx hb dX4_takeBack_8 rfl (lv_at hl 1 rfl) ?_
    refine va_get (D := g.1) (ci := 4) (v := .ref (a 1)) (C := RX4) (T := TX4) (N := 12) hx hb hts hiX4 hown hE.1 hP 0 rfl rfl 1 (by decide) f7 (fun _ h9 => h9) rfl dX4_takeBack_9 ?_
    refine lv_iload_n hx hb dX4_takeBack_12 rfl (lv_at hl 0 rfl) ?_
    refine lv_aload_n hx hb dX4_takeBack_13 rfl (lv_at hl 1 rfl) ?_
    refine va_get (D := g.1) (ci := 4) (v := .ref (a 2)) (C := RX4) (T := TX4) (N := 12) hx hb hts hiX4 hown hE.1 hP 0 rfl rfl 2 (by decide) f13 (fun _ h9 => h9) rfl dX4_takeBack_14 ?_
    refine lv_iload_n hx hb dX4_takeBack_17 rfl (lv_at hl 0 rfl) ?_
    refine k_iald (f := (mas m9)) hx hb hE hP 2 rfl i rfl (by omega) (by decide) dX4_takeBack_18 ?_
    refine k_iast (f := (cpN (mas m9) (ms m9) i)) (ws1 := (wM g a (sMs m9 (upd (cpN (mas m9) (ms m9) i) i ((mas m9) i))))) hx hb hE hP hD hS 1 rfl i rfl (by omega) (by decide) rfl dX4_takeBack_19 (fun H locs hP hD hS => ?_)
    refine lv_iinc (v := (nI (i + 1))) (lv' := [(1, .int (nI (i + 1))), (0, .ref (a 0))]) hx hb dX4_takeBack_20 hl (k := 0) rfl (k_inc1 _) (by decide) rfl (fun ls hl => ?_)
    refine lv_goto (tgt := 2) hx hb dX4_takeBack_23 (by decide) ?_
    have e4 : (sMs m9 (cpN (mas m9) (ms m9) (i + 1))) = (sMs m9 (upd (cpN (mas m9) (ms m9) i) i ((mas m9) i))) := (by first | (simp only [cpN, if_neg (Nat.not_le.mpr c3), if_pos (Nat.not_le.mpr c3)]; done) | (simp only [cpN, if_neg (Nat.not_le.mpr c3), if_pos (Nat.not_le.mpr c3)]; rfl) | rfl | (simp [cpN, if_neg (Nat.not_le.mpr c3), if_pos (Nat.not_le.mpr c3)]; done))
    exact ih1 _ _ _ (by omega) ⟨(by rw [e4]; exact hP), (by rw [e4]; exact hD), hS, lv_sub hl [0, 1] rfl⟩
set_option maxHeartbeats 4000000 in
set_option maxRecDepth 100000 in
theorem c_X4_saves (l : Launch) (g : kG) (a : Nat → Nat) (m9 : MSt) (j : Nat) (hj : j ≤ 6) (hjm : msm m9 = nI j) : KV l yX4_saves wsX4_saves ({ frames := 0, cells := 0, slots := 0, locals := 0 }) g [.ref (a 0)] (wM g a m9) (wM g a (sMsm (sMsv m9 (Msv (ms m9) (msv m9) j)) (nI (kSz j)))) 0 0 := by
  refine k_begin (cc := cX4_saves) (maxL := 2) (ret := none) (Qc := fun A => kQv g (wM g a (sMsm (sMsv m9 (Msv (ms m9) (msv m9) j)) (nI (kSz j)))) A) (by decide) rfl (Nat.le_of_ble_eq_true rfl) ?_
  intro p e s m below meth c A ls hF hr hlocks hin hE hP hD hS hA hl
  obtain ⟨hx, hb, hml, hown, hts⟩ := id hF
  have hown : s.vm.findClass RX4 = some m.cls := hown
  have hl : lv_has ls 2 [(0, .ref (a 0))] := hl
  have hiX4 : ∀ w ∈ wsX40, w ∈ wsX4_saves := fun _ h => List.mem_cons_of_mem _ (List.mem_append_right _ (h))
  have f33 : (Cond.fieldLink RX4 33 "ConcertUsherModel" "savedMany" "I").before _ s = true := hts _ (List.mem_of_getElem? (i := 1) rfl)
  have f16 : (Cond.fieldLink RX4 16 "ConcertUsherModel" "saved" "[I").before _ s = true := hts _ (List.mem_of_getElem? (i := 2) rfl)
  have f7 : (Cond.fieldLink RX4 7 "ConcertUsherModel" "s" "[I").before _ s = true := hts _ (List.mem_of_getElem? (i := 3) rfl)
  refine lv_aload_n hx hb dX4_saves_0 rfl (lv_at hl 0 rfl) ?_
  refine va_get (D := g.1) (ci := 4) (v := .int (msm m9)) (C := RX4) (T := TX4) (N := 12) hx hb hts hiX4 hown hE.1 hP 0 rfl rfl 4 (by decide) f33 (fun _ h9 => h9) rfl dX4_saves_1 ?_
  refine k_top hjm ?_
  refine lv_bipush (v := (nI 6)) hx hb dX4_saves_4 (by decide) ?_
  refine k_neN (tgt := 49) hx hb (by omega) (by decide) dX4_saves_6 (by decide) (fun c1 => ?_) (fun c1 => ?_)
  ·
    refine lv_iconst (v := (nI 0)) hx hb dX4_saves_49 (by decide) ?_
    refine lv_istore_n (lv' := [(1, .int (nI 0)), (0, .ref (a 0))]) hx hb dX4_saves_50 rfl hl (by decide) rfl (fun ls hl => ?_)
    refine k_loop (N := 120) (Inv := fun (i2 : Nat) (H : Heap) (locs : List Loc) (ls : Array Slot) => va_P g.1 vwCl (wM g a (sMsv m9 (cpB (ms m9) (msv m9) j i2))) H ∧ va_D A (wM g a (sMsv m9 (cpB (ms m9) (msv m9) j i2))) ∧ va_S A s.heap H locs ∧ lv_has ls 2 [(1, .int (nI i2)), (0, .ref (a 0))]) 0 (Nat.zero_le _) ⟨hP, hD, hS, lv_sub hl [0, 1] rfl⟩ (fun i2 hle3 ih2 H locs ls hinv => ?_)
    obtain ⟨hP, hD, hS, hl⟩ := hinv
    refine lv_iload_n hx hb dX4_saves_51 rfl (lv_at hl 0 rfl) ?_
    refine lv_bipush (v := (nI 120)) hx hb dX4_saves_52 (by decide) ?_
    refine k_geN (tgt := 83) hx hb (by omega) (by decide) dX4_saves_54 (by decide) (fun c4 => ?_) (fun c4 => ?_)
    ·
      obtain rfl : 120 = i2 := by omega
      refine lv_aload_n hx hb dX4_saves_83 rfl (lv_at hl 1 rfl) ?_
      refine lv_dup hx hb dX4_saves_84 rfl ?_
      refine va_get (D := g.1) (ci := 4) (v := .int (msm m9)) (C := RX4) (T := TX4) (N := 12) hx hb hts hiX4 hown hE.1 hP 0 rfl rfl 4 (by decide) f33 (fun _ h9 => h9) rfl dX4_saves_85 ?_
      refine k_top hjm ?_
      refine lv_iconst (v := (nI 1)) hx hb dX4_saves_88 (by decide) ?_
      refine lv_iadd hx hb dX4_saves_89 ?_
      refine k_top (nI_add _ _) ?_
      refine va_put (D := g.1) (ci := 4) (v := .int (nI (j + 1))) (ty := .int) (C := RX4) (T := TX4) (N := 12) hx hb hts hiX4 tyX4 tyX4_ok nmX4 hown hE.1 hP hD hS 0 rfl rfl 4 (by decide) f33 (fun _ h9 => h9) rfl (tyX4_ok 4 (by decide)) rfl rfl (Nat.le_of_ble_eq_true rfl) dX4_saves_90 (fun H locs hP hD hS => ?_)
      have hP : va_P g.1 vwCl (wM g a (sMsm (sMsv m9 (cpB (ms m9) (msv m9) j 120)) (nI (j + 1)))) _ := hP
      have hD : va_D A (wM g a (sMsm (sMsv m9 (cpB (ms m9) (msv m9) j 120)) (nI (j + 1)))) := hD
      have e5 : (sMsm (sMsv m9 (Msv (ms m9) (msv m9) j)) (nI (kSz j))) = (sMsm (sMsv m9 (cpB (ms m9) (msv m9) j 120)) (nI (j + 1))) := (by first | (simp only [Msv, kSz, if_neg c1, if_pos c1, if_pos c4, if_neg (not_not_intro c4)]; done) | (simp only [Msv, kSz, if_neg c1, if_pos c1, if_pos c4, if_neg (not_not_intro c4)]; rfl) | rfl | (simp [Msv, kSz, if_neg c1, if_pos c1, if_pos c4, if_neg (not_not_intro c4)]; done))
      have hP : va_P g.1 vwCl (wM g a (sMsm (sMsv m9 (Msv (ms m9) (msv m9) j)) (nI (kSz j)))) H := by rw [e5]; exact hP
      have hD : va_D A (wM g a (sMsm (sMsv m9 (Msv (ms m9) (msv m9) j)) (nI (kSz j)))) := by rw [e5]; exact hD
      exact k_vret hx hb hr hlocks hP hD hS (Nat.le_of_ble_eq_true rfl) (Nat.le_of_ble_eq_true rfl) dX4_saves_93
    ·
      refine lv_aload_n hx hb dX4_saves_57 rfl (lv_at hl 1 rfl) ?_
      refine va_get (D := g.1) (ci := 4) (v := .ref (a 3)) (C := RX4) (T := TX4) (N := 12) hx hb hts hiX4 hown hE.1 hP 0 rfl rfl 3 (by decide) f16 (fun _ h9 => h9) rfl dX4_saves_58 ?_
      refine lv_bipush (v := (nI 120)) hx hb dX4_saves_61 (by decide) ?_
      refine lv_aload_n hx hb dX4_saves_63 rfl (lv_at hl 1 rfl) ?_
      refine va_get (D := g.1) (ci := 4) (v := .int (msm m9)) (C := RX4) (T := TX4) (N := 12) hx hb hts hiX4 hown hE.1 hP 0 rfl rfl 4 (by decide) f33 (fun _ h9 => h9) rfl dX4_saves_64 ?_
      refine k_top hjm ?_
      refine lv_imul hx hb dX4_saves_67 ?_
      refine k_top (pk_mul _ _) ?_
      refine lv_iload_n hx hb dX4_saves_68 rfl (lv_at hl 0 rfl) ?_
      refine lv_iadd hx hb dX4_saves_69 ?_
      refine k_top (nI_add _ _) ?_
      refine lv_aload_n hx hb dX4_saves_70 rfl (lv_at hl 1 rfl) ?_
      refine va_get (D := g.1) (ci := 4) (v := .ref (a 1)) (C := RX4) (T := TX4) (N := 12) hx hb hts hiX4 hown hE.1 hP 0 rfl rfl 1 (by decide) f7 (fun _ h9 => h9) rfl dX4_saves_71 ?_
      refine lv_iload_n hx hb dX4_saves_74 rfl (lv_at hl 0 rfl) ?_
      refine k_iald (f := (ms m9)) hx hb hE hP 1 rfl i2 rfl (by omega) (by decide) dX4_saves_75 ?_
      refine k_iast (f := (cpB (ms m9) (msv m9) j i2)) (ws1 := (wM g a (sMsv m9 (upd (cpB (ms m9) (msv m9) j i2) ((120 * j) + i2) ((ms m9) i2))))) hx hb hE hP hD hS 3 rfl ((120 * j) + i2) rfl (by omega) (by decide) rfl dX4_saves_76 (fun H locs hP hD hS => ?_)
      refine lv_iinc (v := (nI (i2 + 1))) (lv' := [(1, .int (nI (i2 + 1))), (0, .ref (a 0))]) hx hb dX4_saves_77 hl (k := 0) rfl (k_inc1 _) (by decide) rfl (fun ls hl => ?_)
      refine lv_goto (tgt := 51) hx hb dX4_saves_80 (by decide) ?_
      have e6 : (sMsv m9 (cpB (ms m9) (msv m9) j (i2 + 1))) = (sMsv m9 (upd (cpB (ms m9) (msv m9) j i2) ((120 * j) + i2) ((ms m9) i2))) := (by first | (simp only [Msv, kSz, cpB, if_neg c1, if_pos c1, if_neg (Nat.not_le.mpr c4), if_pos (Nat.not_le.mpr c4)]; done) | (simp only [Msv, kSz, cpB, if_neg c1, if_pos c1, if_neg (Nat.not_le.mpr c4), if_pos (Nat.not_le.mpr c4)]; rfl) | rfl | (simp [Msv, kSz, cpB, if_neg c1, if_pos c1, if_neg (Nat.not_le.mpr c4), if_pos (Nat.not_le.mpr c4)]; done))
      exact ih2 _ _ _ (by omega) ⟨(by rw [e6]; exact hP), (by rw [e6]; exact hD), hS, lv_sub hl [0, 1] rfl⟩
  ·
    refine lv_iconst (v := (nI 0)) hx hb dX4_saves_9 (by decide) ?_
    refine lv_istore_n (lv' := [(1, .int (nI 0)), (0, .ref (a 0))]) hx hb dX4_saves_10 rfl hl (by decide) rfl (fun ls hl => ?_)
    refine k_loop (N := 600) (Inv := fun (i : Nat) (H : Heap) (locs : List Loc) (ls : Array Slot) => va_P g.1 vwCl (wM g a (sMsv m9 (shN (msv m9) i))) H ∧ va_D A (wM g a (sMsv m9 (shN (msv m9) i))) ∧ va_S A s.heap H locs ∧ lv_has ls 2 [(1, .int (nI i)), (0, .ref (a 0))]) 0 (Nat.zero_le _) ⟨hP, hD, hS, lv_sub hl [0, 1] rfl⟩ (fun i hle8 ih7 H locs ls hinv => ?_)
    obtain ⟨hP, hD, hS, hl⟩ := hinv
    refine lv_iload_n hx hb dX4_saves_11 rfl (lv_at hl 0 rfl) ?_
    refine lv_sipush (v := (nI 600)) hx hb dX4_saves_12 (by decide) ?_
    refine k_geN (tgt := 39) hx hb (by omega) (by decide) dX4_saves_15 (by decide) (fun c9 => ?_) (fun c9 => ?_)
    ·
      obtain rfl : 600 = i := by omega
      refine lv_aload_n hx hb dX4_saves_39 rfl (lv_at hl 1 rfl) ?_
      refine lv_dup hx hb dX4_saves_40 rfl ?_
      refine va_get (D := g.1) (ci := 4) (v := .int (msm m9)) (C := RX4) (T := TX4) (N := 12) hx hb hts hiX4 hown hE.1 hP 0 rfl rfl 4 (by decide) f33 (fun _ h9 => h9) rfl dX4_saves_41 ?_
      refine k_top hjm ?_
      refine lv_iconst (v := (nI 1)) hx hb dX4_saves_44 (by decide) ?_
      refine lv_isub hx hb dX4_saves_45 ?_
      refine k_top (by rw [show j = 6 from by omega]; try decide) ?_
      refine va_put (D := g.1) (ci := 4) (v := .int (nI 5)) (ty := .int) (C := RX4) (T := TX4) (N := 12) hx hb hts hiX4 tyX4 tyX4_ok nmX4 hown hE.1 hP hD hS 0 rfl rfl 4 (by decide) f33 (fun _ h9 => h9) rfl (tyX4_ok 4 (by decide)) rfl rfl (Nat.le_of_ble_eq_true rfl) dX4_saves_46 (fun H locs hP hD hS => ?_)
      have hP : va_P g.1 vwCl (wM g a (sMsm (sMsv m9 (shN (msv m9) 600)) (nI 5))) _ := hP
      have hD : va_D A (wM g a (sMsm (sMsv m9 (shN (msv m9) 600)) (nI 5))) := hD
      refine lv_iconst (v := (nI 0)) hx hb dX4_saves_49 (by decide) ?_
      refine lv_istore_n (lv' := [(1, .int (nI 0)), (0, .ref (a 0))]) hx hb dX4_saves_50 rfl hl (by decide) rfl (fun ls hl => ?_)
      refine k_loop (N := 120) (Inv := fun (i2 : Nat) (H : Heap) (locs : List Loc) (ls : Array Slot) => va_P g.1 vwCl (wM g a (sMsv (sMsm m9 (nI 5)) (cpB (ms m9) (shN (msv m9) 600) 5 i2))) H ∧ va_D A (wM g a (sMsv (sMsm m9 (nI 5)) (cpB (ms m9) (shN (msv m9) 600) 5 i2))) ∧ va_S A s.heap H locs ∧ lv_has ls 2 [(1, .int (nI i2)), (0, .ref (a 0))]) 0 (Nat.zero_le _) ⟨hP, hD, hS, lv_sub hl [0, 1] rfl⟩ (fun i2 hle11 ih10 H locs ls hinv => ?_)
      obtain ⟨hP, hD, hS, hl⟩ := hinv
      refine lv_iload_n hx hb dX4_saves_51 rfl (lv_at hl 0 rfl) ?_
      refine lv_bipush (v := (nI 120)) hx hb dX4_saves_52 (by decide) ?_
      refine k_geN (tgt := 83) hx hb (by omega) (by decide) dX4_saves_54 (by decide) (fun c12 => ?_) (fun c12 => ?_)
      ·
        obtain rfl : 120 = i2 := by omega
        refine lv_aload_n hx hb dX4_saves_83 rfl (lv_at hl 1 rfl) ?_
        refine lv_dup hx hb dX4_saves_84 rfl ?_
        refine va_get (D := g.1) (ci := 4) (v := .int (nI 5)) (C := RX4) (T := TX4) (N := 12) hx hb hts hiX4 hown hE.1 hP 0 rfl rfl 4 (by decide) f33 (fun _ h9 => h9) rfl dX4_saves_85 ?_
        refine lv_iconst (v := (nI 1)) hx hb dX4_saves_88 (by decide) ?_
        refine lv_iadd hx hb dX4_saves_89 ?_
        refine k_top (nI_add _ _) ?_
        refine va_put (D := g.1) (ci := 4) (v := .int (nI (5 + 1))) (ty := .int) (C := RX4) (T := TX4) (N := 12) hx hb hts hiX4 tyX4 tyX4_ok nmX4 hown hE.1 hP hD hS 0 rfl rfl 4 (by decide) f33 (fun _ h9 => h9) rfl (tyX4_ok 4 (by decide)) rfl rfl (Nat.le_of_ble_eq_true rfl) dX4_saves_90 (fun H locs hP hD hS => ?_)
        have hP : va_P g.1 vwCl (wM g a (sMsm (sMsv m9 (cpB (ms m9) (shN (msv m9) 600) 5 120)) (nI (5 + 1)))) _ := hP
        have hD : va_D A (wM g a (sMsm (sMsv m9 (cpB (ms m9) (shN (msv m9) 600) 5 120)) (nI (5 + 1)))) := hD
        have e13 : (sMsm (sMsv m9 (Msv (ms m9) (msv m9) j)) (nI (kSz j))) = (sMsm (sMsv m9 (cpB (ms m9) (shN (msv m9) 600) 5 120)) (nI (5 + 1))) := (by first | (simp only [Msv, kSz, if_pos c1, if_neg (not_not_intro c1), if_pos c9, if_neg (not_not_intro c9), if_pos c12, if_neg (not_not_intro c12)]; done) | (simp only [Msv, kSz, if_pos c1, if_neg (not_not_intro c1), if_pos c9, if_neg (not_not_intro c9), if_pos c12, if_neg (not_not_intro c12)]; rfl) | rfl | (simp [Msv, kSz, if_pos c1, if_neg (not_not_intro c1), if_pos c9, if_neg (not_not_intro c9), if_pos c12, if_neg (not_not_intro c12)]; done))
        have hP : va_P g.1 vwCl (wM g a (sMsm (sMsv m9 (Msv (ms m9) (msv m9) j)) (nI (kSz j)))) H := by rw [e13]; exact hP
        have hD : va_D A (wM g a (sMsm (sMsv m9 (Msv (ms m9) (msv m9) j)) (nI (kSz j)))) := by rw [e13]; exact hD
        exact k_vret hx hb hr hlocks hP hD hS (Nat.le_of_ble_eq_true rfl) (Nat.le_of_ble_eq_true rfl) dX4_saves_93
      ·
        refine lv_aload_n hx hb dX4_saves_57 rfl (lv_at hl 1 rfl) ?_
        refine va_get (D := g.1) (ci := 4) (v := .ref (a 3)) (C := RX4) (T := TX4) (N := 12) hx hb hts hiX4 hown hE.1 hP 0 rfl rfl 3 (by decide) f16 (fun _ h9 => h9) rfl dX4_saves_58 ?_
        refine lv_bipush (v := (nI 120)) hx hb dX4_saves_61 (by decide) ?_
        refine lv_aload_n hx hb dX4_saves_63 rfl (lv_at hl 1 rfl) ?_
        refine va_get (D := g.1) (ci := 4) (v := .int (nI 5)) (C := RX4) (T := TX4) (N := 12) hx hb hts hiX4 hown hE.1 hP 0 rfl rfl 4 (by decide) f33 (fun _ h9 => h9) rfl dX4_saves_64 ?_
        refine lv_imul hx hb dX4_saves_67 ?_
        refine k_top (pk_mul _ _) ?_
        refine lv_iload_n hx hb dX4_saves_68 rfl (lv_at hl 0 rfl) ?_
        refine lv_iadd hx hb dX4_saves_69 ?_
        refine k_top (nI_add _ _) ?_
        refine lv_aload_n hx hb dX4_saves_70 rfl (lv_at hl 1 rfl) ?_
        refine va_get (D := g.1) (ci := 4) (v := .ref (a 1)) (C := RX4) (T := TX4) (N := 12) hx hb hts hiX4 hown hE.1 hP 0 rfl rfl 1 (by decide) f7 (fun _ h9 => h9) rfl dX4_saves_71 ?_
        refine lv_iload_n hx hb dX4_saves_74 rfl (lv_at hl 0 rfl) ?_
        refine k_iald (f := (ms m9)) hx hb hE hP 1 rfl i2 rfl (by omega) (by decide) dX4_saves_75 ?_
        refine k_iast (f := (cpB (ms m9) (shN (msv m9) 600) 5 i2)) (ws1 := (wM g a (sMsv (sMsm m9 (nI 5)) (upd (cpB (ms m9) (shN (msv m9) 600) 5 i2) ((120 * 5) + i2) ((ms m9) i2))))) hx hb hE hP hD hS 3 rfl ((120 * 5) + i2) rfl (by omega) (by decide) rfl dX4_saves_76 (fun H locs hP hD hS => ?_)
        refine lv_iinc (v := (nI (i2 + 1))) (lv' := [(1, .int (nI (i2 + 1))), (0, .ref (a 0))]) hx hb dX4_saves_77 hl (k := 0) rfl (k_inc1 _) (by decide) rfl (fun ls hl => ?_)
        refine lv_goto (tgt := 51) hx hb dX4_saves_80 (by decide) ?_
        have e14 : (sMsv (sMsm m9 (nI 5)) (cpB (ms m9) (shN (msv m9) 600) 5 (i2 + 1))) = (sMsv (sMsm m9 (nI 5)) (upd (cpB (ms m9) (shN (msv m9) 600) 5 i2) ((120 * 5) + i2) ((ms m9) i2))) := (by first | (simp only [Msv, kSz, cpB, if_pos c1, if_neg (not_not_intro c1), if_pos c9, if_neg (not_not_intro c9), if_neg (Nat.not_le.mpr c12), if_pos (Nat.not_le.mpr c12)]; done) | (simp only [Msv, kSz, cpB, if_pos c1, if_neg (not_not_intro c1), if_pos c9, if_neg (not_not_intro c9), if_neg (Nat.not_le.mpr c12), if_pos (Nat.not_le.mpr c12)]; rfl) | rfl | (simp [Msv, kSz, cpB, if_pos c1, if_neg (not_not_intro c1), if_pos c9, if_neg (not_not_intro c9), if_neg (Nat.not_le.mpr c12), if_pos (Nat.not_le.mpr c12)]; done))
        exact ih10 _ _ _ (by omega) ⟨(by rw [e14]; exact hP), (by rw [e14]; exact hD), hS, lv_sub hl [0, 1] rfl⟩
    ·
      refine lv_aload_n hx hb dX4_saves_18 rfl (lv_at hl 1 rfl) ?_
      refine va_get (D := g.1) (ci := 4) (v := .ref (a 3)) (C := RX4) (T := TX4) (N := 12) hx hb hts hiX4 hown hE.1 hP 0 rfl rfl 3 (by decide) f16 (fun _ h9 => h9) rfl dX4_saves_19 ?_
      refine lv_iload_n hx hb dX4_saves_22 rfl (lv_at hl 0 rfl) ?_
      refine lv_aload_n hx hb dX4_saves_23 rfl (lv_at hl 1 rfl) ?_
      refine va_get (D := g.1) (ci := 4) (v := .ref (a 3)) (C := RX4) (T := TX4) (N := 12) hx hb hts hiX4 hown hE.1 hP 0 rfl rfl 3 (by decide) f16 (fun _ h9 => h9) rfl dX4_saves_24 ?_
      refine lv_iload_n hx hb dX4_saves_27 rfl (lv_at hl 0 rfl) ?_
      refine lv_bipush (v := (nI 120)) hx hb dX4_saves_28 (by decide) ?_
      refine lv_iadd hx hb dX4_saves_30 ?_
      refine k_top (nI_add _ _) ?_
      refine k_iald (f := (shN (msv m9) i)) hx hb hE hP 3 rfl (i + 120) rfl (by omega) (by decide) dX4_saves_31 ?_
      refine k_iast (f := (shN (msv m9) i)) (ws1 := (wM g a (sMsv m9 (upd (shN (msv m9) i) i ((shN (msv m9) i) (i + 120)))))) hx hb hE hP hD hS 3 rfl i rfl (by omega) (by decide) rfl dX4_saves_32 (fun H locs hP hD hS => ?_)
      refine lv_iinc (v := (nI (i + 1))) (lv' := [(1, .int (nI (i + 1))), (0, .ref (a 0))]) hx hb dX4_saves_33 hl (k := 0) rfl (k_inc1 _) (by decide) rfl (fun ls hl => ?_)
      refine lv_goto (tgt := 11) hx hb dX4_saves_36 (by decide) ?_
      have e15 : (sMsv m9 (shN (msv m9) (i + 1))) = (sMsv m9 (upd (shN (msv m9) i) i ((shN (msv m9) i) (i + 120)))) := (by first | (simp only [Msv, kSz, shN, if_pos c1, if_neg (not_not_intro c1), if_neg (Nat.not_le.mpr c9), if_pos (Nat.not_le.mpr c9)]; done) | (simp only [Msv, kSz, shN, if_pos c1, if_neg (not_not_intro c1), if_neg (Nat.not_le.mpr c9), if_pos (Nat.not_le.mpr c9)]; rfl) | rfl | (simp [Msv, kSz, shN, if_pos c1, if_neg (not_not_intro c1), if_neg (Nat.not_le.mpr c9), if_pos (Nat.not_le.mpr c9)]; done))
      exact ih7 _ _ _ (by omega) ⟨(by rw [e15]; exact hP), (by rw [e15]; exact hD), hS, lv_sub hl [0, 1] rfl⟩
set_option maxHeartbeats 4000000 in
set_option maxRecDepth 100000 in
theorem c_X4_come (l : Launch) (g : kG) (a : Nat → Nat) (m9 : MSt) (j : Nat) (hj : j ≤ 6) (hjm : msm m9 = nI j) (row con : Int32) : KI l yX4_come wsX4_come ({ frames := 2, cells := 0, slots := 0, locals := 43 }) g [.ref (a 0), .int row, .int con] (wM g a m9) (McomeR row con m9) (wM g a (Mcome j row con m9)) 0 0 := by
  refine k_begin (cc := cX4_come) (maxL := 3) (ret := (some .int)) (Qc := fun A => kQi g (McomeR row con m9) (wM g a (Mcome j row con m9)) A) (by decide) rfl (Nat.le_of_ble_eq_true rfl) ?_
  intro p e s m below meth c A ls hF hr hlocks hin hE hP hD hS hA hl
  obtain ⟨hx, hb, hml, hown, hts⟩ := id hF
  have hown : s.vm.findClass RX4 = some m.cls := hown
  have hl : lv_has ls 3 [(0, .ref (a 0)), (1, .int row), (2, .int con)] := hl
  have hiX4 : ∀ w ∈ wsX40, w ∈ wsX4_come := fun _ h => List.mem_cons_of_mem _ (List.mem_append_right _ (h))
  have f25 : (Cond.fieldLink RX4 25 "ConcertUsherModel" "thrown" "I").before _ s = true := hts _ (List.mem_of_getElem? (i := 1) rfl)
  have f7 : (Cond.fieldLink RX4 7 "ConcertUsherModel" "s" "[I").before _ s = true := hts _ (List.mem_of_getElem? (i := 2) rfl)
  refine lv_aload_n hx hb dX4_come_0 rfl (lv_at hl 0 rfl) ?_
  refine lv_iconst (v := (nI 0)) hx hb dX4_come_1 (by decide) ?_
  refine va_put (D := g.1) (ci := 4) (v := .int (nI 0)) (ty := .int) (C := RX4) (T := TX4) (N := 12) hx hb hts hiX4 tyX4 tyX4_ok nmX4 hown hE.1 hP hD hS 0 rfl rfl 0 (by decide) f25 (fun _ h9 => h9) rfl (tyX4_ok 0 (by decide)) rfl rfl (Nat.le_of_ble_eq_true rfl) dX4_come_2 (fun H locs hP hD hS => ?_)
  have hP : va_P g.1 vwCl (wM g a (sMth m9 (nI 0))) _ := hP
  have hD : va_D A (wM g a (sMth m9 (nI 0))) := hD
  refine lv_iload_n hx hb dX4_come_5 rfl (lv_at hl 1 rfl) ?_
  refine lv_iload_n hx hb dX4_come_6 rfl (lv_at hl 2 rfl) ?_
  refine k_Si (w0 := []) (w1 := []) (As := [.int row, .int con]) (r := (bI (pairOK row con))) hF (c_X4_isPair l g row con) (va_cwS 2 hts gX4_come_X4_isPair rfl rfl rfl (by decide +kernel) ⟨Nat.le_of_ble_eq_true rfl, Nat.le_of_ble_eq_true rfl⟩) hE hP hD hS hA (List.Perm.refl _) (List.Perm.refl _) rfl hl.1 rfl (Nat.le_of_ble_eq_true rfl) dX4_come_7 ⟨Nat.le_of_ble_eq_true rfl, Nat.le_of_ble_eq_true rfl⟩ (fun H locs hP hD hS => ?_)
  have hP : va_P g.1 vwCl (wM g a (sMth m9 (nI 0))) _ := hP
  have hD : va_D A (wM g a (sMth m9 (nI 0))) := hD
  refine k_ifneB (tgt := 19) hx hb dX4_come_10 (by decide) (fun c1 => ?_) (fun c1 => ?_)
  ·
    obtain ⟨r9, hr9, hre⟩ := in_nat (by decide) (by decide) c1.1
    obtain ⟨c9, hc9, hce⟩ := in_nat (by decide) (by decide) c1.2
    have hpl : plM row con = 6 * r9 + c9 := plM_eq hr9.2 hc9.2 hre hce
    refine lv_aload_n hx hb dX4_come_19 rfl (lv_at hl 0 rfl) ?_
    refine va_get (D := g.1) (ci := 4) (v := .ref (a 1)) (C := RX4) (T := TX4) (N := 12) hx hb hts hiX4 hown hE.1 hP 0 rfl rfl 1 (by decide) f7 (fun _ h9 => h9) rfl dX4_come_20 ?_
    refine lv_bipush (v := (nI 21)) hx hb dX4_come_23 (by decide) ?_
    refine lv_iload_n hx hb dX4_come_25 rfl (lv_at hl 1 rfl) ?_
    refine k_top hre ?_
    refine lv_iload_n hx hb dX4_come_26 rfl (lv_at hl 2 rfl) ?_
    refine k_top hce ?_
    refine k_Si (w0 := []) (w1 := []) (As := [.int (nI r9), .int (nI c9)]) (r := (nI (6 * r9 + c9))) hF (c_X4_cellOf l g r9 c9) (va_cwS 2 hts gX4_come_X4_cellOf rfl rfl rfl (by decide +kernel) ⟨Nat.le_of_ble_eq_true rfl, Nat.le_of_ble_eq_true rfl⟩) hE hP hD hS hA (List.Perm.refl _) (List.Perm.refl _) rfl hl.1 rfl (Nat.le_of_ble_eq_true rfl) dX4_come_27 ⟨Nat.le_of_ble_eq_true rfl, Nat.le_of_ble_eq_true rfl⟩ (fun H locs hP hD hS => ?_)
    have hP : va_P g.1 vwCl (wM g a (sMth m9 (nI 0))) _ := hP
    have hD : va_D A (wM g a (sMth m9 (nI 0))) := hD
    refine lv_iadd hx hb dX4_come_30 ?_
    refine k_top (nI_add _ _) ?_
    refine k_iald (f := (ms m9)) hx hb hE hP 1 rfl (21 + (6 * r9 + c9)) rfl (by omega) (by decide) dX4_come_31 ?_
    refine lv_bipush (v := (nI 9)) hx hb dX4_come_32 (by decide) ?_
    refine lv_icmp_ne (tgt := 43) hx hb dX4_come_34 (by decide) (fun c2 => ?_) (fun c2 => ?_)
    ·
      refine lv_aload_n hx hb dX4_come_43 rfl (lv_at hl 0 rfl) ?_
      refine k_Vv (As := []) hF (c_X4_saves l g a (sMth m9 (nI 0)) j (by omega) hjm) (cwV 0 hts gX4_come_X4_saves rfl rfl rfl (by decide +kernel) ⟨Nat.le_of_ble_eq_true rfl, Nat.le_of_ble_eq_true rfl⟩) hE hP hD hS hA (k_pall _) ((k_pall _).symm) 0 rfl rfl rfl rfl hl.1 rfl (Nat.le_of_ble_eq_true rfl) dX4_come_44 ⟨Nat.le_of_ble_eq_true rfl, Nat.le_of_ble_eq_true rfl⟩ (fun H locs hP hD hS => ?_)
      have hP : va_P g.1 vwCl (wM g a (sMsm (sMsv (sMth m9 (nI 0)) (Msv (ms m9) (msv m9) j)) (nI (kSz j)))) _ := hP
      have hD : va_D A (wM g a (sMsm (sMsv (sMth m9 (nI 0)) (Msv (ms m9) (msv m9) j)) (nI (kSz j)))) := hD
      refine lv_aload_n hx hb dX4_come_47 rfl (lv_at hl 0 rfl) ?_
      refine lv_iload_n hx hb dX4_come_48 rfl (lv_at hl 1 rfl) ?_
      refine k_top hre ?_
      refine lv_iload_n hx hb dX4_come_49 rfl (lv_at hl 2 rfl) ?_
      refine k_top hce ?_
      refine k_Si (w0 := []) (w1 := []) (As := [.int (nI r9), .int (nI c9)]) (r := (nI (6 * r9 + c9))) hF (c_X4_cellOf l g r9 c9) (va_cwS 2 hts gX4_come_X4_cellOf rfl rfl rfl (by decide +kernel) ⟨Nat.le_of_ble_eq_true rfl, Nat.le_of_ble_eq_true rfl⟩) hE hP hD hS hA (List.Perm.refl _) (List.Perm.refl _) rfl hl.1 rfl (Nat.le_of_ble_eq_true rfl) dX4_come_50 ⟨Nat.le_of_ble_eq_true rfl, Nat.le_of_ble_eq_true rfl⟩ (fun H locs hP hD hS => ?_)
      have hP : va_P g.1 vwCl (wM g a (sMsm (sMsv (sMth m9 (nI 0)) (Msv (ms m9) (msv m9) j)) (nI (kSz j)))) _ := hP
      have hD : va_D A (wM g a (sMsm (sMsv (sMth m9 (nI 0)) (Msv (ms m9) (msv m9) j)) (nI (kSz j)))) := hD
      refine k_Vi (As := [.int (nI (6 * r9 + c9))]) (r := (Mcomes (6 * r9 + c9) (ms m9) (21 + (6 * r9 + c9)))) hF (c_X4_comes l g a (sMsm (sMsv (sMth m9 (nI 0)) (Msv (ms m9) (msv m9) j)) (nI (kSz j))) (6 * r9 + c9) (by omega)) (cwV 1 hts gX4_come_X4_comes rfl rfl rfl (by decide +kernel) ⟨Nat.le_of_ble_eq_true rfl, Nat.le_of_ble_eq_true rfl⟩) hE hP hD hS hA (k_pall _) ((k_pall _).symm) 0 rfl rfl rfl rfl hl.1 rfl (Nat.le_of_ble_eq_true rfl) dX4_come_53 ⟨Nat.le_of_ble_eq_true rfl, Nat.le_of_ble_eq_true rfl⟩ (fun H locs hP hD hS => ?_)
      have hP : va_P g.1 vwCl (wM g a (sMs (sMsm (sMsv (sMth m9 (nI 0)) (Msv (ms m9) (msv m9) j)) (nI (kSz j))) (Mcomes (6 * r9 + c9) (ms m9)))) _ := hP
      have hD : va_D A (wM g a (sMs (sMsm (sMsv (sMth m9 (nI 0)) (Msv (ms m9) (msv m9) j)) (nI (kSz j))) (Mcomes (6 * r9 + c9) (ms m9)))) := hD
      have e3 : (Mcome j row con m9) = (sMs (sMsm (sMsv (sMth m9 (nI 0)) (Msv (ms m9) (msv m9) j)) (nI (kSz j))) (Mcomes (6 * r9 + c9) (ms m9))) := (by first | (simp only [Mcome, McomeR, if_pos c1, if_neg (not_not_intro c1), if_neg c2, if_pos c2, hpl]; done) | (simp only [Mcome, McomeR, if_pos c1, if_neg (not_not_intro c1), if_neg c2, if_pos c2, hpl]; rfl) | rfl | (simp [Mcome, McomeR, if_pos c1, if_neg (not_not_intro c1), if_neg c2, if_pos c2, hpl]; done))
      have hP : va_P g.1 vwCl (wM g a (Mcome j row con m9)) H := by rw [e3]; exact hP
      have hD : va_D A (wM g a (Mcome j row con m9)) := by rw [e3]; exact hD
      exact k_iret hx hb hr hlocks rfl (by first | (simp only [Mcome, McomeR, bI, if_pos c1, if_neg (not_not_intro c1), if_neg c2, if_pos c2, hpl]; done) | (simp only [Mcome, McomeR, bI, if_pos c1, if_neg (not_not_intro c1), if_neg c2, if_pos c2, hpl]; rfl) | rfl | (simp [Mcome, McomeR, bI, if_pos c1, if_neg (not_not_intro c1), if_neg c2, if_pos c2, hpl]; done)) hP hD hS (Nat.le_of_ble_eq_true rfl) (Nat.le_of_ble_eq_true rfl) dX4_come_56
    ·
      refine lv_aload_n hx hb dX4_come_37 rfl (lv_at hl 0 rfl) ?_
      refine lv_iconst (v := (nI 2)) hx hb dX4_come_38 (by decide) ?_
      refine k_Vi (As := [.int (nI 2)]) (r := (nI 0)) hF (c_X4_fails l g a (sMth m9 (nI 0)) (nI 2)) (cwV 1 hts gX4_come_X4_fails rfl rfl rfl (by decide +kernel) ⟨Nat.le_of_ble_eq_true rfl, Nat.le_of_ble_eq_true rfl⟩) hE hP hD hS hA (k_pall _) ((k_pall _).symm) 0 rfl rfl rfl rfl hl.1 rfl (Nat.le_of_ble_eq_true rfl) dX4_come_39 ⟨Nat.le_of_ble_eq_true rfl, Nat.le_of_ble_eq_true rfl⟩ (fun H locs hP hD hS => ?_)
      have hP : va_P g.1 vwCl (wM g a (sMth m9 (nI 2))) _ := hP
      have hD : va_D A (wM g a (sMth m9 (nI 2))) := hD
      have e4 : (Mcome j row con m9) = (sMth m9 (nI 2)) := (by first | (simp only [Mcome, McomeR, if_pos c1, if_neg (not_not_intro c1), if_pos c2, if_neg (not_not_intro c2), hpl]; done) | (simp only [Mcome, McomeR, if_pos c1, if_neg (not_not_intro c1), if_pos c2, if_neg (not_not_intro c2), hpl]; rfl) | rfl | (simp [Mcome, McomeR, if_pos c1, if_neg (not_not_intro c1), if_pos c2, if_neg (not_not_intro c2), hpl]; done))
      have hP : va_P g.1 vwCl (wM g a (Mcome j row con m9)) H := by rw [e4]; exact hP
      have hD : va_D A (wM g a (Mcome j row con m9)) := by rw [e4]; exact hD
      exact k_iret hx hb hr hlocks rfl (by first | (simp only [Mcome, McomeR, bI, if_pos c1, if_neg (not_not_intro c1), if_pos c2, if_neg (not_not_intro c2), hpl]; done) | (simp only [Mcome, McomeR, bI, if_pos c1, if_neg (not_not_intro c1), if_pos c2, if_neg (not_not_intro c2), hpl]; rfl) | rfl | (simp [Mcome, McomeR, bI, if_pos c1, if_neg (not_not_intro c1), if_pos c2, if_neg (not_not_intro c2), hpl]; done)) hP hD hS (Nat.le_of_ble_eq_true rfl) (Nat.le_of_ble_eq_true rfl) dX4_come_42
  ·
    refine lv_aload_n hx hb dX4_come_13 rfl (lv_at hl 0 rfl) ?_
    refine lv_iconst (v := (nI 1)) hx hb dX4_come_14 (by decide) ?_
    refine k_Vi (As := [.int (nI 1)]) (r := (nI 0)) hF (c_X4_fails l g a (sMth m9 (nI 0)) (nI 1)) (cwV 1 hts gX4_come_X4_fails rfl rfl rfl (by decide +kernel) ⟨Nat.le_of_ble_eq_true rfl, Nat.le_of_ble_eq_true rfl⟩) hE hP hD hS hA (k_pall _) ((k_pall _).symm) 0 rfl rfl rfl rfl hl.1 rfl (Nat.le_of_ble_eq_true rfl) dX4_come_15 ⟨Nat.le_of_ble_eq_true rfl, Nat.le_of_ble_eq_true rfl⟩ (fun H locs hP hD hS => ?_)
    have hP : va_P g.1 vwCl (wM g a (sMth m9 (nI 1))) _ := hP
    have hD : va_D A (wM g a (sMth m9 (nI 1))) := hD
    have e5 : (Mcome j row con m9) = (sMth m9 (nI 1)) := (by first | (simp only [Mcome, McomeR, if_neg c1, if_pos c1]; done) | (simp only [Mcome, McomeR, if_neg c1, if_pos c1]; rfl) | rfl | (simp [Mcome, McomeR, if_neg c1, if_pos c1]; done))
    have hP : va_P g.1 vwCl (wM g a (Mcome j row con m9)) H := by rw [e5]; exact hP
    have hD : va_D A (wM g a (Mcome j row con m9)) := by rw [e5]; exact hD
    exact k_iret hx hb hr hlocks rfl (by first | (simp only [Mcome, McomeR, bI, if_neg c1, if_pos c1]; done) | (simp only [Mcome, McomeR, bI, if_neg c1, if_pos c1]; rfl) | rfl | (simp [Mcome, McomeR, bI, if_neg c1, if_pos c1]; done)) hP hD hS (Nat.le_of_ble_eq_true rfl) (Nat.le_of_ble_eq_true rfl) dX4_come_18
set_option maxHeartbeats 4000000 in
set_option maxRecDepth 100000 in
theorem c_X4_leave (l : Launch) (g : kG) (a : Nat → Nat) (m9 : MSt) (j : Nat) (hj : j ≤ 6) (hjm : msm m9 = nI j) (row con : Int32) (b : Nat) (hb2 : b < 2) : KI l yX4_leave wsX4_leave ({ frames := 3, cells := 0, slots := 0, locals := 64 }) g [.ref (a 0), .int row, .int con, .int (nI b)] (wM g a m9) (MleaveR row con b m9) (wM g a (Mleave j row con b m9)) 0 0 := by
  refine k_begin (cc := cX4_leave) (maxL := 4) (ret := (some .int)) (Qc := fun A => kQi g (MleaveR row con b m9) (wM g a (Mleave j row con b m9)) A) (by decide) rfl (Nat.le_of_ble_eq_true rfl) ?_
  intro p e s m below meth c A ls hF hr hlocks hin hE hP hD hS hA hl
  obtain ⟨hx, hb, hml, hown, hts⟩ := id hF
  have hown : s.vm.findClass RX4 = some m.cls := hown
  have hl : lv_has ls 4 [(0, .ref (a 0)), (1, .int row), (2, .int con), (3, .int (nI b))] := hl
  have hiX4 : ∀ w ∈ wsX40, w ∈ wsX4_leave := fun _ h => List.mem_cons_of_mem _ (List.mem_append_right _ (h))
  have f25 : (Cond.fieldLink RX4 25 "ConcertUsherModel" "thrown" "I").before _ s = true := hts _ (List.mem_of_getElem? (i := 1) rfl)
  have f7 : (Cond.fieldLink RX4 7 "ConcertUsherModel" "s" "[I").before _ s = true := hts _ (List.mem_of_getElem? (i := 2) rfl)
  refine lv_aload_n hx hb dX4_leave_0 rfl (lv_at hl 0 rfl) ?_
  refine lv_iconst (v := (nI 0)) hx hb dX4_leave_1 (by decide) ?_
  refine va_put (D := g.1) (ci := 4) (v := .int (nI 0)) (ty := .int) (C := RX4) (T := TX4) (N := 12) hx hb hts hiX4 tyX4 tyX4_ok nmX4 hown hE.1 hP hD hS 0 rfl rfl 0 (by decide) f25 (fun _ h9 => h9) rfl (tyX4_ok 0 (by decide)) rfl rfl (Nat.le_of_ble_eq_true rfl) dX4_leave_2 (fun H locs hP hD hS => ?_)
  have hP : va_P g.1 vwCl (wM g a (sMth m9 (nI 0))) _ := hP
  have hD : va_D A (wM g a (sMth m9 (nI 0))) := hD
  refine lv_iload_n hx hb dX4_leave_5 rfl (lv_at hl 1 rfl) ?_
  refine lv_iload_n hx hb dX4_leave_6 rfl (lv_at hl 2 rfl) ?_
  refine k_Si (w0 := []) (w1 := []) (As := [.int row, .int con]) (r := (bI (pairOK row con))) hF (c_X4_isPair l g row con) (va_cwS 2 hts gX4_leave_X4_isPair rfl rfl rfl (by decide +kernel) ⟨Nat.le_of_ble_eq_true rfl, Nat.le_of_ble_eq_true rfl⟩) hE hP hD hS hA (List.Perm.refl _) (List.Perm.refl _) rfl hl.1 rfl (Nat.le_of_ble_eq_true rfl) dX4_leave_7 ⟨Nat.le_of_ble_eq_true rfl, Nat.le_of_ble_eq_true rfl⟩ (fun H locs hP hD hS => ?_)
  have hP : va_P g.1 vwCl (wM g a (sMth m9 (nI 0))) _ := hP
  have hD : va_D A (wM g a (sMth m9 (nI 0))) := hD
  refine k_ifneB (tgt := 19) hx hb dX4_leave_10 (by decide) (fun c1 => ?_) (fun c1 => ?_)
  ·
    obtain ⟨r9, hr9, hre⟩ := in_nat (by decide) (by decide) c1.1
    obtain ⟨c9, hc9, hce⟩ := in_nat (by decide) (by decide) c1.2
    have hpl : plM row con = 6 * r9 + c9 := plM_eq hr9.2 hc9.2 hre hce
    refine lv_aload_n hx hb dX4_leave_19 rfl (lv_at hl 0 rfl) ?_
    refine va_get (D := g.1) (ci := 4) (v := .ref (a 1)) (C := RX4) (T := TX4) (N := 12) hx hb hts hiX4 hown hE.1 hP 0 rfl rfl 1 (by decide) f7 (fun _ h9 => h9) rfl dX4_leave_20 ?_
    refine lv_bipush (v := (nI 21)) hx hb dX4_leave_23 (by decide) ?_
    refine lv_iload_n hx hb dX4_leave_25 rfl (lv_at hl 1 rfl) ?_
    refine k_top hre ?_
    refine lv_iload_n hx hb dX4_leave_26 rfl (lv_at hl 2 rfl) ?_
    refine k_top hce ?_
    refine k_Si (w0 := []) (w1 := []) (As := [.int (nI r9), .int (nI c9)]) (r := (nI (6 * r9 + c9))) hF (c_X4_cellOf l g r9 c9) (va_cwS 2 hts gX4_leave_X4_cellOf rfl rfl rfl (by decide +kernel) ⟨Nat.le_of_ble_eq_true rfl, Nat.le_of_ble_eq_true rfl⟩) hE hP hD hS hA (List.Perm.refl _) (List.Perm.refl _) rfl hl.1 rfl (Nat.le_of_ble_eq_true rfl) dX4_leave_27 ⟨Nat.le_of_ble_eq_true rfl, Nat.le_of_ble_eq_true rfl⟩ (fun H locs hP hD hS => ?_)
    have hP : va_P g.1 vwCl (wM g a (sMth m9 (nI 0))) _ := hP
    have hD : va_D A (wM g a (sMth m9 (nI 0))) := hD
    refine lv_iadd hx hb dX4_leave_30 ?_
    refine k_top (nI_add _ _) ?_
    refine k_iald (f := (ms m9)) hx hb hE hP 1 rfl (21 + (6 * r9 + c9)) rfl (by omega) (by decide) dX4_leave_31 ?_
    refine lv_if_ne (tgt := 41) hx hb dX4_leave_32 (by decide) (fun c2 => ?_) (fun c2 => ?_)
    ·
      refine lv_aload_n hx hb dX4_leave_41 rfl (lv_at hl 0 rfl) ?_
      refine k_Vv (As := []) hF (c_X4_saves l g a (sMth m9 (nI 0)) j (by omega) hjm) (cwV 0 hts gX4_leave_X4_saves rfl rfl rfl (by decide +kernel) ⟨Nat.le_of_ble_eq_true rfl, Nat.le_of_ble_eq_true rfl⟩) hE hP hD hS hA (k_pall _) ((k_pall _).symm) 0 rfl rfl rfl rfl hl.1 rfl (Nat.le_of_ble_eq_true rfl) dX4_leave_42 ⟨Nat.le_of_ble_eq_true rfl, Nat.le_of_ble_eq_true rfl⟩ (fun H locs hP hD hS => ?_)
      have hP : va_P g.1 vwCl (wM g a (sMsm (sMsv (sMth m9 (nI 0)) (Msv (ms m9) (msv m9) j)) (nI (kSz j)))) _ := hP
      have hD : va_D A (wM g a (sMsm (sMsv (sMth m9 (nI 0)) (Msv (ms m9) (msv m9) j)) (nI (kSz j)))) := hD
      refine lv_aload_n hx hb dX4_leave_45 rfl (lv_at hl 0 rfl) ?_
      refine lv_iload_n hx hb dX4_leave_46 rfl (lv_at hl 1 rfl) ?_
      refine k_top hre ?_
      refine lv_iload_n hx hb dX4_leave_47 rfl (lv_at hl 2 rfl) ?_
      refine k_top hce ?_
      refine k_Si (w0 := []) (w1 := []) (As := [.int (nI r9), .int (nI c9)]) (r := (nI (6 * r9 + c9))) hF (c_X4_cellOf l g r9 c9) (va_cwS 2 hts gX4_leave_X4_cellOf rfl rfl rfl (by decide +kernel) ⟨Nat.le_of_ble_eq_true rfl, Nat.le_of_ble_eq_true rfl⟩) hE hP hD hS hA (List.Perm.refl _) (List.Perm.refl _) rfl hl.1 rfl (Nat.le_of_ble_eq_true rfl) dX4_leave_48 ⟨Nat.le_of_ble_eq_true rfl, Nat.le_of_ble_eq_true rfl⟩ (fun H locs hP hD hS => ?_)
      have hP : va_P g.1 vwCl (wM g a (sMsm (sMsv (sMth m9 (nI 0)) (Msv (ms m9) (msv m9) j)) (nI (kSz j)))) _ := hP
      have hD : va_D A (wM g a (sMsm (sMsv (sMth m9 (nI 0)) (Msv (ms m9) (msv m9) j)) (nI (kSz j)))) := hD
      refine lv_iload_n hx hb dX4_leave_51 rfl (lv_at hl 3 rfl) ?_
      refine k_Vi (As := [.int (nI (6 * r9 + c9)), .int (nI b)]) (r := (Mleaves (6 * r9 + c9) b (ms m9) (21 + (6 * r9 + c9)))) hF (c_X4_leaves l g a (sMsm (sMsv (sMth m9 (nI 0)) (Msv (ms m9) (msv m9) j)) (nI (kSz j))) (6 * r9 + c9) (by omega) b (by omega)) (cwV 2 hts gX4_leave_X4_leaves rfl rfl rfl (by decide +kernel) ⟨Nat.le_of_ble_eq_true rfl, Nat.le_of_ble_eq_true rfl⟩) hE hP hD hS hA (k_pall _) ((k_pall _).symm) 0 rfl rfl rfl rfl hl.1 rfl (Nat.le_of_ble_eq_true rfl) dX4_leave_52 ⟨Nat.le_of_ble_eq_true rfl, Nat.le_of_ble_eq_true rfl⟩ (fun H locs hP hD hS => ?_)
      have hP : va_P g.1 vwCl (wM g a (sMs (sMsm (sMsv (sMth m9 (nI 0)) (Msv (ms m9) (msv m9) j)) (nI (kSz j))) (Mleaves (6 * r9 + c9) b (ms m9)))) _ := hP
      have hD : va_D A (wM g a (sMs (sMsm (sMsv (sMth m9 (nI 0)) (Msv (ms m9) (msv m9) j)) (nI (kSz j))) (Mleaves (6 * r9 + c9) b (ms m9)))) := hD
      have e3 : (Mleave j row con b m9) = (sMs (sMsm (sMsv (sMth m9 (nI 0)) (Msv (ms m9) (msv m9) j)) (nI (kSz j))) (Mleaves (6 * r9 + c9) b (ms m9))) := (by first | (simp only [Mleave, MleaveR, if_pos c1, if_neg (not_not_intro c1), if_neg c2, if_pos c2, hpl]; done) | (simp only [Mleave, MleaveR, if_pos c1, if_neg (not_not_intro c1), if_neg c2, if_pos c2, hpl]; rfl) | rfl | (simp [Mleave, MleaveR, if_pos c1, if_neg (not_not_intro c1), if_neg c2, if_pos c2, hpl]; done))
      have hP : va_P g.1 vwCl (wM g a (Mleave j row con b m9)) H := by rw [e3]; exact hP
      have hD : va_D A (wM g a (Mleave j row con b m9)) := by rw [e3]; exact hD
      exact k_iret hx hb hr hlocks rfl (by first | (simp only [Mleave, MleaveR, bI, if_pos c1, if_neg (not_not_intro c1), if_neg c2, if_pos c2, hpl]; done) | (simp only [Mleave, MleaveR, bI, if_pos c1, if_neg (not_not_intro c1), if_neg c2, if_pos c2, hpl]; rfl) | rfl | (simp [Mleave, MleaveR, bI, if_pos c1, if_neg (not_not_intro c1), if_neg c2, if_pos c2, hpl]; done)) hP hD hS (Nat.le_of_ble_eq_true rfl) (Nat.le_of_ble_eq_true rfl) dX4_leave_55
    ·
      refine lv_aload_n hx hb dX4_leave_35 rfl (lv_at hl 0 rfl) ?_
      refine lv_iconst (v := (nI 2)) hx hb dX4_leave_36 (by decide) ?_
      refine k_Vi (As := [.int (nI 2)]) (r := (nI 0)) hF (c_X4_fails l g a (sMth m9 (nI 0)) (nI 2)) (cwV 1 hts gX4_leave_X4_fails rfl rfl rfl (by decide +kernel) ⟨Nat.le_of_ble_eq_true rfl, Nat.le_of_ble_eq_true rfl⟩) hE hP hD hS hA (k_pall _) ((k_pall _).symm) 0 rfl rfl rfl rfl hl.1 rfl (Nat.le_of_ble_eq_true rfl) dX4_leave_37 ⟨Nat.le_of_ble_eq_true rfl, Nat.le_of_ble_eq_true rfl⟩ (fun H locs hP hD hS => ?_)
      have hP : va_P g.1 vwCl (wM g a (sMth m9 (nI 2))) _ := hP
      have hD : va_D A (wM g a (sMth m9 (nI 2))) := hD
      have e4 : (Mleave j row con b m9) = (sMth m9 (nI 2)) := (by first | (simp only [Mleave, MleaveR, if_pos c1, if_neg (not_not_intro c1), if_pos c2, if_neg (not_not_intro c2), hpl]; done) | (simp only [Mleave, MleaveR, if_pos c1, if_neg (not_not_intro c1), if_pos c2, if_neg (not_not_intro c2), hpl]; rfl) | rfl | (simp [Mleave, MleaveR, if_pos c1, if_neg (not_not_intro c1), if_pos c2, if_neg (not_not_intro c2), hpl]; done))
      have hP : va_P g.1 vwCl (wM g a (Mleave j row con b m9)) H := by rw [e4]; exact hP
      have hD : va_D A (wM g a (Mleave j row con b m9)) := by rw [e4]; exact hD
      exact k_iret hx hb hr hlocks rfl (by first | (simp only [Mleave, MleaveR, bI, if_pos c1, if_neg (not_not_intro c1), if_pos c2, if_neg (not_not_intro c2), hpl]; done) | (simp only [Mleave, MleaveR, bI, if_pos c1, if_neg (not_not_intro c1), if_pos c2, if_neg (not_not_intro c2), hpl]; rfl) | rfl | (simp [Mleave, MleaveR, bI, if_pos c1, if_neg (not_not_intro c1), if_pos c2, if_neg (not_not_intro c2), hpl]; done)) hP hD hS (Nat.le_of_ble_eq_true rfl) (Nat.le_of_ble_eq_true rfl) dX4_leave_40
  ·
    refine lv_aload_n hx hb dX4_leave_13 rfl (lv_at hl 0 rfl) ?_
    refine lv_iconst (v := (nI 1)) hx hb dX4_leave_14 (by decide) ?_
    refine k_Vi (As := [.int (nI 1)]) (r := (nI 0)) hF (c_X4_fails l g a (sMth m9 (nI 0)) (nI 1)) (cwV 1 hts gX4_leave_X4_fails rfl rfl rfl (by decide +kernel) ⟨Nat.le_of_ble_eq_true rfl, Nat.le_of_ble_eq_true rfl⟩) hE hP hD hS hA (k_pall _) ((k_pall _).symm) 0 rfl rfl rfl rfl hl.1 rfl (Nat.le_of_ble_eq_true rfl) dX4_leave_15 ⟨Nat.le_of_ble_eq_true rfl, Nat.le_of_ble_eq_true rfl⟩ (fun H locs hP hD hS => ?_)
    have hP : va_P g.1 vwCl (wM g a (sMth m9 (nI 1))) _ := hP
    have hD : va_D A (wM g a (sMth m9 (nI 1))) := hD
    have e5 : (Mleave j row con b m9) = (sMth m9 (nI 1)) := (by first | (simp only [Mleave, MleaveR, if_neg c1, if_pos c1]; done) | (simp only [Mleave, MleaveR, if_neg c1, if_pos c1]; rfl) | rfl | (simp [Mleave, MleaveR, if_neg c1, if_pos c1]; done))
    have hP : va_P g.1 vwCl (wM g a (Mleave j row con b m9)) H := by rw [e5]; exact hP
    have hD : va_D A (wM g a (Mleave j row con b m9)) := by rw [e5]; exact hD
    exact k_iret hx hb hr hlocks rfl (by first | (simp only [Mleave, MleaveR, bI, if_neg c1, if_pos c1]; done) | (simp only [Mleave, MleaveR, bI, if_neg c1, if_pos c1]; rfl) | rfl | (simp [Mleave, MleaveR, bI, if_neg c1, if_pos c1]; done)) hP hD hS (Nat.le_of_ble_eq_true rfl) (Nat.le_of_ble_eq_true rfl) dX4_leave_18
set_option maxHeartbeats 4000000 in
set_option maxRecDepth 100000 in
theorem c_X4_listeners (l : Launch) (g : kG) (a : Nat → Nat) (m9 : MSt) (j : Nat) (hj : j ≤ 6) (hjm : msm m9 = nI j) (row con : Int32) : KI l yX4_listeners wsX4_listeners ({ frames := 2, cells := 0, slots := 0, locals := 43 }) g [.ref (a 0), .int row, .int con] (wM g a m9) (MlisR row con m9) (wM g a (Mpair row con m9)) 0 0 := by
  refine k_begin (cc := cX4_listeners) (maxL := 3) (ret := (some .int)) (Qc := fun A => kQi g (MlisR row con m9) (wM g a (Mpair row con m9)) A) (by decide) rfl (Nat.le_of_ble_eq_true rfl) ?_
  intro p e s m below meth c A ls hF hr hlocks hin hE hP hD hS hA hl
  obtain ⟨hx, hb, hml, hown, hts⟩ := id hF
  have hown : s.vm.findClass RX4 = some m.cls := hown
  have hl : lv_has ls 3 [(0, .ref (a 0)), (1, .int row), (2, .int con)] := hl
  have hiX4 : ∀ w ∈ wsX40, w ∈ wsX4_listeners := fun _ h => List.mem_cons_of_mem _ (List.mem_append_right _ (h))
  have f25 : (Cond.fieldLink RX4 25 "ConcertUsherModel" "thrown" "I").before _ s = true := hts _ (List.mem_of_getElem? (i := 1) rfl)
  have f7 : (Cond.fieldLink RX4 7 "ConcertUsherModel" "s" "[I").before _ s = true := hts _ (List.mem_of_getElem? (i := 2) rfl)
  refine lv_aload_n hx hb dX4_listeners_0 rfl (lv_at hl 0 rfl) ?_
  refine lv_iconst (v := (nI 0)) hx hb dX4_listeners_1 (by decide) ?_
  refine va_put (D := g.1) (ci := 4) (v := .int (nI 0)) (ty := .int) (C := RX4) (T := TX4) (N := 12) hx hb hts hiX4 tyX4 tyX4_ok nmX4 hown hE.1 hP hD hS 0 rfl rfl 0 (by decide) f25 (fun _ h9 => h9) rfl (tyX4_ok 0 (by decide)) rfl rfl (Nat.le_of_ble_eq_true rfl) dX4_listeners_2 (fun H locs hP hD hS => ?_)
  have hP : va_P g.1 vwCl (wM g a (sMth m9 (nI 0))) _ := hP
  have hD : va_D A (wM g a (sMth m9 (nI 0))) := hD
  refine lv_iload_n hx hb dX4_listeners_5 rfl (lv_at hl 1 rfl) ?_
  refine lv_iload_n hx hb dX4_listeners_6 rfl (lv_at hl 2 rfl) ?_
  refine k_Si (w0 := []) (w1 := []) (As := [.int row, .int con]) (r := (bI (pairOK row con))) hF (c_X4_isPair l g row con) (va_cwS 2 hts gX4_listeners_X4_isPair rfl rfl rfl (by decide +kernel) ⟨Nat.le_of_ble_eq_true rfl, Nat.le_of_ble_eq_true rfl⟩) hE hP hD hS hA (List.Perm.refl _) (List.Perm.refl _) rfl hl.1 rfl (Nat.le_of_ble_eq_true rfl) dX4_listeners_7 ⟨Nat.le_of_ble_eq_true rfl, Nat.le_of_ble_eq_true rfl⟩ (fun H locs hP hD hS => ?_)
  have hP : va_P g.1 vwCl (wM g a (sMth m9 (nI 0))) _ := hP
  have hD : va_D A (wM g a (sMth m9 (nI 0))) := hD
  refine k_ifeqB (tgt := 29) hx hb dX4_listeners_10 (by decide) (fun c1 => ?_) (fun c1 => ?_)
  ·
    refine lv_aload_n hx hb dX4_listeners_29 rfl (lv_at hl 0 rfl) ?_
    refine lv_iconst (v := (nI 1)) hx hb dX4_listeners_30 (by decide) ?_
    refine k_Vi (As := [.int (nI 1)]) (r := (nI 0)) hF (c_X4_fails l g a (sMth m9 (nI 0)) (nI 1)) (cwV 1 hts gX4_listeners_X4_fails rfl rfl rfl (by decide +kernel) ⟨Nat.le_of_ble_eq_true rfl, Nat.le_of_ble_eq_true rfl⟩) hE hP hD hS hA (k_pall _) ((k_pall _).symm) 0 rfl rfl rfl rfl hl.1 rfl (Nat.le_of_ble_eq_true rfl) dX4_listeners_31 ⟨Nat.le_of_ble_eq_true rfl, Nat.le_of_ble_eq_true rfl⟩ (fun H locs hP hD hS => ?_)
    have hP : va_P g.1 vwCl (wM g a (sMth m9 (nI 1))) _ := hP
    have hD : va_D A (wM g a (sMth m9 (nI 1))) := hD
    have e2 : (Mpair row con m9) = (sMth m9 (nI 1)) := (by first | (simp only [Mpair, MlisR, if_neg c1, if_pos c1]; done) | (simp only [Mpair, MlisR, if_neg c1, if_pos c1]; rfl) | rfl | (simp [Mpair, MlisR, if_neg c1, if_pos c1]; done))
    have hP : va_P g.1 vwCl (wM g a (Mpair row con m9)) H := by rw [e2]; exact hP
    have hD : va_D A (wM g a (Mpair row con m9)) := by rw [e2]; exact hD
    exact k_iret hx hb hr hlocks rfl (by first | (simp only [Mpair, MlisR, bI, if_neg c1, if_pos c1]; done) | (simp only [Mpair, MlisR, bI, if_neg c1, if_pos c1]; rfl) | rfl | (simp [Mpair, MlisR, bI, if_neg c1, if_pos c1]; done)) hP hD hS (Nat.le_of_ble_eq_true rfl) (Nat.le_of_ble_eq_true rfl) dX4_listeners_34
  ·
    obtain ⟨r9, hr9, hre⟩ := in_nat (by decide) (by decide) c1.1
    obtain ⟨c9, hc9, hce⟩ := in_nat (by decide) (by decide) c1.2
    have hpl : plM row con = 6 * r9 + c9 := plM_eq hr9.2 hc9.2 hre hce
    refine lv_aload_n hx hb dX4_listeners_13 rfl (lv_at hl 0 rfl) ?_
    refine va_get (D := g.1) (ci := 4) (v := .ref (a 1)) (C := RX4) (T := TX4) (N := 12) hx hb hts hiX4 hown hE.1 hP 0 rfl rfl 1 (by decide) f7 (fun _ h9 => h9) rfl dX4_listeners_14 ?_
    refine lv_bipush (v := (nI 21)) hx hb dX4_listeners_17 (by decide) ?_
    refine lv_iload_n hx hb dX4_listeners_19 rfl (lv_at hl 1 rfl) ?_
    refine k_top hre ?_
    refine lv_iload_n hx hb dX4_listeners_20 rfl (lv_at hl 2 rfl) ?_
    refine k_top hce ?_
    refine k_Si (w0 := []) (w1 := []) (As := [.int (nI r9), .int (nI c9)]) (r := (nI (6 * r9 + c9))) hF (c_X4_cellOf l g r9 c9) (va_cwS 2 hts gX4_listeners_X4_cellOf rfl rfl rfl (by decide +kernel) ⟨Nat.le_of_ble_eq_true rfl, Nat.le_of_ble_eq_true rfl⟩) hE hP hD hS hA (List.Perm.refl _) (List.Perm.refl _) rfl hl.1 rfl (Nat.le_of_ble_eq_true rfl) dX4_listeners_21 ⟨Nat.le_of_ble_eq_true rfl, Nat.le_of_ble_eq_true rfl⟩ (fun H locs hP hD hS => ?_)
    have hP : va_P g.1 vwCl (wM g a (sMth m9 (nI 0))) _ := hP
    have hD : va_D A (wM g a (sMth m9 (nI 0))) := hD
    refine lv_iadd hx hb dX4_listeners_24 ?_
    refine k_top (nI_add _ _) ?_
    refine k_iald (f := (ms m9)) hx hb hE hP 1 rfl (21 + (6 * r9 + c9)) rfl (by omega) (by decide) dX4_listeners_25 ?_
    refine lv_goto (tgt := 34) hx hb dX4_listeners_26 (by decide) ?_
    have e3 : (Mpair row con m9) = (sMth m9 (nI 0)) := (by first | (simp only [Mpair, MlisR, if_pos c1, if_neg (not_not_intro c1), hpl]; done) | (simp only [Mpair, MlisR, if_pos c1, if_neg (not_not_intro c1), hpl]; rfl) | rfl | (simp [Mpair, MlisR, if_pos c1, if_neg (not_not_intro c1), hpl]; done))
    have hP : va_P g.1 vwCl (wM g a (Mpair row con m9)) H := by rw [e3]; exact hP
    have hD : va_D A (wM g a (Mpair row con m9)) := by rw [e3]; exact hD
    exact k_iret hx hb hr hlocks rfl (by first | (simp only [Mpair, MlisR, bI, if_pos c1, if_neg (not_not_intro c1), hpl]; done) | (simp only [Mpair, MlisR, bI, if_pos c1, if_neg (not_not_intro c1), hpl]; rfl) | rfl | (simp [Mpair, MlisR, bI, if_pos c1, if_neg (not_not_intro c1), hpl]; done)) hP hD hS (Nat.le_of_ble_eq_true rfl) (Nat.le_of_ble_eq_true rfl) dX4_listeners_34
set_option maxHeartbeats 4000000 in
set_option maxRecDepth 100000 in
theorem c_X4_rest (l : Launch) (g : kG) (a : Nat → Nat) (m9 : MSt) (j : Nat) (hj : j ≤ 6) (hjm : msm m9 = nI j) (row con : Int32) : KI l yX4_rest wsX4_rest ({ frames := 2, cells := 0, slots := 0, locals := 43 }) g [.ref (a 0), .int row, .int con] (wM g a m9) (MrestR row con m9) (wM g a (Mpair row con m9)) 0 0 := by
  refine k_begin (cc := cX4_rest) (maxL := 3) (ret := (some .int)) (Qc := fun A => kQi g (MrestR row con m9) (wM g a (Mpair row con m9)) A) (by decide) rfl (Nat.le_of_ble_eq_true rfl) ?_
  intro p e s m below meth c A ls hF hr hlocks hin hE hP hD hS hA hl
  obtain ⟨hx, hb, hml, hown, hts⟩ := id hF
  have hown : s.vm.findClass RX4 = some m.cls := hown
  have hl : lv_has ls 3 [(0, .ref (a 0)), (1, .int row), (2, .int con)] := hl
  have hiX4 : ∀ w ∈ wsX40, w ∈ wsX4_rest := fun _ h => List.mem_cons_of_mem _ (List.mem_append_right _ (h))
  have f25 : (Cond.fieldLink RX4 25 "ConcertUsherModel" "thrown" "I").before _ s = true := hts _ (List.mem_of_getElem? (i := 1) rfl)
  have f7 : (Cond.fieldLink RX4 7 "ConcertUsherModel" "s" "[I").before _ s = true := hts _ (List.mem_of_getElem? (i := 2) rfl)
  refine lv_aload_n hx hb dX4_rest_0 rfl (lv_at hl 0 rfl) ?_
  refine lv_iconst (v := (nI 0)) hx hb dX4_rest_1 (by decide) ?_
  refine va_put (D := g.1) (ci := 4) (v := .int (nI 0)) (ty := .int) (C := RX4) (T := TX4) (N := 12) hx hb hts hiX4 tyX4 tyX4_ok nmX4 hown hE.1 hP hD hS 0 rfl rfl 0 (by decide) f25 (fun _ h9 => h9) rfl (tyX4_ok 0 (by decide)) rfl rfl (Nat.le_of_ble_eq_true rfl) dX4_rest_2 (fun H locs hP hD hS => ?_)
  have hP : va_P g.1 vwCl (wM g a (sMth m9 (nI 0))) _ := hP
  have hD : va_D A (wM g a (sMth m9 (nI 0))) := hD
  refine lv_iload_n hx hb dX4_rest_5 rfl (lv_at hl 1 rfl) ?_
  refine lv_iload_n hx hb dX4_rest_6 rfl (lv_at hl 2 rfl) ?_
  refine k_Si (w0 := []) (w1 := []) (As := [.int row, .int con]) (r := (bI (pairOK row con))) hF (c_X4_isPair l g row con) (va_cwS 2 hts gX4_rest_X4_isPair rfl rfl rfl (by decide +kernel) ⟨Nat.le_of_ble_eq_true rfl, Nat.le_of_ble_eq_true rfl⟩) hE hP hD hS hA (List.Perm.refl _) (List.Perm.refl _) rfl hl.1 rfl (Nat.le_of_ble_eq_true rfl) dX4_rest_7 ⟨Nat.le_of_ble_eq_true rfl, Nat.le_of_ble_eq_true rfl⟩ (fun H locs hP hD hS => ?_)
  have hP : va_P g.1 vwCl (wM g a (sMth m9 (nI 0))) _ := hP
  have hD : va_D A (wM g a (sMth m9 (nI 0))) := hD
  refine k_ifeqB (tgt := 29) hx hb dX4_rest_10 (by decide) (fun c1 => ?_) (fun c1 => ?_)
  ·
    refine lv_aload_n hx hb dX4_rest_29 rfl (lv_at hl 0 rfl) ?_
    refine lv_iconst (v := (nI 1)) hx hb dX4_rest_30 (by decide) ?_
    refine k_Vi (As := [.int (nI 1)]) (r := (nI 0)) hF (c_X4_fails l g a (sMth m9 (nI 0)) (nI 1)) (cwV 1 hts gX4_rest_X4_fails rfl rfl rfl (by decide +kernel) ⟨Nat.le_of_ble_eq_true rfl, Nat.le_of_ble_eq_true rfl⟩) hE hP hD hS hA (k_pall _) ((k_pall _).symm) 0 rfl rfl rfl rfl hl.1 rfl (Nat.le_of_ble_eq_true rfl) dX4_rest_31 ⟨Nat.le_of_ble_eq_true rfl, Nat.le_of_ble_eq_true rfl⟩ (fun H locs hP hD hS => ?_)
    have hP : va_P g.1 vwCl (wM g a (sMth m9 (nI 1))) _ := hP
    have hD : va_D A (wM g a (sMth m9 (nI 1))) := hD
    have e2 : (Mpair row con m9) = (sMth m9 (nI 1)) := (by first | (simp only [Mpair, MrestR, if_neg c1, if_pos c1]; done) | (simp only [Mpair, MrestR, if_neg c1, if_pos c1]; rfl) | rfl | (simp [Mpair, MrestR, if_neg c1, if_pos c1]; done))
    have hP : va_P g.1 vwCl (wM g a (Mpair row con m9)) H := by rw [e2]; exact hP
    have hD : va_D A (wM g a (Mpair row con m9)) := by rw [e2]; exact hD
    exact k_iret hx hb hr hlocks rfl (by first | (simp only [Mpair, MrestR, bI, if_neg c1, if_pos c1]; done) | (simp only [Mpair, MrestR, bI, if_neg c1, if_pos c1]; rfl) | rfl | (simp [Mpair, MrestR, bI, if_neg c1, if_pos c1]; done)) hP hD hS (Nat.le_of_ble_eq_true rfl) (Nat.le_of_ble_eq_true rfl) dX4_rest_34
  ·
    obtain ⟨r9, hr9, hre⟩ := in_nat (by decide) (by decide) c1.1
    obtain ⟨c9, hc9, hce⟩ := in_nat (by decide) (by decide) c1.2
    have hpl : plM row con = 6 * r9 + c9 := plM_eq hr9.2 hc9.2 hre hce
    refine lv_aload_n hx hb dX4_rest_13 rfl (lv_at hl 0 rfl) ?_
    refine va_get (D := g.1) (ci := 4) (v := .ref (a 1)) (C := RX4) (T := TX4) (N := 12) hx hb hts hiX4 hown hE.1 hP 0 rfl rfl 1 (by decide) f7 (fun _ h9 => h9) rfl dX4_rest_14 ?_
    refine lv_bipush (v := (nI 69)) hx hb dX4_rest_17 (by decide) ?_
    refine lv_iload_n hx hb dX4_rest_19 rfl (lv_at hl 1 rfl) ?_
    refine k_top hre ?_
    refine lv_iload_n hx hb dX4_rest_20 rfl (lv_at hl 2 rfl) ?_
    refine k_top hce ?_
    refine k_Si (w0 := []) (w1 := []) (As := [.int (nI r9), .int (nI c9)]) (r := (nI (6 * r9 + c9))) hF (c_X4_cellOf l g r9 c9) (va_cwS 2 hts gX4_rest_X4_cellOf rfl rfl rfl (by decide +kernel) ⟨Nat.le_of_ble_eq_true rfl, Nat.le_of_ble_eq_true rfl⟩) hE hP hD hS hA (List.Perm.refl _) (List.Perm.refl _) rfl hl.1 rfl (Nat.le_of_ble_eq_true rfl) dX4_rest_21 ⟨Nat.le_of_ble_eq_true rfl, Nat.le_of_ble_eq_true rfl⟩ (fun H locs hP hD hS => ?_)
    have hP : va_P g.1 vwCl (wM g a (sMth m9 (nI 0))) _ := hP
    have hD : va_D A (wM g a (sMth m9 (nI 0))) := hD
    refine lv_iadd hx hb dX4_rest_24 ?_
    refine k_top (nI_add _ _) ?_
    refine k_iald (f := (ms m9)) hx hb hE hP 1 rfl (69 + (6 * r9 + c9)) rfl (by omega) (by decide) dX4_rest_25 ?_
    refine lv_goto (tgt := 34) hx hb dX4_rest_26 (by decide) ?_
    have e3 : (Mpair row con m9) = (sMth m9 (nI 0)) := (by first | (simp only [Mpair, MrestR, if_pos c1, if_neg (not_not_intro c1), hpl]; done) | (simp only [Mpair, MrestR, if_pos c1, if_neg (not_not_intro c1), hpl]; rfl) | rfl | (simp [Mpair, MrestR, if_pos c1, if_neg (not_not_intro c1), hpl]; done))
    have hP : va_P g.1 vwCl (wM g a (Mpair row con m9)) H := by rw [e3]; exact hP
    have hD : va_D A (wM g a (Mpair row con m9)) := by rw [e3]; exact hD
    exact k_iret hx hb hr hlocks rfl (by first | (simp only [Mpair, MrestR, bI, if_pos c1, if_neg (not_not_intro c1), hpl]; done) | (simp only [Mpair, MrestR, bI, if_pos c1, if_neg (not_not_intro c1), hpl]; rfl) | rfl | (simp [Mpair, MrestR, bI, if_pos c1, if_neg (not_not_intro c1), hpl]; done)) hP hD hS (Nat.le_of_ble_eq_true rfl) (Nat.le_of_ble_eq_true rfl) dX4_rest_34
set_option maxHeartbeats 4000000 in
set_option maxRecDepth 100000 in
theorem c_X4_setOpen (l : Launch) (g : kG) (a : Nat → Nat) (m9 : MSt) (j : Nat) (hj : j ≤ 6) (hjm : msm m9 = nI j) (row : Int32) (b : Nat) (hb2 : b < 2) : KI l yX4_setOpen wsX4_setOpen ({ frames := 1, cells := 0, slots := 0, locals := 22 }) g [.ref (a 0), .int row, .int (nI b)] (wM g a m9) (MopenR row m9) (wM g a (MopenS j row b m9)) 0 0 := by
  refine k_begin (cc := cX4_setOpen) (maxL := 4) (ret := (some .boolean)) (Qc := fun A => kQi g (MopenR row m9) (wM g a (MopenS j row b m9)) A) (by decide) rfl (Nat.le_of_ble_eq_true rfl) ?_
  intro p e s m below meth c A ls hF hr hlocks hin hE hP hD hS hA hl
  obtain ⟨hx, hb, hml, hown, hts⟩ := id hF
  have hown : s.vm.findClass RX4 = some m.cls := hown
  have hl : lv_has ls 4 [(0, .ref (a 0)), (1, .int row), (2, .int (nI b))] := hl
  have hiX4 : ∀ w ∈ wsX40, w ∈ wsX4_setOpen := fun _ h => List.mem_cons_of_mem _ (List.mem_append_right _ (h))
  have f25 : (Cond.fieldLink RX4 25 "ConcertUsherModel" "thrown" "I").before _ s = true := hts _ (List.mem_of_getElem? (i := 1) rfl)
  have f7 : (Cond.fieldLink RX4 7 "ConcertUsherModel" "s" "[I").before _ s = true := hts _ (List.mem_of_getElem? (i := 2) rfl)
  refine lv_aload_n hx hb dX4_setOpen_0 rfl (lv_at hl 0 rfl) ?_
  refine lv_iconst (v := (nI 0)) hx hb dX4_setOpen_1 (by decide) ?_
  refine va_put (D := g.1) (ci := 4) (v := .int (nI 0)) (ty := .int) (C := RX4) (T := TX4) (N := 12) hx hb hts hiX4 tyX4 tyX4_ok nmX4 hown hE.1 hP hD hS 0 rfl rfl 0 (by decide) f25 (fun _ h9 => h9) rfl (tyX4_ok 0 (by decide)) rfl rfl (Nat.le_of_ble_eq_true rfl) dX4_setOpen_2 (fun H locs hP hD hS => ?_)
  have hP : va_P g.1 vwCl (wM g a (sMth m9 (nI 0))) _ := hP
  have hD : va_D A (wM g a (sMth m9 (nI 0))) := hD
  refine lv_iload_n hx hb dX4_setOpen_5 rfl (lv_at hl 1 rfl) ?_
  refine lv_iconst (v := (nI 0)) hx hb dX4_setOpen_6 (by decide) ?_
  refine lv_bipush (v := (nI 7)) hx hb dX4_setOpen_7 (by decide) ?_
  refine k_Si (w0 := []) (w1 := []) (As := [.int row, .int (nI 0), .int (nI 7)]) (r := (bI ((nI 0) ≤ row ∧ row ≤ (nI 7)))) hF (c_X4_in l g row (nI 0) (nI 7)) (va_cwS 3 hts gX4_setOpen_X4_in rfl rfl rfl (by decide +kernel) ⟨Nat.le_of_ble_eq_true rfl, Nat.le_of_ble_eq_true rfl⟩) hE hP hD hS hA (List.Perm.refl _) (List.Perm.refl _) rfl hl.1 rfl (Nat.le_of_ble_eq_true rfl) dX4_setOpen_9 ⟨Nat.le_of_ble_eq_true rfl, Nat.le_of_ble_eq_true rfl⟩ (fun H locs hP hD hS => ?_)
  have hP : va_P g.1 vwCl (wM g a (sMth m9 (nI 0))) _ := hP
  have hD : va_D A (wM g a (sMth m9 (nI 0))) := hD
  refine k_ifneB (tgt := 29) hx hb dX4_setOpen_12 (by decide) (fun c1 => ?_) (fun c1 => ?_)
  ·
    obtain ⟨r9, hr9, hr9e⟩ := in_nat (by decide) (by decide) c1
    have hr9c : row.toNatClampNeg = r9 := cl_eq hr9e (by omega)
    refine lv_aload_n hx hb dX4_setOpen_29 rfl (lv_at hl 0 rfl) ?_
    refine k_Vv (As := []) hF (c_X4_saves l g a (sMth m9 (nI 0)) j (by omega) hjm) (cwV 0 hts gX4_setOpen_X4_saves rfl rfl rfl (by decide +kernel) ⟨Nat.le_of_ble_eq_true rfl, Nat.le_of_ble_eq_true rfl⟩) hE hP hD hS hA (k_pall _) ((k_pall _).symm) 0 rfl rfl rfl rfl hl.1 rfl (Nat.le_of_ble_eq_true rfl) dX4_setOpen_30 ⟨Nat.le_of_ble_eq_true rfl, Nat.le_of_ble_eq_true rfl⟩ (fun H locs hP hD hS => ?_)
    have hP : va_P g.1 vwCl (wM g a (sMsm (sMsv (sMth m9 (nI 0)) (Msv (ms m9) (msv m9) j)) (nI (kSz j)))) _ := hP
    have hD : va_D A (wM g a (sMsm (sMsv (sMth m9 (nI 0)) (Msv (ms m9) (msv m9) j)) (nI (kSz j)))) := hD
    refine lv_aload_n hx hb dX4_setOpen_33 rfl (lv_at hl 0 rfl) ?_
    refine va_get (D := g.1) (ci := 4) (v := .ref (a 1)) (C := RX4) (T := TX4) (N := 12) hx hb hts hiX4 hown hE.1 hP 0 rfl rfl 1 (by decide) f7 (fun _ h9 => h9) rfl dX4_setOpen_34 ?_
    refine lv_bipush (v := (nI 13)) hx hb dX4_setOpen_37 (by decide) ?_
    refine lv_iload_n hx hb dX4_setOpen_39 rfl (lv_at hl 1 rfl) ?_
    refine k_top hr9e ?_
    refine lv_iadd hx hb dX4_setOpen_40 ?_
    refine k_top (nI_add _ _) ?_
    refine k_iald (f := (ms m9)) hx hb hE hP 1 rfl (13 + r9) rfl (by omega) (by decide) dX4_setOpen_41 ?_
    refine lv_iconst (v := (nI 1)) hx hb dX4_setOpen_42 (by decide) ?_
    refine k_meet (x := .int (bI (((ms m9) (13 + r9)) = nI 1))) (pj := 51) (rest := []) (fun J2 => ?_) ?_
    ·
      refine lv_icmp_ne (tgt := 50) hx hb dX4_setOpen_43 (by decide) (fun c3 => ?_) (fun c3 => ?_)
      ·
        refine lv_iconst (v := (nI 0)) hx hb dX4_setOpen_50 (by decide) ?_
        exact k_top (by first | (simp only [MopenS, MopenR, bI, if_pos c1, if_neg (not_not_intro c1), if_neg c3, if_pos c3, hr9c]; done) | (simp only [MopenS, MopenR, bI, if_pos c1, if_neg (not_not_intro c1), if_neg c3, if_pos c3, hr9c]; rfl) | rfl | (simp [MopenS, MopenR, bI, if_pos c1, if_neg (not_not_intro c1), if_neg c3, if_pos c3, hr9c]; done)) J2
      ·
        refine lv_iconst (v := (nI 1)) hx hb dX4_setOpen_46 (by decide) ?_
        refine lv_goto (tgt := 51) hx hb dX4_setOpen_47 (by decide) ?_
        exact k_top (by first | (simp only [MopenS, MopenR, bI, if_pos c1, if_neg (not_not_intro c1), if_pos c3, if_neg (not_not_intro c3), hr9c]; done) | (simp only [MopenS, MopenR, bI, if_pos c1, if_neg (not_not_intro c1), if_pos c3, if_neg (not_not_intro c3), hr9c]; rfl) | rfl | (simp [MopenS, MopenR, bI, if_pos c1, if_neg (not_not_intro c1), if_pos c3, if_neg (not_not_intro c3), hr9c]; done)) J2
    ·
      refine lv_istore_n (lv' := [(3, .int (bI (((ms m9) (13 + r9)) = nI 1))), (0, .ref (a 0)), (1, .int row), (2, .int (nI b))]) hx hb dX4_setOpen_51 rfl hl (by decide) rfl (fun ls hl => ?_)
      refine lv_aload_n hx hb dX4_setOpen_52 rfl (lv_at hl 1 rfl) ?_
      refine va_get (D := g.1) (ci := 4) (v := .ref (a 1)) (C := RX4) (T := TX4) (N := 12) hx hb hts hiX4 hown hE.1 hP 0 rfl rfl 1 (by decide) f7 (fun _ h9 => h9) rfl dX4_setOpen_53 ?_
      refine lv_bipush (v := (nI 13)) hx hb dX4_setOpen_56 (by decide) ?_
      refine lv_iload_n hx hb dX4_setOpen_58 rfl (lv_at hl 2 rfl) ?_
      refine k_top hr9e ?_
      refine lv_iadd hx hb dX4_setOpen_59 ?_
      refine k_top (nI_add _ _) ?_
      refine lv_iload_n hx hb dX4_setOpen_60 rfl (lv_at hl 3 rfl) ?_
      refine k_meet (x := .int (nI b)) (pj := 69) (rest := [.int (nI (13 + r9)), .ref (a 1)]) (fun J4 => ?_) ?_
      ·
        refine k_if0 (tgt := 68) hx hb (by omega) dX4_setOpen_61 (by decide) (fun c5 => ?_) (fun c5 => ?_)
        ·
          refine lv_iconst (v := (nI 0)) hx hb dX4_setOpen_68 (by decide) ?_
          exact k_top (by first | rfl | exact congrArg nI (by omega) | exact (by first | (simp only [MopenS, MopenR, bI, if_pos c1, if_neg (not_not_intro c1), if_pos c5, if_neg (not_not_intro c5), hr9c]; done) | (simp only [MopenS, MopenR, bI, if_pos c1, if_neg (not_not_intro c1), if_pos c5, if_neg (not_not_intro c5), hr9c]; rfl) | rfl | (simp [MopenS, MopenR, bI, if_pos c1, if_neg (not_not_intro c1), if_pos c5, if_neg (not_not_intro c5), hr9c]; done))) J4
        ·
          refine lv_iconst (v := (nI 1)) hx hb dX4_setOpen_64 (by decide) ?_
          refine lv_goto (tgt := 69) hx hb dX4_setOpen_65 (by decide) ?_
          exact k_top (by first | rfl | exact congrArg nI (by omega) | exact (by first | (simp only [MopenS, MopenR, bI, if_pos c1, if_neg (not_not_intro c1), if_neg c5, if_pos c5, hr9c]; done) | (simp only [MopenS, MopenR, bI, if_pos c1, if_neg (not_not_intro c1), if_neg c5, if_pos c5, hr9c]; rfl) | rfl | (simp [MopenS, MopenR, bI, if_pos c1, if_neg (not_not_intro c1), if_neg c5, if_pos c5, hr9c]; done))) J4
      ·
        refine k_iast (f := (ms m9)) (ws1 := (wM g a (sMs (sMsm (sMsv (sMth m9 (nI 0)) (Msv (ms m9) (msv m9) j)) (nI (kSz j))) (upd (ms m9) (13 + r9) (nI b))))) hx hb hE hP hD hS 1 rfl (13 + r9) rfl (by omega) (by decide) rfl dX4_setOpen_69 (fun H locs hP hD hS => ?_)
        refine lv_iload_n hx hb dX4_setOpen_70 rfl (lv_at hl 0 rfl) ?_
        have e6 : (MopenS j row b m9) = (sMs (sMsm (sMsv (sMth m9 (nI 0)) (Msv (ms m9) (msv m9) j)) (nI (kSz j))) (upd (ms m9) (13 + r9) (nI b))) := (by first | (simp only [MopenS, MopenR, if_pos c1, if_neg (not_not_intro c1), hr9c]; done) | (simp only [MopenS, MopenR, if_pos c1, if_neg (not_not_intro c1), hr9c]; rfl) | rfl | (simp [MopenS, MopenR, if_pos c1, if_neg (not_not_intro c1), hr9c]; done))
        have hP : va_P g.1 vwCl (wM g a (MopenS j row b m9)) H := by rw [e6]; exact hP
        have hD : va_D A (wM g a (MopenS j row b m9)) := by rw [e6]; exact hD
        exact k_iret hx hb hr hlocks bI_nar (by first | (simp only [MopenS, MopenR, bI, if_pos c1, if_neg (not_not_intro c1), hr9c]; done) | (simp only [MopenS, MopenR, bI, if_pos c1, if_neg (not_not_intro c1), hr9c]; rfl) | rfl | (simp [MopenS, MopenR, bI, if_pos c1, if_neg (not_not_intro c1), hr9c]; done)) hP hD hS (Nat.le_of_ble_eq_true rfl) (Nat.le_of_ble_eq_true rfl) dX4_setOpen_71
  ·
    refine lv_aload_n hx hb dX4_setOpen_15 rfl (lv_at hl 0 rfl) ?_
    refine lv_iconst (v := (nI 1)) hx hb dX4_setOpen_16 (by decide) ?_
    refine k_Vi (As := [.int (nI 1)]) (r := (nI 0)) hF (c_X4_fails l g a (sMth m9 (nI 0)) (nI 1)) (cwV 1 hts gX4_setOpen_X4_fails rfl rfl rfl (by decide +kernel) ⟨Nat.le_of_ble_eq_true rfl, Nat.le_of_ble_eq_true rfl⟩) hE hP hD hS hA (k_pall _) ((k_pall _).symm) 0 rfl rfl rfl rfl hl.1 rfl (Nat.le_of_ble_eq_true rfl) dX4_setOpen_17 ⟨Nat.le_of_ble_eq_true rfl, Nat.le_of_ble_eq_true rfl⟩ (fun H locs hP hD hS => ?_)
    have hP : va_P g.1 vwCl (wM g a (sMth m9 (nI 1))) _ := hP
    have hD : va_D A (wM g a (sMth m9 (nI 1))) := hD
    refine lv_if_le (tgt := 27) hx hb dX4_setOpen_20 (by decide) (fun c7 => ?_) (fun c7 => ?_)
    ·
      refine lv_iconst (v := (nI 0)) hx hb dX4_setOpen_27 (by decide) ?_
      have e8 : (MopenS j row b m9) = (sMth m9 (nI 1)) := (by first | (simp only [MopenS, MopenR, if_neg c1, if_pos c1, if_pos c7, if_neg (not_not_intro c7)]; done) | (simp only [MopenS, MopenR, if_neg c1, if_pos c1, if_pos c7, if_neg (not_not_intro c7)]; rfl) | rfl | (simp [MopenS, MopenR, if_neg c1, if_pos c1, if_pos c7, if_neg (not_not_intro c7)]; done))
      have hP : va_P g.1 vwCl (wM g a (MopenS j row b m9)) H := by rw [e8]; exact hP
      have hD : va_D A (wM g a (MopenS j row b m9)) := by rw [e8]; exact hD
      exact k_iret hx hb hr hlocks rfl (by first | (simp only [MopenS, MopenR, bI, if_neg c1, if_pos c1, if_pos c7, if_neg (not_not_intro c7)]; done) | (simp only [MopenS, MopenR, bI, if_neg c1, if_pos c1, if_pos c7, if_neg (not_not_intro c7)]; rfl) | rfl | (simp [MopenS, MopenR, bI, if_neg c1, if_pos c1, if_pos c7, if_neg (not_not_intro c7)]; done)) hP hD hS (Nat.le_of_ble_eq_true rfl) (Nat.le_of_ble_eq_true rfl) dX4_setOpen_28
    ·
      exact absurd (by decide) c7
set_option maxHeartbeats 4000000 in
set_option maxRecDepth 100000 in
theorem c_X4_chiefNow (l : Launch) (g : kG) (a : Nat → Nat) (m9 : MSt) : KI l yX4_chiefNow wsX4_chiefNow ({ frames := 0, cells := 0, slots := 0, locals := 0 }) g [.ref (a 0)] (wM g a m9) (Mchief (ms m9)) (wM g a m9) 0 0 := by
  refine k_begin (cc := cX4_chiefNow) (maxL := 1) (ret := (some .int)) (Qc := fun A => kQi g (Mchief (ms m9)) (wM g a m9) A) (by decide) rfl (Nat.le_of_ble_eq_true rfl) ?_
  intro p e s m below meth c A ls hF hr hlocks hin hE hP hD hS hA hl
  obtain ⟨hx, hb, hml, hown, hts⟩ := id hF
  have hown : s.vm.findClass RX4 = some m.cls := hown
  have hl : lv_has ls 1 [(0, .ref (a 0))] := hl
  have hiX4 : ∀ w ∈ wsX40, w ∈ wsX4_chiefNow := fun _ h => List.mem_cons_of_mem _ (List.mem_append_right _ (h))
  have f7 : (Cond.fieldLink RX4 7 "ConcertUsherModel" "s" "[I").before _ s = true := hts _ (List.mem_of_getElem? (i := 1) rfl)
  refine lv_aload_n hx hb dX4_chiefNow_0 rfl (lv_at hl 0 rfl) ?_
  refine va_get (D := g.1) (ci := 4) (v := .ref (a 1)) (C := RX4) (T := TX4) (N := 12) hx hb hts hiX4 hown hE.1 hP 0 rfl rfl 1 (by decide) f7 (fun _ h9 => h9) rfl dX4_chiefNow_1 ?_
  refine lv_iconst (v := (nI 4)) hx hb dX4_chiefNow_4 (by decide) ?_
  refine k_iald (f := (ms m9)) hx hb hE hP 1 rfl 4 rfl (by decide) (by decide) dX4_chiefNow_5 ?_
  refine lv_iconst (v := (nI 3)) hx hb dX4_chiefNow_6 (by decide) ?_
  refine lv_icmp_le (tgt := 14) hx hb dX4_chiefNow_7 (by decide) (fun c1 => ?_) (fun c1 => ?_)
  ·
    refine lv_aload_n hx hb dX4_chiefNow_14 rfl (lv_at hl 0 rfl) ?_
    refine va_get (D := g.1) (ci := 4) (v := .ref (a 1)) (C := RX4) (T := TX4) (N := 12) hx hb hts hiX4 hown hE.1 hP 0 rfl rfl 1 (by decide) f7 (fun _ h9 => h9) rfl dX4_chiefNow_15 ?_
    refine lv_iconst (v := (nI 4)) hx hb dX4_chiefNow_18 (by decide) ?_
    refine k_iald (f := (ms m9)) hx hb hE hP 1 rfl 4 rfl (by decide) (by decide) dX4_chiefNow_19 ?_
    refine lv_iconst (v := (nI 1)) hx hb dX4_chiefNow_20 (by decide) ?_
    refine lv_icmp_le (tgt := 28) hx hb dX4_chiefNow_21 (by decide) (fun c2 => ?_) (fun c2 => ?_)
    ·
      refine lv_iconst (v := (nI 0)) hx hb dX4_chiefNow_28 (by decide) ?_
      have hP : va_P g.1 vwCl (wM g a m9) _ := hP
      have hD : va_D A (wM g a m9) := hD
      exact k_iret hx hb hr hlocks rfl (by first | (simp only [Mchief, bI, if_pos c1, if_neg (not_not_intro c1), if_pos c2, if_neg (not_not_intro c2)]; done) | (simp only [Mchief, bI, if_pos c1, if_neg (not_not_intro c1), if_pos c2, if_neg (not_not_intro c2)]; rfl) | rfl | (simp [Mchief, bI, if_pos c1, if_neg (not_not_intro c1), if_pos c2, if_neg (not_not_intro c2)]; done)) hP hD hS (Nat.le_of_ble_eq_true rfl) (Nat.le_of_ble_eq_true rfl) dX4_chiefNow_29
    ·
      refine lv_iconst (v := (nI 1)) hx hb dX4_chiefNow_24 (by decide) ?_
      refine lv_goto (tgt := 29) hx hb dX4_chiefNow_25 (by decide) ?_
      have hP : va_P g.1 vwCl (wM g a m9) _ := hP
      have hD : va_D A (wM g a m9) := hD
      exact k_iret hx hb hr hlocks rfl (by first | (simp only [Mchief, bI, if_pos c1, if_neg (not_not_intro c1), if_neg c2, if_pos c2]; done) | (simp only [Mchief, bI, if_pos c1, if_neg (not_not_intro c1), if_neg c2, if_pos c2]; rfl) | rfl | (simp [Mchief, bI, if_pos c1, if_neg (not_not_intro c1), if_neg c2, if_pos c2]; done)) hP hD hS (Nat.le_of_ble_eq_true rfl) (Nat.le_of_ble_eq_true rfl) dX4_chiefNow_29
  ·
    refine lv_iconst (v := (nI 2)) hx hb dX4_chiefNow_10 (by decide) ?_
    refine lv_goto (tgt := 29) hx hb dX4_chiefNow_11 (by decide) ?_
    have hP : va_P g.1 vwCl (wM g a m9) _ := hP
    have hD : va_D A (wM g a m9) := hD
    exact k_iret hx hb hr hlocks rfl (by first | (simp only [Mchief, bI, if_neg c1, if_pos c1]; done) | (simp only [Mchief, bI, if_neg c1, if_pos c1]; rfl) | rfl | (simp [Mchief, bI, if_neg c1, if_pos c1]; done)) hP hD hS (Nat.le_of_ble_eq_true rfl) (Nat.le_of_ble_eq_true rfl) dX4_chiefNow_29
set_option maxHeartbeats 4000000 in
set_option maxRecDepth 100000 in
theorem c_X4_setQuick (l : Launch) (g : kG) (a : Nat → Nat) (m9 : MSt) (j : Nat) (hj : j ≤ 6) (hjm : msm m9 = nI j) (b : Nat) (hb2 : b < 2) : KI l yX4_setQuick wsX4_setQuick ({ frames := 1, cells := 0, slots := 0, locals := 21 }) g [.ref (a 0), .int (nI b)] (wM g a m9) (bI (ms m9 3 = nI 1)) (wM g a (sMs (Mkeep j (sMth m9 (nI 0))) (upd (ms m9) 3 (nI b)))) 0 0 := by
  refine k_begin (cc := cX4_setQuick) (maxL := 3) (ret := (some .boolean)) (Qc := fun A => kQi g (bI (ms m9 3 = nI 1)) (wM g a (sMs (Mkeep j (sMth m9 (nI 0))) (upd (ms m9) 3 (nI b)))) A) (by decide) rfl (Nat.le_of_ble_eq_true rfl) ?_
  intro p e s m below meth c A ls hF hr hlocks hin hE hP hD hS hA hl
  obtain ⟨hx, hb, hml, hown, hts⟩ := id hF
  have hown : s.vm.findClass RX4 = some m.cls := hown
  have hl : lv_has ls 3 [(0, .ref (a 0)), (1, .int (nI b))] := hl
  have hiX4 : ∀ w ∈ wsX40, w ∈ wsX4_setQuick := fun _ h => List.mem_cons_of_mem _ (List.mem_append_right _ (h))
  have f25 : (Cond.fieldLink RX4 25 "ConcertUsherModel" "thrown" "I").before _ s = true := hts _ (List.mem_of_getElem? (i := 1) rfl)
  have f7 : (Cond.fieldLink RX4 7 "ConcertUsherModel" "s" "[I").before _ s = true := hts _ (List.mem_of_getElem? (i := 2) rfl)
  refine lv_aload_n hx hb dX4_setQuick_0 rfl (lv_at hl 0 rfl) ?_
  refine lv_iconst (v := (nI 0)) hx hb dX4_setQuick_1 (by decide) ?_
  refine va_put (D := g.1) (ci := 4) (v := .int (nI 0)) (ty := .int) (C := RX4) (T := TX4) (N := 12) hx hb hts hiX4 tyX4 tyX4_ok nmX4 hown hE.1 hP hD hS 0 rfl rfl 0 (by decide) f25 (fun _ h9 => h9) rfl (tyX4_ok 0 (by decide)) rfl rfl (Nat.le_of_ble_eq_true rfl) dX4_setQuick_2 (fun H locs hP hD hS => ?_)
  have hP : va_P g.1 vwCl (wM g a (sMth m9 (nI 0))) _ := hP
  have hD : va_D A (wM g a (sMth m9 (nI 0))) := hD
  refine lv_aload_n hx hb dX4_setQuick_5 rfl (lv_at hl 0 rfl) ?_
  refine k_Vv (As := []) hF (c_X4_saves l g a (sMth m9 (nI 0)) j (by omega) hjm) (cwV 0 hts gX4_setQuick_X4_saves rfl rfl rfl (by decide +kernel) ⟨Nat.le_of_ble_eq_true rfl, Nat.le_of_ble_eq_true rfl⟩) hE hP hD hS hA (k_pall _) ((k_pall _).symm) 0 rfl rfl rfl rfl hl.1 rfl (Nat.le_of_ble_eq_true rfl) dX4_setQuick_6 ⟨Nat.le_of_ble_eq_true rfl, Nat.le_of_ble_eq_true rfl⟩ (fun H locs hP hD hS => ?_)
  have hP : va_P g.1 vwCl (wM g a (sMsm (sMsv (sMth m9 (nI 0)) (Msv (ms m9) (msv m9) j)) (nI (kSz j)))) _ := hP
  have hD : va_D A (wM g a (sMsm (sMsv (sMth m9 (nI 0)) (Msv (ms m9) (msv m9) j)) (nI (kSz j)))) := hD
  refine lv_aload_n hx hb dX4_setQuick_9 rfl (lv_at hl 0 rfl) ?_
  refine va_get (D := g.1) (ci := 4) (v := .ref (a 1)) (C := RX4) (T := TX4) (N := 12) hx hb hts hiX4 hown hE.1 hP 0 rfl rfl 1 (by decide) f7 (fun _ h9 => h9) rfl dX4_setQuick_10 ?_
  refine lv_iconst (v := (nI 3)) hx hb dX4_setQuick_13 (by decide) ?_
  refine k_iald (f := (ms m9)) hx hb hE hP 1 rfl 3 rfl (by decide) (by decide) dX4_setQuick_14 ?_
  refine lv_iconst (v := (nI 1)) hx hb dX4_setQuick_15 (by decide) ?_
  refine k_meet (x := .int (bI (((ms m9) 3) = nI 1))) (pj := 24) (rest := []) (fun J1 => ?_) ?_
  ·
    refine lv_icmp_ne (tgt := 23) hx hb dX4_setQuick_16 (by decide) (fun c2 => ?_) (fun c2 => ?_)
    ·
      refine lv_iconst (v := (nI 0)) hx hb dX4_setQuick_23 (by decide) ?_
      exact k_top (by first | (simp only [bI, if_neg c2, if_pos c2]; done) | (simp only [bI, if_neg c2, if_pos c2]; rfl) | rfl | (simp [bI, if_neg c2, if_pos c2]; done)) J1
    ·
      refine lv_iconst (v := (nI 1)) hx hb dX4_setQuick_19 (by decide) ?_
      refine lv_goto (tgt := 24) hx hb dX4_setQuick_20 (by decide) ?_
      exact k_top (by first | (simp only [bI, if_pos c2, if_neg (not_not_intro c2)]; done) | (simp only [bI, if_pos c2, if_neg (not_not_intro c2)]; rfl) | rfl | (simp [bI, if_pos c2, if_neg (not_not_intro c2)]; done)) J1
  ·
    refine lv_istore_n (lv' := [(2, .int (bI (((ms m9) 3) = nI 1))), (0, .ref (a 0)), (1, .int (nI b))]) hx hb dX4_setQuick_24 rfl hl (by decide) rfl (fun ls hl => ?_)
    refine lv_aload_n hx hb dX4_setQuick_25 rfl (lv_at hl 1 rfl) ?_
    refine va_get (D := g.1) (ci := 4) (v := .ref (a 1)) (C := RX4) (T := TX4) (N := 12) hx hb hts hiX4 hown hE.1 hP 0 rfl rfl 1 (by decide) f7 (fun _ h9 => h9) rfl dX4_setQuick_26 ?_
    refine lv_iconst (v := (nI 3)) hx hb dX4_setQuick_29 (by decide) ?_
    refine lv_iload_n hx hb dX4_setQuick_30 rfl (lv_at hl 2 rfl) ?_
    refine k_meet (x := .int (nI b)) (pj := 39) (rest := [.int (nI 3), .ref (a 1)]) (fun J3 => ?_) ?_
    ·
      refine k_if0 (tgt := 38) hx hb (by omega) dX4_setQuick_31 (by decide) (fun c4 => ?_) (fun c4 => ?_)
      ·
        refine lv_iconst (v := (nI 0)) hx hb dX4_setQuick_38 (by decide) ?_
        exact k_top (by first | rfl | exact congrArg nI (by omega) | exact (by first | (simp only [bI, if_pos c4, if_neg (not_not_intro c4)]; done) | (simp only [bI, if_pos c4, if_neg (not_not_intro c4)]; rfl) | rfl | (simp [bI, if_pos c4, if_neg (not_not_intro c4)]; done))) J3
      ·
        refine lv_iconst (v := (nI 1)) hx hb dX4_setQuick_34 (by decide) ?_
        refine lv_goto (tgt := 39) hx hb dX4_setQuick_35 (by decide) ?_
        exact k_top (by first | rfl | exact congrArg nI (by omega) | exact (by first | (simp only [bI, if_neg c4, if_pos c4]; done) | (simp only [bI, if_neg c4, if_pos c4]; rfl) | rfl | (simp [bI, if_neg c4, if_pos c4]; done))) J3
    ·
      refine k_iast (f := (ms m9)) (ws1 := (wM g a (sMs (sMsm (sMsv (sMth m9 (nI 0)) (Msv (ms m9) (msv m9) j)) (nI (kSz j))) (upd (ms m9) 3 (nI b))))) hx hb hE hP hD hS 1 rfl 3 rfl (by decide) (by decide) rfl dX4_setQuick_39 (fun H locs hP hD hS => ?_)
      refine lv_iload_n hx hb dX4_setQuick_40 rfl (lv_at hl 0 rfl) ?_
      have hP : va_P g.1 vwCl (wM g a (sMs (Mkeep j (sMth m9 (nI 0))) (upd (ms m9) 3 (nI b)))) _ := hP
      have hD : va_D A (wM g a (sMs (Mkeep j (sMth m9 (nI 0))) (upd (ms m9) 3 (nI b)))) := hD
      exact k_iret hx hb hr hlocks bI_nar (by first | rfl | (simp only [bI]; done) | (simp only [bI]; rfl) | (simp [bI]; done)) hP hD hS (Nat.le_of_ble_eq_true rfl) (Nat.le_of_ble_eq_true rfl) dX4_setQuick_41
set_option maxHeartbeats 4000000 in
set_option maxRecDepth 100000 in
theorem c_X4_setTimes (l : Launch) (g : kG) (a : Nat → Nat) (m9 : MSt) (j : Nat) (hj : j ≤ 6) (hjm : msm m9 = nI j) (t1 t2 t3 : Int32) : KI l yX4_setTimes wsX4_setTimes ({ frames := 1, cells := 0, slots := 0, locals := 22 }) g [.ref (a 0), .int t1, .int t2, .int t3] (wM g a m9) (MtimesR t1 t2 t3 m9) (wM g a (MtimesS j t1 t2 t3 m9)) 0 0 := by
  refine k_begin (cc := cX4_setTimes) (maxL := 5) (ret := (some .int)) (Qc := fun A => kQi g (MtimesR t1 t2 t3 m9) (wM g a (MtimesS j t1 t2 t3 m9)) A) (by decide) rfl (Nat.le_of_ble_eq_true rfl) ?_
  intro p e s m below meth c A ls hF hr hlocks hin hE hP hD hS hA hl
  obtain ⟨hx, hb, hml, hown, hts⟩ := id hF
  have hown : s.vm.findClass RX4 = some m.cls := hown
  have hl : lv_has ls 5 [(0, .ref (a 0)), (1, .int t1), (2, .int t2), (3, .int t3)] := hl
  have hiX4 : ∀ w ∈ wsX40, w ∈ wsX4_setTimes := fun _ h => List.mem_cons_of_mem _ (List.mem_append_right _ (h))
  have f25 : (Cond.fieldLink RX4 25 "ConcertUsherModel" "thrown" "I").before _ s = true := hts _ (List.mem_of_getElem? (i := 1) rfl)
  have f7 : (Cond.fieldLink RX4 7 "ConcertUsherModel" "s" "[I").before _ s = true := hts _ (List.mem_of_getElem? (i := 2) rfl)
  refine lv_aload_n hx hb dX4_setTimes_0 rfl (lv_at hl 0 rfl) ?_
  refine lv_iconst (v := (nI 0)) hx hb dX4_setTimes_1 (by decide) ?_
  refine va_put (D := g.1) (ci := 4) (v := .int (nI 0)) (ty := .int) (C := RX4) (T := TX4) (N := 12) hx hb hts hiX4 tyX4 tyX4_ok nmX4 hown hE.1 hP hD hS 0 rfl rfl 0 (by decide) f25 (fun _ h9 => h9) rfl (tyX4_ok 0 (by decide)) rfl rfl (Nat.le_of_ble_eq_true rfl) dX4_setTimes_2 (fun H locs hP hD hS => ?_)
  have hP : va_P g.1 vwCl (wM g a (sMth m9 (nI 0))) _ := hP
  have hD : va_D A (wM g a (sMth m9 (nI 0))) := hD
  refine lv_iload_n hx hb dX4_setTimes_5 rfl (lv_at hl 1 rfl) ?_
  refine lv_iconst (v := (nI 2)) hx hb dX4_setTimes_6 (by decide) ?_
  refine lv_bipush (v := (nI 60)) hx hb dX4_setTimes_7 (by decide) ?_
  refine k_Si (w0 := []) (w1 := []) (As := [.int t1, .int (nI 2), .int (nI 60)]) (r := (bI ((nI 2) ≤ t1 ∧ t1 ≤ (nI 60)))) hF (c_X4_in l g t1 (nI 2) (nI 60)) (va_cwS 3 hts gX4_setTimes_X4_in rfl rfl rfl (by decide +kernel) ⟨Nat.le_of_ble_eq_true rfl, Nat.le_of_ble_eq_true rfl⟩) hE hP hD hS hA (List.Perm.refl _) (List.Perm.refl _) rfl hl.1 rfl (Nat.le_of_ble_eq_true rfl) dX4_setTimes_9 ⟨Nat.le_of_ble_eq_true rfl, Nat.le_of_ble_eq_true rfl⟩ (fun H locs hP hD hS => ?_)
  have hP : va_P g.1 vwCl (wM g a (sMth m9 (nI 0))) _ := hP
  have hD : va_D A (wM g a (sMth m9 (nI 0))) := hD
  refine k_ifeqB (tgt := 35) hx hb dX4_setTimes_12 (by decide) (fun c1 => ?_) (fun c1 => ?_)
  ·
    refine lv_aload_n hx hb dX4_setTimes_35 rfl (lv_at hl 0 rfl) ?_
    refine lv_iconst (v := (nI 1)) hx hb dX4_setTimes_36 (by decide) ?_
    refine k_Vi (As := [.int (nI 1)]) (r := (nI 0)) hF (c_X4_fails l g a (sMth m9 (nI 0)) (nI 1)) (cwV 1 hts gX4_setTimes_X4_fails rfl rfl rfl (by decide +kernel) ⟨Nat.le_of_ble_eq_true rfl, Nat.le_of_ble_eq_true rfl⟩) hE hP hD hS hA (k_pall _) ((k_pall _).symm) 0 rfl rfl rfl rfl hl.1 rfl (Nat.le_of_ble_eq_true rfl) dX4_setTimes_37 ⟨Nat.le_of_ble_eq_true rfl, Nat.le_of_ble_eq_true rfl⟩ (fun H locs hP hD hS => ?_)
    have hP : va_P g.1 vwCl (wM g a (sMth m9 (nI 1))) _ := hP
    have hD : va_D A (wM g a (sMth m9 (nI 1))) := hD
    have e2 : (MtimesS j t1 t2 t3 m9) = (sMth m9 (nI 1)) := (by first | (simp only [MtimesS, MtimesR, if_neg c1, if_pos c1]; done) | (simp only [MtimesS, MtimesR, if_neg c1, if_pos c1]; rfl) | rfl | (simp [MtimesS, MtimesR, if_neg c1, if_pos c1]; done))
    have hP : va_P g.1 vwCl (wM g a (MtimesS j t1 t2 t3 m9)) H := by rw [e2]; exact hP
    have hD : va_D A (wM g a (MtimesS j t1 t2 t3 m9)) := by rw [e2]; exact hD
    exact k_iret hx hb hr hlocks rfl (by first | (simp only [MtimesS, MtimesR, bI, if_neg c1, if_pos c1]; done) | (simp only [MtimesS, MtimesR, bI, if_neg c1, if_pos c1]; rfl) | rfl | (simp [MtimesS, MtimesR, bI, if_neg c1, if_pos c1]; done)) hP hD hS (Nat.le_of_ble_eq_true rfl) (Nat.le_of_ble_eq_true rfl) dX4_setTimes_40
  ·
    refine lv_iload_n hx hb dX4_setTimes_15 rfl (lv_at hl 2 rfl) ?_
    refine lv_iconst (v := (nI 1)) hx hb dX4_setTimes_16 (by decide) ?_
    refine lv_bipush (v := (nI 10)) hx hb dX4_setTimes_17 (by decide) ?_
    refine k_Si (w0 := []) (w1 := []) (As := [.int t2, .int (nI 1), .int (nI 10)]) (r := (bI ((nI 1) ≤ t2 ∧ t2 ≤ (nI 10)))) hF (c_X4_in l g t2 (nI 1) (nI 10)) (va_cwS 3 hts gX4_setTimes_X4_in rfl rfl rfl (by decide +kernel) ⟨Nat.le_of_ble_eq_true rfl, Nat.le_of_ble_eq_true rfl⟩) hE hP hD hS hA (List.Perm.refl _) (List.Perm.refl _) rfl hl.1 rfl (Nat.le_of_ble_eq_true rfl) dX4_setTimes_19 ⟨Nat.le_of_ble_eq_true rfl, Nat.le_of_ble_eq_true rfl⟩ (fun H locs hP hD hS => ?_)
    have hP : va_P g.1 vwCl (wM g a (sMth m9 (nI 0))) _ := hP
    have hD : va_D A (wM g a (sMth m9 (nI 0))) := hD
    refine k_ifeqB (tgt := 35) hx hb dX4_setTimes_22 (by decide) (fun c3 => ?_) (fun c3 => ?_)
    ·
      refine lv_aload_n hx hb dX4_setTimes_35 rfl (lv_at hl 0 rfl) ?_
      refine lv_iconst (v := (nI 1)) hx hb dX4_setTimes_36 (by decide) ?_
      refine k_Vi (As := [.int (nI 1)]) (r := (nI 0)) hF (c_X4_fails l g a (sMth m9 (nI 0)) (nI 1)) (cwV 1 hts gX4_setTimes_X4_fails rfl rfl rfl (by decide +kernel) ⟨Nat.le_of_ble_eq_true rfl, Nat.le_of_ble_eq_true rfl⟩) hE hP hD hS hA (k_pall _) ((k_pall _).symm) 0 rfl rfl rfl rfl hl.1 rfl (Nat.le_of_ble_eq_true rfl) dX4_setTimes_37 ⟨Nat.le_of_ble_eq_true rfl, Nat.le_of_ble_eq_true rfl⟩ (fun H locs hP hD hS => ?_)
      have hP : va_P g.1 vwCl (wM g a (sMth m9 (nI 1))) _ := hP
      have hD : va_D A (wM g a (sMth m9 (nI 1))) := hD
      have e4 : (MtimesS j t1 t2 t3 m9) = (sMth m9 (nI 1)) := (by first | (simp only [MtimesS, MtimesR, if_pos c1, if_neg (not_not_intro c1), if_neg c3, if_pos c3]; done) | (simp only [MtimesS, MtimesR, if_pos c1, if_neg (not_not_intro c1), if_neg c3, if_pos c3]; rfl) | rfl | (simp [MtimesS, MtimesR, if_pos c1, if_neg (not_not_intro c1), if_neg c3, if_pos c3]; done))
      have hP : va_P g.1 vwCl (wM g a (MtimesS j t1 t2 t3 m9)) H := by rw [e4]; exact hP
      have hD : va_D A (wM g a (MtimesS j t1 t2 t3 m9)) := by rw [e4]; exact hD
      exact k_iret hx hb hr hlocks rfl (by first | (simp only [MtimesS, MtimesR, bI, if_pos c1, if_neg (not_not_intro c1), if_neg c3, if_pos c3]; done) | (simp only [MtimesS, MtimesR, bI, if_pos c1, if_neg (not_not_intro c1), if_neg c3, if_pos c3]; rfl) | rfl | (simp [MtimesS, MtimesR, bI, if_pos c1, if_neg (not_not_intro c1), if_neg c3, if_pos c3]; done)) hP hD hS (Nat.le_of_ble_eq_true rfl) (Nat.le_of_ble_eq_true rfl) dX4_setTimes_40
    ·
      refine lv_iload_n hx hb dX4_setTimes_25 rfl (lv_at hl 3 rfl) ?_
      refine lv_iconst (v := (nI 1)) hx hb dX4_setTimes_26 (by decide) ?_
      refine lv_bipush (v := (nI 30)) hx hb dX4_setTimes_27 (by decide) ?_
      refine k_Si (w0 := []) (w1 := []) (As := [.int t3, .int (nI 1), .int (nI 30)]) (r := (bI ((nI 1) ≤ t3 ∧ t3 ≤ (nI 30)))) hF (c_X4_in l g t3 (nI 1) (nI 30)) (va_cwS 3 hts gX4_setTimes_X4_in rfl rfl rfl (by decide +kernel) ⟨Nat.le_of_ble_eq_true rfl, Nat.le_of_ble_eq_true rfl⟩) hE hP hD hS hA (List.Perm.refl _) (List.Perm.refl _) rfl hl.1 rfl (Nat.le_of_ble_eq_true rfl) dX4_setTimes_29 ⟨Nat.le_of_ble_eq_true rfl, Nat.le_of_ble_eq_true rfl⟩ (fun H locs hP hD hS => ?_)
      have hP : va_P g.1 vwCl (wM g a (sMth m9 (nI 0))) _ := hP
      have hD : va_D A (wM g a (sMth m9 (nI 0))) := hD
      refine k_ifneB (tgt := 41) hx hb dX4_setTimes_32 (by decide) (fun c5 => ?_) (fun c5 => ?_)
      ·
        refine lv_aload_n hx hb dX4_setTimes_41 rfl (lv_at hl 0 rfl) ?_
        refine k_Vv (As := []) hF (c_X4_saves l g a (sMth m9 (nI 0)) j (by omega) hjm) (cwV 0 hts gX4_setTimes_X4_saves rfl rfl rfl (by decide +kernel) ⟨Nat.le_of_ble_eq_true rfl, Nat.le_of_ble_eq_true rfl⟩) hE hP hD hS hA (k_pall _) ((k_pall _).symm) 0 rfl rfl rfl rfl hl.1 rfl (Nat.le_of_ble_eq_true rfl) dX4_setTimes_42 ⟨Nat.le_of_ble_eq_true rfl, Nat.le_of_ble_eq_true rfl⟩ (fun H locs hP hD hS => ?_)
        have hP : va_P g.1 vwCl (wM g a (sMsm (sMsv (sMth m9 (nI 0)) (Msv (ms m9) (msv m9) j)) (nI (kSz j)))) _ := hP
        have hD : va_D A (wM g a (sMsm (sMsv (sMth m9 (nI 0)) (Msv (ms m9) (msv m9) j)) (nI (kSz j)))) := hD
        refine lv_aload_n hx hb dX4_setTimes_45 rfl (lv_at hl 0 rfl) ?_
        refine va_get (D := g.1) (ci := 4) (v := .ref (a 1)) (C := RX4) (T := TX4) (N := 12) hx hb hts hiX4 hown hE.1 hP 0 rfl rfl 1 (by decide) f7 (fun _ h9 => h9) rfl dX4_setTimes_46 ?_
        refine lv_iconst (v := (nI 0)) hx hb dX4_setTimes_49 (by decide) ?_
        refine k_iald (f := (ms m9)) hx hb hE hP 1 rfl 0 rfl (by decide) (by decide) dX4_setTimes_50 ?_
        refine lv_istore (lv' := [(4, .int ((ms m9) 0)), (0, .ref (a 0)), (1, .int t1), (2, .int t2), (3, .int t3)]) hx hb dX4_setTimes_51 hl (by decide) rfl (fun ls hl => ?_)
        refine lv_aload_n hx hb dX4_setTimes_53 rfl (lv_at hl 1 rfl) ?_
        refine va_get (D := g.1) (ci := 4) (v := .ref (a 1)) (C := RX4) (T := TX4) (N := 12) hx hb hts hiX4 hown hE.1 hP 0 rfl rfl 1 (by decide) f7 (fun _ h9 => h9) rfl dX4_setTimes_54 ?_
        refine lv_iconst (v := (nI 0)) hx hb dX4_setTimes_57 (by decide) ?_
        refine lv_iload_n hx hb dX4_setTimes_58 rfl (lv_at hl 2 rfl) ?_
        refine k_iast (f := (ms m9)) (ws1 := (wM g a (sMs (sMsm (sMsv (sMth m9 (nI 0)) (Msv (ms m9) (msv m9) j)) (nI (kSz j))) (upd (ms m9) 0 t1)))) hx hb hE hP hD hS 1 rfl 0 rfl (by decide) (by decide) rfl dX4_setTimes_59 (fun H locs hP hD hS => ?_)
        refine lv_aload_n hx hb dX4_setTimes_60 rfl (lv_at hl 1 rfl) ?_
        refine va_get (D := g.1) (ci := 4) (v := .ref (a 1)) (C := RX4) (T := TX4) (N := 12) hx hb hts hiX4 hown hE.1 hP 0 rfl rfl 1 (by decide) f7 (fun _ h9 => h9) rfl dX4_setTimes_61 ?_
        refine lv_iconst (v := (nI 1)) hx hb dX4_setTimes_64 (by decide) ?_
        refine lv_iload_n hx hb dX4_setTimes_65 rfl (lv_at hl 3 rfl) ?_
        refine k_iast (f := (upd (ms m9) 0 t1)) (ws1 := (wM g a (sMs (sMsm (sMsv (sMth m9 (nI 0)) (Msv (ms m9) (msv m9) j)) (nI (kSz j))) (upd (upd (ms m9) 0 t1) 1 t2)))) hx hb hE hP hD hS 1 rfl 1 rfl (by decide) (by decide) rfl dX4_setTimes_66 (fun H locs hP hD hS => ?_)
        refine lv_aload_n hx hb dX4_setTimes_67 rfl (lv_at hl 1 rfl) ?_
        refine va_get (D := g.1) (ci := 4) (v := .ref (a 1)) (C := RX4) (T := TX4) (N := 12) hx hb hts hiX4 hown hE.1 hP 0 rfl rfl 1 (by decide) f7 (fun _ h9 => h9) rfl dX4_setTimes_68 ?_
        refine lv_iconst (v := (nI 2)) hx hb dX4_setTimes_71 (by decide) ?_
        refine lv_iload_n hx hb dX4_setTimes_72 rfl (lv_at hl 4 rfl) ?_
        refine k_iast (f := (upd (upd (ms m9) 0 t1) 1 t2)) (ws1 := (wM g a (sMs (sMsm (sMsv (sMth m9 (nI 0)) (Msv (ms m9) (msv m9) j)) (nI (kSz j))) (upd (upd (upd (ms m9) 0 t1) 1 t2) 2 t3)))) hx hb hE hP hD hS 1 rfl 2 rfl (by decide) (by decide) rfl dX4_setTimes_73 (fun H locs hP hD hS => ?_)
        refine lv_iload hx hb dX4_setTimes_74 (lv_at hl 0 rfl) ?_
        have e6 : (MtimesS j t1 t2 t3 m9) = (sMs (sMsm (sMsv (sMth m9 (nI 0)) (Msv (ms m9) (msv m9) j)) (nI (kSz j))) (upd (upd (upd (ms m9) 0 t1) 1 t2) 2 t3)) := (by first | (simp only [MtimesS, MtimesR, if_pos c1, if_neg (not_not_intro c1), if_pos c3, if_neg (not_not_intro c3), if_pos c5, if_neg (not_not_intro c5)]; done) | (simp only [MtimesS, MtimesR, if_pos c1, if_neg (not_not_intro c1), if_pos c3, if_neg (not_not_intro c3), if_pos c5, if_neg (not_not_intro c5)]; rfl) | rfl | (simp [MtimesS, MtimesR, if_pos c1, if_neg (not_not_intro c1), if_pos c3, if_neg (not_not_intro c3), if_pos c5, if_neg (not_not_intro c5)]; done))
        have hP : va_P g.1 vwCl (wM g a (MtimesS j t1 t2 t3 m9)) H := by rw [e6]; exact hP
        have hD : va_D A (wM g a (MtimesS j t1 t2 t3 m9)) := by rw [e6]; exact hD
        exact k_iret hx hb hr hlocks rfl (by first | (simp only [MtimesS, MtimesR, bI, if_pos c1, if_neg (not_not_intro c1), if_pos c3, if_neg (not_not_intro c3), if_pos c5, if_neg (not_not_intro c5)]; done) | (simp only [MtimesS, MtimesR, bI, if_pos c1, if_neg (not_not_intro c1), if_pos c3, if_neg (not_not_intro c3), if_pos c5, if_neg (not_not_intro c5)]; rfl) | rfl | (simp [MtimesS, MtimesR, bI, if_pos c1, if_neg (not_not_intro c1), if_pos c3, if_neg (not_not_intro c3), if_pos c5, if_neg (not_not_intro c5)]; done)) hP hD hS (Nat.le_of_ble_eq_true rfl) (Nat.le_of_ble_eq_true rfl) dX4_setTimes_76
      ·
        refine lv_aload_n hx hb dX4_setTimes_35 rfl (lv_at hl 0 rfl) ?_
        refine lv_iconst (v := (nI 1)) hx hb dX4_setTimes_36 (by decide) ?_
        refine k_Vi (As := [.int (nI 1)]) (r := (nI 0)) hF (c_X4_fails l g a (sMth m9 (nI 0)) (nI 1)) (cwV 1 hts gX4_setTimes_X4_fails rfl rfl rfl (by decide +kernel) ⟨Nat.le_of_ble_eq_true rfl, Nat.le_of_ble_eq_true rfl⟩) hE hP hD hS hA (k_pall _) ((k_pall _).symm) 0 rfl rfl rfl rfl hl.1 rfl (Nat.le_of_ble_eq_true rfl) dX4_setTimes_37 ⟨Nat.le_of_ble_eq_true rfl, Nat.le_of_ble_eq_true rfl⟩ (fun H locs hP hD hS => ?_)
        have hP : va_P g.1 vwCl (wM g a (sMth m9 (nI 1))) _ := hP
        have hD : va_D A (wM g a (sMth m9 (nI 1))) := hD
        have e7 : (MtimesS j t1 t2 t3 m9) = (sMth m9 (nI 1)) := (by first | (simp only [MtimesS, MtimesR, if_pos c1, if_neg (not_not_intro c1), if_pos c3, if_neg (not_not_intro c3), if_neg c5, if_pos c5]; done) | (simp only [MtimesS, MtimesR, if_pos c1, if_neg (not_not_intro c1), if_pos c3, if_neg (not_not_intro c3), if_neg c5, if_pos c5]; rfl) | rfl | (simp [MtimesS, MtimesR, if_pos c1, if_neg (not_not_intro c1), if_pos c3, if_neg (not_not_intro c3), if_neg c5, if_pos c5]; done))
        have hP : va_P g.1 vwCl (wM g a (MtimesS j t1 t2 t3 m9)) H := by rw [e7]; exact hP
        have hD : va_D A (wM g a (MtimesS j t1 t2 t3 m9)) := by rw [e7]; exact hD
        exact k_iret hx hb hr hlocks rfl (by first | (simp only [MtimesS, MtimesR, bI, if_pos c1, if_neg (not_not_intro c1), if_pos c3, if_neg (not_not_intro c3), if_neg c5, if_pos c5]; done) | (simp only [MtimesS, MtimesR, bI, if_pos c1, if_neg (not_not_intro c1), if_pos c3, if_neg (not_not_intro c3), if_neg c5, if_pos c5]; rfl) | rfl | (simp [MtimesS, MtimesR, bI, if_pos c1, if_neg (not_not_intro c1), if_pos c3, if_neg (not_not_intro c3), if_neg c5, if_pos c5]; done)) hP hD hS (Nat.le_of_ble_eq_true rfl) (Nat.le_of_ble_eq_true rfl) dX4_setTimes_40
set_option maxHeartbeats 4000000 in
set_option maxRecDepth 100000 in
theorem c_X4_setPresent (l : Launch) (g : kG) (a : Nat → Nat) (m9 : MSt) (j : Nat) (hj : j ≤ 6) (hjm : msm m9 = nI j) (w9 : Int32) (b : Nat) (hb2 : b < 2) : KI l yX4_setPresent wsX4_setPresent ({ frames := 1, cells := 0, slots := 0, locals := 22 }) g [.ref (a 0), .int w9, .int (nI b)] (wM g a m9) (MpresR w9 b m9) (wM g a (MpresS j w9 b m9)) 0 0 := by
  refine k_begin (cc := cX4_setPresent) (maxL := 3) (ret := (some .int)) (Qc := fun A => kQi g (MpresR w9 b m9) (wM g a (MpresS j w9 b m9)) A) (by decide) rfl (Nat.le_of_ble_eq_true rfl) ?_
  intro p e s m below meth c A ls hF hr hlocks hin hE hP hD hS hA hl
  obtain ⟨hx, hb, hml, hown, hts⟩ := id hF
  have hown : s.vm.findClass RX4 = some m.cls := hown
  have hl : lv_has ls 3 [(0, .ref (a 0)), (1, .int w9), (2, .int (nI b))] := hl
  have hiX4 : ∀ w ∈ wsX40, w ∈ wsX4_setPresent := fun _ h => List.mem_cons_of_mem _ (List.mem_append_right _ (h))
  have f25 : (Cond.fieldLink RX4 25 "ConcertUsherModel" "thrown" "I").before _ s = true := hts _ (List.mem_of_getElem? (i := 1) rfl)
  have f7 : (Cond.fieldLink RX4 7 "ConcertUsherModel" "s" "[I").before _ s = true := hts _ (List.mem_of_getElem? (i := 2) rfl)
  refine lv_aload_n hx hb dX4_setPresent_0 rfl (lv_at hl 0 rfl) ?_
  refine lv_iconst (v := (nI 0)) hx hb dX4_setPresent_1 (by decide) ?_
  refine va_put (D := g.1) (ci := 4) (v := .int (nI 0)) (ty := .int) (C := RX4) (T := TX4) (N := 12) hx hb hts hiX4 tyX4 tyX4_ok nmX4 hown hE.1 hP hD hS 0 rfl rfl 0 (by decide) f25 (fun _ h9 => h9) rfl (tyX4_ok 0 (by decide)) rfl rfl (Nat.le_of_ble_eq_true rfl) dX4_setPresent_2 (fun H locs hP hD hS => ?_)
  have hP : va_P g.1 vwCl (wM g a (sMth m9 (nI 0))) _ := hP
  have hD : va_D A (wM g a (sMth m9 (nI 0))) := hD
  refine lv_iload_n hx hb dX4_setPresent_5 rfl (lv_at hl 1 rfl) ?_
  refine lv_iconst (v := (nI 1)) hx hb dX4_setPresent_6 (by decide) ?_
  refine lv_iconst (v := (nI 2)) hx hb dX4_setPresent_7 (by decide) ?_
  refine k_Si (w0 := []) (w1 := []) (As := [.int w9, .int (nI 1), .int (nI 2)]) (r := (bI ((nI 1) ≤ w9 ∧ w9 ≤ (nI 2)))) hF (c_X4_in l g w9 (nI 1) (nI 2)) (va_cwS 3 hts gX4_setPresent_X4_in rfl rfl rfl (by decide +kernel) ⟨Nat.le_of_ble_eq_true rfl, Nat.le_of_ble_eq_true rfl⟩) hE hP hD hS hA (List.Perm.refl _) (List.Perm.refl _) rfl hl.1 rfl (Nat.le_of_ble_eq_true rfl) dX4_setPresent_8 ⟨Nat.le_of_ble_eq_true rfl, Nat.le_of_ble_eq_true rfl⟩ (fun H locs hP hD hS => ?_)
  have hP : va_P g.1 vwCl (wM g a (sMth m9 (nI 0))) _ := hP
  have hD : va_D A (wM g a (sMth m9 (nI 0))) := hD
  refine k_ifneB (tgt := 20) hx hb dX4_setPresent_11 (by decide) (fun c1 => ?_) (fun c1 => ?_)
  ·
    refine lv_aload_n hx hb dX4_setPresent_20 rfl (lv_at hl 0 rfl) ?_
    refine k_Vv (As := []) hF (c_X4_saves l g a (sMth m9 (nI 0)) j (by omega) hjm) (cwV 0 hts gX4_setPresent_X4_saves rfl rfl rfl (by decide +kernel) ⟨Nat.le_of_ble_eq_true rfl, Nat.le_of_ble_eq_true rfl⟩) hE hP hD hS hA (k_pall _) ((k_pall _).symm) 0 rfl rfl rfl rfl hl.1 rfl (Nat.le_of_ble_eq_true rfl) dX4_setPresent_21 ⟨Nat.le_of_ble_eq_true rfl, Nat.le_of_ble_eq_true rfl⟩ (fun H locs hP hD hS => ?_)
    have hP : va_P g.1 vwCl (wM g a (sMsm (sMsv (sMth m9 (nI 0)) (Msv (ms m9) (msv m9) j)) (nI (kSz j)))) _ := hP
    have hD : va_D A (wM g a (sMsm (sMsv (sMth m9 (nI 0)) (Msv (ms m9) (msv m9) j)) (nI (kSz j)))) := hD
    refine lv_aload_n hx hb dX4_setPresent_24 rfl (lv_at hl 0 rfl) ?_
    refine va_get (D := g.1) (ci := 4) (v := .ref (a 1)) (C := RX4) (T := TX4) (N := 12) hx hb hts hiX4 hown hE.1 hP 0 rfl rfl 1 (by decide) f7 (fun _ h9 => h9) rfl dX4_setPresent_25 ?_
    refine lv_iconst (v := (nI 4)) hx hb dX4_setPresent_28 (by decide) ?_
    refine lv_aload_n hx hb dX4_setPresent_29 rfl (lv_at hl 0 rfl) ?_
    refine va_get (D := g.1) (ci := 4) (v := .ref (a 1)) (C := RX4) (T := TX4) (N := 12) hx hb hts hiX4 hown hE.1 hP 0 rfl rfl 1 (by decide) f7 (fun _ h9 => h9) rfl dX4_setPresent_30 ?_
    refine lv_iconst (v := (nI 4)) hx hb dX4_setPresent_33 (by decide) ?_
    refine k_iald (f := (ms m9)) hx hb hE hP 1 rfl 4 rfl (by decide) (by decide) dX4_setPresent_34 ?_
    refine lv_iconst (v := (nI 1)) hx hb dX4_setPresent_35 (by decide) ?_
    refine lv_iload_n hx hb dX4_setPresent_36 rfl (lv_at hl 1 rfl) ?_
    refine lv_ishl hx hb dX4_setPresent_37 ?_
    refine lv_iconst (v := (-1)) hx hb dX4_setPresent_38 (by decide) ?_
    refine lv_ixor hx hb dX4_setPresent_39 ?_
    refine lv_iand hx hb dX4_setPresent_40 ?_
    refine lv_iload_n hx hb dX4_setPresent_41 rfl (lv_at hl 2 rfl) ?_
    refine k_meet (x := .int (if b = 0 then nI 0 else (nI 1 <<< (w9 &&& 31)))) (pj := 52) (rest := [.int (((ms m9) 4) &&& (((nI 1) <<< (w9 &&& 31)) ^^^ (-1))), .int (nI 4), .ref (a 1)]) (fun J2 => ?_) ?_
    ·
      refine k_if0 (tgt := 51) hx hb (by omega) dX4_setPresent_42 (by decide) (fun c3 => ?_) (fun c3 => ?_)
      ·
        refine lv_iconst (v := (nI 0)) hx hb dX4_setPresent_51 (by decide) ?_
        exact k_top (by first | (simp only [MpresS, MpresR, Mpres, bI, if_pos c1, if_neg (not_not_intro c1), if_pos c3, if_neg (not_not_intro c3)]; done) | (simp only [MpresS, MpresR, Mpres, bI, if_pos c1, if_neg (not_not_intro c1), if_pos c3, if_neg (not_not_intro c3)]; rfl) | rfl | (simp [MpresS, MpresR, Mpres, bI, if_pos c1, if_neg (not_not_intro c1), if_pos c3, if_neg (not_not_intro c3)]; done)) J2
      ·
        refine lv_iconst (v := (nI 1)) hx hb dX4_setPresent_45 (by decide) ?_
        refine lv_iload_n hx hb dX4_setPresent_46 rfl (lv_at hl 1 rfl) ?_
        refine lv_ishl hx hb dX4_setPresent_47 ?_
        refine lv_goto (tgt := 52) hx hb dX4_setPresent_48 (by decide) ?_
        exact k_top (by first | (simp only [MpresS, MpresR, Mpres, bI, if_pos c1, if_neg (not_not_intro c1), if_neg c3, if_pos c3]; done) | (simp only [MpresS, MpresR, Mpres, bI, if_pos c1, if_neg (not_not_intro c1), if_neg c3, if_pos c3]; rfl) | rfl | (simp [MpresS, MpresR, Mpres, bI, if_pos c1, if_neg (not_not_intro c1), if_neg c3, if_pos c3]; done)) J2
    ·
      refine lv_ior hx hb dX4_setPresent_52 ?_
      refine k_iast (f := (ms m9)) (ws1 := (wM g a (sMs (sMsm (sMsv (sMth m9 (nI 0)) (Msv (ms m9) (msv m9) j)) (nI (kSz j))) (upd (ms m9) 4 ((((ms m9) 4) &&& (((nI 1) <<< (w9 &&& 31)) ^^^ (-1))) ||| (if b = 0 then nI 0 else (nI 1 <<< (w9 &&& 31)))))))) hx hb hE hP hD hS 1 rfl 4 rfl (by decide) (by decide) rfl dX4_setPresent_53 (fun H locs hP hD hS => ?_)
      refine lv_aload_n hx hb dX4_setPresent_54 rfl (lv_at hl 0 rfl) ?_
      refine k_Vi (As := []) (r := (Mchief (upd (ms m9) 4 ((((ms m9) 4) &&& (((nI 1) <<< (w9 &&& 31)) ^^^ (-1))) ||| (if b = 0 then nI 0 else (nI 1 <<< (w9 &&& 31))))))) hF (c_X4_chiefNow l g a (sMs (sMsm (sMsv (sMth m9 (nI 0)) (Msv (ms m9) (msv m9) j)) (nI (kSz j))) (upd (ms m9) 4 ((((ms m9) 4) &&& (((nI 1) <<< (w9 &&& 31)) ^^^ (-1))) ||| (if b = 0 then nI 0 else (nI 1 <<< (w9 &&& 31))))))) (cwV 0 hts gX4_setPresent_X4_chiefNow rfl rfl rfl (by decide +kernel) ⟨Nat.le_of_ble_eq_true rfl, Nat.le_of_ble_eq_true rfl⟩) hE hP hD hS hA (k_pall _) ((k_pall _).symm) 0 rfl rfl rfl rfl hl.1 rfl (Nat.le_of_ble_eq_true rfl) dX4_setPresent_55 ⟨Nat.le_of_ble_eq_true rfl, Nat.le_of_ble_eq_true rfl⟩ (fun H locs hP hD hS => ?_)
      have hP : va_P g.1 vwCl (wM g a (sMs (sMsm (sMsv (sMth m9 (nI 0)) (Msv (ms m9) (msv m9) j)) (nI (kSz j))) (upd (ms m9) 4 ((((ms m9) 4) &&& (((nI 1) <<< (w9 &&& 31)) ^^^ (-1))) ||| (if b = 0 then nI 0 else (nI 1 <<< (w9 &&& 31))))))) _ := hP
      have hD : va_D A (wM g a (sMs (sMsm (sMsv (sMth m9 (nI 0)) (Msv (ms m9) (msv m9) j)) (nI (kSz j))) (upd (ms m9) 4 ((((ms m9) 4) &&& (((nI 1) <<< (w9 &&& 31)) ^^^ (-1))) ||| (if b = 0 then nI 0 else (nI 1 <<< (w9 &&& 31))))))) := hD
      have e4 : (MpresS j w9 b m9) = (sMs (sMsm (sMsv (sMth m9 (nI 0)) (Msv (ms m9) (msv m9) j)) (nI (kSz j))) (upd (ms m9) 4 ((((ms m9) 4) &&& (((nI 1) <<< (w9 &&& 31)) ^^^ (-1))) ||| (if b = 0 then nI 0 else (nI 1 <<< (w9 &&& 31)))))) := (by first | (simp only [MpresS, MpresR, Mpres, if_pos c1, if_neg (not_not_intro c1)]; done) | (simp only [MpresS, MpresR, Mpres, if_pos c1, if_neg (not_not_intro c1)]; rfl) | rfl | (simp [MpresS, MpresR, Mpres, if_pos c1, if_neg (not_not_intro c1)]; done))
      have hP : va_P g.1 vwCl (wM g a (MpresS j w9 b m9)) H := by rw [e4]; exact hP
      have hD : va_D A (wM g a (MpresS j w9 b m9)) := by rw [e4]; exact hD
      exact k_iret hx hb hr hlocks rfl (by first | (simp only [MpresS, MpresR, Mpres, bI, if_pos c1, if_neg (not_not_intro c1)]; done) | (simp only [MpresS, MpresR, Mpres, bI, if_pos c1, if_neg (not_not_intro c1)]; rfl) | rfl | (simp [MpresS, MpresR, Mpres, bI, if_pos c1, if_neg (not_not_intro c1)]; done)) hP hD hS (Nat.le_of_ble_eq_true rfl) (Nat.le_of_ble_eq_true rfl) dX4_setPresent_58
  ·
    refine lv_aload_n hx hb dX4_setPresent_14 rfl (lv_at hl 0 rfl) ?_
    refine lv_iconst (v := (nI 1)) hx hb dX4_setPresent_15 (by decide) ?_
    refine k_Vi (As := [.int (nI 1)]) (r := (nI 0)) hF (c_X4_fails l g a (sMth m9 (nI 0)) (nI 1)) (cwV 1 hts gX4_setPresent_X4_fails rfl rfl rfl (by decide +kernel) ⟨Nat.le_of_ble_eq_true rfl, Nat.le_of_ble_eq_true rfl⟩) hE hP hD hS hA (k_pall _) ((k_pall _).symm) 0 rfl rfl rfl rfl hl.1 rfl (Nat.le_of_ble_eq_true rfl) dX4_setPresent_16 ⟨Nat.le_of_ble_eq_true rfl, Nat.le_of_ble_eq_true rfl⟩ (fun H locs hP hD hS => ?_)
    have hP : va_P g.1 vwCl (wM g a (sMth m9 (nI 1))) _ := hP
    have hD : va_D A (wM g a (sMth m9 (nI 1))) := hD
    have e5 : (MpresS j w9 b m9) = (sMth m9 (nI 1)) := (by first | (simp only [MpresS, MpresR, Mpres, if_neg c1, if_pos c1]; done) | (simp only [MpresS, MpresR, Mpres, if_neg c1, if_pos c1]; rfl) | rfl | (simp [MpresS, MpresR, Mpres, if_neg c1, if_pos c1]; done))
    have hP : va_P g.1 vwCl (wM g a (MpresS j w9 b m9)) H := by rw [e5]; exact hP
    have hD : va_D A (wM g a (MpresS j w9 b m9)) := by rw [e5]; exact hD
    exact k_iret hx hb hr hlocks rfl (by first | (simp only [MpresS, MpresR, Mpres, bI, if_neg c1, if_pos c1]; done) | (simp only [MpresS, MpresR, Mpres, bI, if_neg c1, if_pos c1]; rfl) | rfl | (simp [MpresS, MpresR, Mpres, bI, if_neg c1, if_pos c1]; done)) hP hD hS (Nat.le_of_ble_eq_true rfl) (Nat.le_of_ble_eq_true rfl) dX4_setPresent_19
set_option maxHeartbeats 4000000 in
set_option maxRecDepth 100000 in
theorem c_X4_chief (l : Launch) (g : kG) (a : Nat → Nat) (m9 : MSt) (j : Nat) (hj : j ≤ 6) (hjm : msm m9 = nI j) : KI l yX4_chief wsX4_chief ({ frames := 1, cells := 0, slots := 0, locals := 20 }) g [.ref (a 0)] (wM g a m9) (Mchief (ms m9)) (wM g a (sMth m9 (nI 0))) 0 0 := by
  refine k_begin (cc := cX4_chief) (maxL := 1) (ret := (some .int)) (Qc := fun A => kQi g (Mchief (ms m9)) (wM g a (sMth m9 (nI 0))) A) (by decide) rfl (Nat.le_of_ble_eq_true rfl) ?_
  intro p e s m below meth c A ls hF hr hlocks hin hE hP hD hS hA hl
  obtain ⟨hx, hb, hml, hown, hts⟩ := id hF
  have hown : s.vm.findClass RX4 = some m.cls := hown
  have hl : lv_has ls 1 [(0, .ref (a 0))] := hl
  have hiX4 : ∀ w ∈ wsX40, w ∈ wsX4_chief := fun _ h => List.mem_cons_of_mem _ (List.mem_append_right _ (h))
  have f25 : (Cond.fieldLink RX4 25 "ConcertUsherModel" "thrown" "I").before _ s = true := hts _ (List.mem_of_getElem? (i := 1) rfl)
  refine lv_aload_n hx hb dX4_chief_0 rfl (lv_at hl 0 rfl) ?_
  refine lv_iconst (v := (nI 0)) hx hb dX4_chief_1 (by decide) ?_
  refine va_put (D := g.1) (ci := 4) (v := .int (nI 0)) (ty := .int) (C := RX4) (T := TX4) (N := 12) hx hb hts hiX4 tyX4 tyX4_ok nmX4 hown hE.1 hP hD hS 0 rfl rfl 0 (by decide) f25 (fun _ h9 => h9) rfl (tyX4_ok 0 (by decide)) rfl rfl (Nat.le_of_ble_eq_true rfl) dX4_chief_2 (fun H locs hP hD hS => ?_)
  have hP : va_P g.1 vwCl (wM g a (sMth m9 (nI 0))) _ := hP
  have hD : va_D A (wM g a (sMth m9 (nI 0))) := hD
  refine lv_aload_n hx hb dX4_chief_5 rfl (lv_at hl 0 rfl) ?_
  refine k_Vi (As := []) (r := (Mchief (ms m9))) hF (c_X4_chiefNow l g a (sMth m9 (nI 0))) (cwV 0 hts gX4_chief_X4_chiefNow rfl rfl rfl (by decide +kernel) ⟨Nat.le_of_ble_eq_true rfl, Nat.le_of_ble_eq_true rfl⟩) hE hP hD hS hA (k_pall _) ((k_pall _).symm) 0 rfl rfl rfl rfl hl.1 rfl (Nat.le_of_ble_eq_true rfl) dX4_chief_6 ⟨Nat.le_of_ble_eq_true rfl, Nat.le_of_ble_eq_true rfl⟩ (fun H locs hP hD hS => ?_)
  have hP : va_P g.1 vwCl (wM g a (sMth m9 (nI 0))) _ := hP
  have hD : va_D A (wM g a (sMth m9 (nI 0))) := hD
  have hP : va_P g.1 vwCl (wM g a (sMth m9 (nI 0))) _ := hP
  have hD : va_D A (wM g a (sMth m9 (nI 0))) := hD
  exact k_iret hx hb hr hlocks rfl rfl hP hD hS (Nat.le_of_ble_eq_true rfl) (Nat.le_of_ble_eq_true rfl) dX4_chief_9
set_option maxHeartbeats 4000000 in
set_option maxRecDepth 100000 in
theorem c_X4_goes (l : Launch) (g : kG) (a : Nat → Nat) (m9 : MSt) (r c9 : Nat) (hr8 : r < 8) (hc6 : c9 < 6) : KI l yX4_goes wsX4_goes ({ frames := 1, cells := 0, slots := 0, locals := 21 }) g [.ref (a 0), .int (nI r), .int (nI c9)] (wM g a m9) (bI (Mgoes (ms m9) r c9)) (wM g a m9) 0 0 := by
  refine k_begin (cc := cX4_goes) (maxL := 3) (ret := (some .boolean)) (Qc := fun A => kQi g (bI (Mgoes (ms m9) r c9)) (wM g a m9) A) (by decide) rfl (Nat.le_of_ble_eq_true rfl) ?_
  intro p e s m below meth c A ls hF hr hlocks hin hE hP hD hS hA hl
  obtain ⟨hx, hb, hml, hown, hts⟩ := id hF
  have hown : s.vm.findClass RX4 = some m.cls := hown
  have hl : lv_has ls 3 [(0, .ref (a 0)), (1, .int (nI r)), (2, .int (nI c9))] := hl
  have hiX4 : ∀ w ∈ wsX40, w ∈ wsX4_goes := fun _ h => List.mem_cons_of_mem _ (List.mem_append_right _ (h))
  have f7 : (Cond.fieldLink RX4 7 "ConcertUsherModel" "s" "[I").before _ s = true := hts _ (List.mem_of_getElem? (i := 1) rfl)
  refine lv_aload_n hx hb dX4_goes_0 rfl (lv_at hl 0 rfl) ?_
  refine va_get (D := g.1) (ci := 4) (v := .ref (a 1)) (C := RX4) (T := TX4) (N := 12) hx hb hts hiX4 hown hE.1 hP 0 rfl rfl 1 (by decide) f7 (fun _ h9 => h9) rfl dX4_goes_1 ?_
  refine lv_bipush (v := (nI 13)) hx hb dX4_goes_4 (by decide) ?_
  refine lv_iload_n hx hb dX4_goes_6 rfl (lv_at hl 1 rfl) ?_
  refine lv_iadd hx hb dX4_goes_7 ?_
  refine k_top (nI_add _ _) ?_
  refine k_iald (f := (ms m9)) hx hb hE hP 1 rfl (13 + r) rfl (by omega) (by decide) dX4_goes_8 ?_
  refine lv_iconst (v := (nI 1)) hx hb dX4_goes_9 (by decide) ?_
  refine lv_icmp_eq (tgt := 29) hx hb dX4_goes_10 (by decide) (fun c1 => ?_) (fun c1 => ?_)
  ·
    refine lv_iconst (v := (nI 1)) hx hb dX4_goes_29 (by decide) ?_
    refine lv_goto (tgt := 34) hx hb dX4_goes_30 (by decide) ?_
    have hP : va_P g.1 vwCl (wM g a m9) _ := hP
    have hD : va_D A (wM g a m9) := hD
    exact k_iret hx hb hr hlocks rfl (bI_t (Or.inl c1)).symm hP hD hS (Nat.le_of_ble_eq_true rfl) (Nat.le_of_ble_eq_true rfl) dX4_goes_34
  ·
    refine lv_aload_n hx hb dX4_goes_13 rfl (lv_at hl 0 rfl) ?_
    refine va_get (D := g.1) (ci := 4) (v := .ref (a 1)) (C := RX4) (T := TX4) (N := 12) hx hb hts hiX4 hown hE.1 hP 0 rfl rfl 1 (by decide) f7 (fun _ h9 => h9) rfl dX4_goes_14 ?_
    refine lv_bipush (v := (nI 69)) hx hb dX4_goes_17 (by decide) ?_
    refine lv_iload_n hx hb dX4_goes_19 rfl (lv_at hl 1 rfl) ?_
    refine lv_iload_n hx hb dX4_goes_20 rfl (lv_at hl 2 rfl) ?_
    refine k_Si (w0 := []) (w1 := []) (As := [.int (nI r), .int (nI c9)]) (r := (nI (6 * r + c9))) hF (c_X4_cellOf l g r c9) (va_cwS 2 hts gX4_goes_X4_cellOf rfl rfl rfl (by decide +kernel) ⟨Nat.le_of_ble_eq_true rfl, Nat.le_of_ble_eq_true rfl⟩) hE hP hD hS hA (List.Perm.refl _) (List.Perm.refl _) rfl hl.1 rfl (Nat.le_of_ble_eq_true rfl) dX4_goes_21 ⟨Nat.le_of_ble_eq_true rfl, Nat.le_of_ble_eq_true rfl⟩ (fun H locs hP hD hS => ?_)
    have hP : va_P g.1 vwCl (wM g a m9) _ := hP
    have hD : va_D A (wM g a m9) := hD
    refine lv_iadd hx hb dX4_goes_24 ?_
    refine k_top (nI_add _ _) ?_
    refine k_iald (f := (ms m9)) hx hb hE hP 1 rfl (69 + (6 * r + c9)) rfl (by omega) (by decide) dX4_goes_25 ?_
    refine lv_if_le (tgt := 33) hx hb dX4_goes_26 (by decide) (fun c2 => ?_) (fun c2 => ?_)
    ·
      refine lv_iconst (v := (nI 0)) hx hb dX4_goes_33 (by decide) ?_
      have hP : va_P g.1 vwCl (wM g a m9) _ := hP
      have hD : va_D A (wM g a m9) := hD
      exact k_iret hx hb hr hlocks rfl (bI_f (fun h9 => h9.elim c1 (fun z => z c2))).symm hP hD hS (Nat.le_of_ble_eq_true rfl) (Nat.le_of_ble_eq_true rfl) dX4_goes_34
    ·
      refine lv_iconst (v := (nI 1)) hx hb dX4_goes_29 (by decide) ?_
      refine lv_goto (tgt := 34) hx hb dX4_goes_30 (by decide) ?_
      have hP : va_P g.1 vwCl (wM g a m9) _ := hP
      have hD : va_D A (wM g a m9) := hD
      exact k_iret hx hb hr hlocks rfl (bI_t (Or.inr c2)).symm hP hD hS (Nat.le_of_ble_eq_true rfl) (Nat.le_of_ble_eq_true rfl) dX4_goes_34
set_option maxHeartbeats 4000000 in
set_option maxRecDepth 100000 in
theorem c_X4_wants (l : Launch) (g : kG) (a : Nat → Nat) (m9 : MSt) (r c9 : Nat) (hr8 : r < 8) (hc6 : c9 < 6) : KI l yX4_wants wsX4_wants ({ frames := 1, cells := 0, slots := 0, locals := 21 }) g [.ref (a 0), .int (nI r), .int (nI c9)] (wM g a m9) (bI (Mwants (ms m9) r c9)) (wM g a m9) 0 0 := by
  refine k_begin (cc := cX4_wants) (maxL := 3) (ret := (some .boolean)) (Qc := fun A => kQi g (bI (Mwants (ms m9) r c9)) (wM g a m9) A) (by decide) rfl (Nat.le_of_ble_eq_true rfl) ?_
  intro p e s m below meth c A ls hF hr hlocks hin hE hP hD hS hA hl
  obtain ⟨hx, hb, hml, hown, hts⟩ := id hF
  have hown : s.vm.findClass RX4 = some m.cls := hown
  have hl : lv_has ls 3 [(0, .ref (a 0)), (1, .int (nI r)), (2, .int (nI c9))] := hl
  have hiX4 : ∀ w ∈ wsX40, w ∈ wsX4_wants := fun _ h => List.mem_cons_of_mem _ (List.mem_append_right _ (h))
  have f7 : (Cond.fieldLink RX4 7 "ConcertUsherModel" "s" "[I").before _ s = true := hts _ (List.mem_of_getElem? (i := 1) rfl)
  refine lv_aload_n hx hb dX4_wants_0 rfl (lv_at hl 0 rfl) ?_
  refine va_get (D := g.1) (ci := 4) (v := .ref (a 1)) (C := RX4) (T := TX4) (N := 12) hx hb hts hiX4 hown hE.1 hP 0 rfl rfl 1 (by decide) f7 (fun _ h9 => h9) rfl dX4_wants_1 ?_
  refine lv_bipush (v := (nI 21)) hx hb dX4_wants_4 (by decide) ?_
  refine lv_iload_n hx hb dX4_wants_6 rfl (lv_at hl 1 rfl) ?_
  refine lv_iload_n hx hb dX4_wants_7 rfl (lv_at hl 2 rfl) ?_
  refine k_Si (w0 := []) (w1 := []) (As := [.int (nI r), .int (nI c9)]) (r := (nI (6 * r + c9))) hF (c_X4_cellOf l g r c9) (va_cwS 2 hts gX4_wants_X4_cellOf rfl rfl rfl (by decide +kernel) ⟨Nat.le_of_ble_eq_true rfl, Nat.le_of_ble_eq_true rfl⟩) hE hP hD hS hA (List.Perm.refl _) (List.Perm.refl _) rfl hl.1 rfl (Nat.le_of_ble_eq_true rfl) dX4_wants_8 ⟨Nat.le_of_ble_eq_true rfl, Nat.le_of_ble_eq_true rfl⟩ (fun H locs hP hD hS => ?_)
  have hP : va_P g.1 vwCl (wM g a m9) _ := hP
  have hD : va_D A (wM g a m9) := hD
  refine lv_iadd hx hb dX4_wants_11 ?_
  refine k_top (nI_add _ _) ?_
  refine k_iald (f := (ms m9)) hx hb hE hP 1 rfl (21 + (6 * r + c9)) rfl (by omega) (by decide) dX4_wants_12 ?_
  refine lv_if_le (tgt := 20) hx hb dX4_wants_13 (by decide) (fun c1 => ?_) (fun c1 => ?_)
  ·
    refine lv_iconst (v := (nI 0)) hx hb dX4_wants_20 (by decide) ?_
    have hP : va_P g.1 vwCl (wM g a m9) _ := hP
    have hD : va_D A (wM g a m9) := hD
    exact k_iret hx hb hr hlocks rfl (by first | (simp only [bI, if_pos c1, if_neg (not_not_intro c1)]; done) | (simp only [bI, if_pos c1, if_neg (not_not_intro c1)]; rfl) | rfl | (simp [bI, if_pos c1, if_neg (not_not_intro c1)]; done)) hP hD hS (Nat.le_of_ble_eq_true rfl) (Nat.le_of_ble_eq_true rfl) dX4_wants_21
  ·
    refine lv_iconst (v := (nI 1)) hx hb dX4_wants_16 (by decide) ?_
    refine lv_goto (tgt := 21) hx hb dX4_wants_17 (by decide) ?_
    have hP : va_P g.1 vwCl (wM g a m9) _ := hP
    have hD : va_D A (wM g a m9) := hD
    exact k_iret hx hb hr hlocks rfl (by first | (simp only [bI, if_neg c1, if_pos c1]; done) | (simp only [bI, if_neg c1, if_pos c1]; rfl) | rfl | (simp [bI, if_neg c1, if_pos c1]; done)) hP hD hS (Nat.le_of_ble_eq_true rfl) (Nat.le_of_ble_eq_true rfl) dX4_wants_21
set_option maxHeartbeats 4000000 in
set_option maxRecDepth 100000 in
theorem c_X4_entriesNow (l : Launch) (g : kG) (a : Nat → Nat) (m9 : MSt) : KI l yX4_entriesNow wsX4_entriesNow ({ frames := 0, cells := 0, slots := 0, locals := 0 }) g [.ref (a 0)] (wM g a m9) (Ment (ms m9) 48) (wM g a m9) 0 0 := by
  refine k_begin (cc := cX4_entriesNow) (maxL := 3) (ret := (some .int)) (Qc := fun A => kQi g (Ment (ms m9) 48) (wM g a m9) A) (by decide) rfl (Nat.le_of_ble_eq_true rfl) ?_
  intro p e s m below meth c A ls hF hr hlocks hin hE hP hD hS hA hl
  obtain ⟨hx, hb, hml, hown, hts⟩ := id hF
  have hown : s.vm.findClass RX4 = some m.cls := hown
  have hl : lv_has ls 3 [(0, .ref (a 0))] := hl
  have hiX4 : ∀ w ∈ wsX40, w ∈ wsX4_entriesNow := fun _ h => List.mem_cons_of_mem _ (List.mem_append_right _ (h))
  have f7 : (Cond.fieldLink RX4 7 "ConcertUsherModel" "s" "[I").before _ s = true := hts _ (List.mem_of_getElem? (i := 1) rfl)
  refine lv_iconst (v := (nI 0)) hx hb dX4_entriesNow_0 (by decide) ?_
  refine lv_istore_n (lv' := [(1, .int (nI 0)), (0, .ref (a 0))]) hx hb dX4_entriesNow_1 rfl hl (by decide) rfl (fun ls hl => ?_)
  refine lv_iconst (v := (nI 0)) hx hb dX4_entriesNow_2 (by decide) ?_
  refine lv_istore_n (lv' := [(2, .int (nI 0)), (1, .int (nI 0)), (0, .ref (a 0))]) hx hb dX4_entriesNow_3 rfl hl (by decide) rfl (fun ls hl => ?_)
  refine k_loop (N := 48) (Inv := fun (i : Nat) (H : Heap) (locs : List Loc) (ls : Array Slot) => va_P g.1 vwCl (wM g a m9) H ∧ va_D A (wM g a m9) ∧ va_S A s.heap H locs ∧ lv_has ls 3 [(2, .int (nI i)), (1, .int (Ment (ms m9) i)), (0, .ref (a 0))]) 0 (Nat.zero_le _) ⟨hP, hD, hS, lv_sub hl [0, 1, 2] rfl⟩ (fun i hle2 ih1 H locs ls hinv => ?_)
  obtain ⟨hP, hD, hS, hl⟩ := hinv
  refine lv_iload_n hx hb dX4_entriesNow_4 rfl (lv_at hl 0 rfl) ?_
  refine lv_bipush (v := (nI 48)) hx hb dX4_entriesNow_5 (by decide) ?_
  refine k_geN (tgt := 36) hx hb (by omega) (by decide) dX4_entriesNow_7 (by decide) (fun c3 => ?_) (fun c3 => ?_)
  ·
    obtain rfl : 48 = i := by omega
    refine lv_iload_n hx hb dX4_entriesNow_36 rfl (lv_at hl 1 rfl) ?_
    have hP : va_P g.1 vwCl (wM g a m9) _ := hP
    have hD : va_D A (wM g a m9) := hD
    exact k_iret hx hb hr hlocks rfl rfl hP hD hS (Nat.le_of_ble_eq_true rfl) (Nat.le_of_ble_eq_true rfl) dX4_entriesNow_37
  ·
    refine lv_iload_n hx hb dX4_entriesNow_10 rfl (lv_at hl 1 rfl) ?_
    refine lv_aload_n hx hb dX4_entriesNow_11 rfl (lv_at hl 2 rfl) ?_
    refine va_get (D := g.1) (ci := 4) (v := .ref (a 1)) (C := RX4) (T := TX4) (N := 12) hx hb hts hiX4 hown hE.1 hP 0 rfl rfl 1 (by decide) f7 (fun _ h9 => h9) rfl dX4_entriesNow_12 ?_
    refine lv_bipush (v := (nI 69)) hx hb dX4_entriesNow_15 (by decide) ?_
    refine lv_iload_n hx hb dX4_entriesNow_17 rfl (lv_at hl 0 rfl) ?_
    refine lv_iadd hx hb dX4_entriesNow_18 ?_
    refine k_top (nI_add _ _) ?_
    refine k_iald (f := (ms m9)) hx hb hE hP 1 rfl (69 + i) rfl (by omega) (by decide) dX4_entriesNow_19 ?_
    refine k_meet (x := .int (bI (¬ ((ms m9) (69 + i)) ≤ 0))) (pj := 28) (rest := [.int (Ment (ms m9) i)]) (fun J4 => ?_) ?_
    ·
      refine lv_if_le (tgt := 27) hx hb dX4_entriesNow_20 (by decide) (fun c5 => ?_) (fun c5 => ?_)
      ·
        refine lv_iconst (v := (nI 0)) hx hb dX4_entriesNow_27 (by decide) ?_
        exact k_top (by first | (simp only [bI, if_neg (Nat.not_le.mpr c3), if_pos (Nat.not_le.mpr c3), if_pos c5, if_neg (not_not_intro c5)]; done) | (simp only [bI, if_neg (Nat.not_le.mpr c3), if_pos (Nat.not_le.mpr c3), if_pos c5, if_neg (not_not_intro c5)]; rfl) | rfl | (simp [bI, if_neg (Nat.not_le.mpr c3), if_pos (Nat.not_le.mpr c3), if_pos c5, if_neg (not_not_intro c5)]; done)) J4
      ·
        refine lv_iconst (v := (nI 1)) hx hb dX4_entriesNow_23 (by decide) ?_
        refine lv_goto (tgt := 28) hx hb dX4_entriesNow_24 (by decide) ?_
        exact k_top (by first | (simp only [bI, if_neg (Nat.not_le.mpr c3), if_pos (Nat.not_le.mpr c3), if_neg c5, if_pos c5]; done) | (simp only [bI, if_neg (Nat.not_le.mpr c3), if_pos (Nat.not_le.mpr c3), if_neg c5, if_pos c5]; rfl) | rfl | (simp [bI, if_neg (Nat.not_le.mpr c3), if_pos (Nat.not_le.mpr c3), if_neg c5, if_pos c5]; done)) J4
    ·
      refine lv_iadd hx hb dX4_entriesNow_28 ?_
      refine lv_istore_n (lv' := [(1, .int ((Ment (ms m9) i) + (bI (¬ ((ms m9) (69 + i)) ≤ 0)))), (2, .int (nI i)), (0, .ref (a 0))]) hx hb dX4_entriesNow_29 rfl hl (by decide) rfl (fun ls hl => ?_)
      refine lv_iinc (v := (nI (i + 1))) (lv' := [(2, .int (nI (i + 1))), (1, .int ((Ment (ms m9) i) + (bI (¬ ((ms m9) (69 + i)) ≤ 0)))), (0, .ref (a 0))]) hx hb dX4_entriesNow_30 hl (k := 1) rfl (k_inc1 _) (by decide) rfl (fun ls hl => ?_)
      refine lv_goto (tgt := 4) hx hb dX4_entriesNow_33 (by decide) ?_
      have e6 : (Ment (ms m9) (i + 1)) = ((Ment (ms m9) i) + (bI (¬ ((ms m9) (69 + i)) ≤ 0))) := (by first | (simp only [Ment, bI, if_neg (Nat.not_le.mpr c3), if_pos (Nat.not_le.mpr c3)]; done) | (simp only [Ment, bI, if_neg (Nat.not_le.mpr c3), if_pos (Nat.not_le.mpr c3)]; rfl) | rfl | (simp [Ment, bI, if_neg (Nat.not_le.mpr c3), if_pos (Nat.not_le.mpr c3)]; done))
      exact ih1 _ _ _ (by omega) ⟨hP, hD, hS, (by rw [e6]; exact lv_sub hl [0, 1, 2] rfl)⟩
set_option maxHeartbeats 4000000 in
set_option maxRecDepth 100000 in
theorem c_X4_entries (l : Launch) (g : kG) (a : Nat → Nat) (m9 : MSt) (j : Nat) (hj : j ≤ 6) (hjm : msm m9 = nI j) : KI l yX4_entries wsX4_entries ({ frames := 1, cells := 0, slots := 0, locals := 22 }) g [.ref (a 0)] (wM g a m9) (Ment (ms m9) 48) (wM g a (sMth m9 (nI 0))) 0 0 := by
  refine k_begin (cc := cX4_entries) (maxL := 1) (ret := (some .int)) (Qc := fun A => kQi g (Ment (ms m9) 48) (wM g a (sMth m9 (nI 0))) A) (by decide) rfl (Nat.le_of_ble_eq_true rfl) ?_
  intro p e s m below meth c A ls hF hr hlocks hin hE hP hD hS hA hl
  obtain ⟨hx, hb, hml, hown, hts⟩ := id hF
  have hown : s.vm.findClass RX4 = some m.cls := hown
  have hl : lv_has ls 1 [(0, .ref (a 0))] := hl
  have hiX4 : ∀ w ∈ wsX40, w ∈ wsX4_entries := fun _ h => List.mem_cons_of_mem _ (List.mem_append_right _ (h))
  have f25 : (Cond.fieldLink RX4 25 "ConcertUsherModel" "thrown" "I").before _ s = true := hts _ (List.mem_of_getElem? (i := 1) rfl)
  refine lv_aload_n hx hb dX4_entries_0 rfl (lv_at hl 0 rfl) ?_
  refine lv_iconst (v := (nI 0)) hx hb dX4_entries_1 (by decide) ?_
  refine va_put (D := g.1) (ci := 4) (v := .int (nI 0)) (ty := .int) (C := RX4) (T := TX4) (N := 12) hx hb hts hiX4 tyX4 tyX4_ok nmX4 hown hE.1 hP hD hS 0 rfl rfl 0 (by decide) f25 (fun _ h9 => h9) rfl (tyX4_ok 0 (by decide)) rfl rfl (Nat.le_of_ble_eq_true rfl) dX4_entries_2 (fun H locs hP hD hS => ?_)
  have hP : va_P g.1 vwCl (wM g a (sMth m9 (nI 0))) _ := hP
  have hD : va_D A (wM g a (sMth m9 (nI 0))) := hD
  refine lv_aload_n hx hb dX4_entries_5 rfl (lv_at hl 0 rfl) ?_
  refine k_Vi (As := []) (r := (Ment (ms m9) 48)) hF (c_X4_entriesNow l g a (sMth m9 (nI 0))) (cwV 0 hts gX4_entries_X4_entriesNow rfl rfl rfl (by decide +kernel) ⟨Nat.le_of_ble_eq_true rfl, Nat.le_of_ble_eq_true rfl⟩) hE hP hD hS hA (k_pall _) ((k_pall _).symm) 0 rfl rfl rfl rfl hl.1 rfl (Nat.le_of_ble_eq_true rfl) dX4_entries_6 ⟨Nat.le_of_ble_eq_true rfl, Nat.le_of_ble_eq_true rfl⟩ (fun H locs hP hD hS => ?_)
  have hP : va_P g.1 vwCl (wM g a (sMth m9 (nI 0))) _ := hP
  have hD : va_D A (wM g a (sMth m9 (nI 0))) := hD
  have hP : va_P g.1 vwCl (wM g a (sMth m9 (nI 0))) _ := hP
  have hD : va_D A (wM g a (sMth m9 (nI 0))) := hD
  exact k_iret hx hb hr hlocks rfl rfl hP hD hS (Nat.le_of_ble_eq_true rfl) (Nat.le_of_ble_eq_true rfl) dX4_entries_9
set_option maxHeartbeats 4000000 in
set_option maxRecDepth 100000 in
theorem c_X4_rowsOf (l : Launch) (g : kG) (a : Nat → Nat) (m9 : MSt) (c9 : Nat) (hc6 : c9 < 6) : KI l yX4_rowsOf wsX4_rowsOf ({ frames := 2, cells := 0, slots := 0, locals := 43 }) g [.ref (a 0), .int (nI c9)] (wM g a m9) (Mrow (ms m9) c9 8) (wM g a m9) 0 0 := by
  refine k_begin (cc := cX4_rowsOf) (maxL := 4) (ret := (some .int)) (Qc := fun A => kQi g (Mrow (ms m9) c9 8) (wM g a m9) A) (by decide) rfl (Nat.le_of_ble_eq_true rfl) ?_
  intro p e s m below meth c A ls hF hr hlocks hin hE hP hD hS hA hl
  obtain ⟨hx, hb, hml, hown, hts⟩ := id hF
  have hown : s.vm.findClass RX4 = some m.cls := hown
  have hl : lv_has ls 4 [(0, .ref (a 0)), (1, .int (nI c9))] := hl
  refine lv_iconst (v := (nI 0)) hx hb dX4_rowsOf_0 (by decide) ?_
  refine lv_istore_n (lv' := [(2, .int (nI 0)), (0, .ref (a 0)), (1, .int (nI c9))]) hx hb dX4_rowsOf_1 rfl hl (by decide) rfl (fun ls hl => ?_)
  refine lv_iconst (v := (nI 0)) hx hb dX4_rowsOf_2 (by decide) ?_
  refine lv_istore_n (lv' := [(3, .int (nI 0)), (2, .int (nI 0)), (0, .ref (a 0)), (1, .int (nI c9))]) hx hb dX4_rowsOf_3 rfl hl (by decide) rfl (fun ls hl => ?_)
  refine k_loop (N := 8) (Inv := fun (i : Nat) (H : Heap) (locs : List Loc) (ls : Array Slot) => va_P g.1 vwCl (wM g a m9) H ∧ va_D A (wM g a m9) ∧ va_S A s.heap H locs ∧ lv_has ls 4 [(3, .int (nI i)), (2, .int (Mrow (ms m9) c9 i)), (0, .ref (a 0)), (1, .int (nI c9))]) 0 (Nat.zero_le _) ⟨hP, hD, hS, lv_sub hl [0, 1, 2, 3] rfl⟩ (fun i hle2 ih1 H locs ls hinv => ?_)
  obtain ⟨hP, hD, hS, hl⟩ := hinv
  refine lv_iload_n hx hb dX4_rowsOf_4 rfl (lv_at hl 0 rfl) ?_
  refine lv_bipush (v := (nI 8)) hx hb dX4_rowsOf_5 (by decide) ?_
  refine k_geN (tgt := 35) hx hb (by omega) (by decide) dX4_rowsOf_7 (by decide) (fun c3 => ?_) (fun c3 => ?_)
  ·
    obtain rfl : 8 = i := by omega
    refine lv_iload_n hx hb dX4_rowsOf_35 rfl (lv_at hl 1 rfl) ?_
    have hP : va_P g.1 vwCl (wM g a m9) _ := hP
    have hD : va_D A (wM g a m9) := hD
    exact k_iret hx hb hr hlocks rfl rfl hP hD hS (Nat.le_of_ble_eq_true rfl) (Nat.le_of_ble_eq_true rfl) dX4_rowsOf_36
  ·
    refine lv_iload_n hx hb dX4_rowsOf_10 rfl (lv_at hl 1 rfl) ?_
    refine lv_aload_n hx hb dX4_rowsOf_11 rfl (lv_at hl 2 rfl) ?_
    refine lv_iload_n hx hb dX4_rowsOf_12 rfl (lv_at hl 0 rfl) ?_
    refine lv_iload_n hx hb dX4_rowsOf_13 rfl (lv_at hl 3 rfl) ?_
    refine k_Vi (As := [.int (nI i), .int (nI c9)]) (r := (bI (Mgoes (ms m9) i c9))) hF (c_X4_goes l g a m9 i c9 (by omega) (by omega)) (cwV 2 hts gX4_rowsOf_X4_goes rfl rfl rfl (by decide +kernel) ⟨Nat.le_of_ble_eq_true rfl, Nat.le_of_ble_eq_true rfl⟩) hE hP hD hS hA (k_pall _) ((k_pall _).symm) 0 rfl rfl rfl rfl hl.1 rfl (Nat.le_of_ble_eq_true rfl) dX4_rowsOf_14 ⟨Nat.le_of_ble_eq_true rfl, Nat.le_of_ble_eq_true rfl⟩ (fun H locs hP hD hS => ?_)
    have hP : va_P g.1 vwCl (wM g a m9) _ := hP
    have hD : va_D A (wM g a m9) := hD
    refine k_meet (x := .int (if Mgoes (ms m9) i c9 then (nI 1 <<< (nI i &&& 31)) else nI 0)) (pj := 27) (rest := [.int (Mrow (ms m9) c9 i)]) (fun J4 => ?_) ?_
    ·
      refine k_ifeqB (tgt := 26) hx hb dX4_rowsOf_17 (by decide) (fun c5 => ?_) (fun c5 => ?_)
      ·
        refine lv_iconst (v := (nI 0)) hx hb dX4_rowsOf_26 (by decide) ?_
        exact k_top (by first | (simp only [bI, if_neg (Nat.not_le.mpr c3), if_pos (Nat.not_le.mpr c3), if_neg c5, if_pos c5]; done) | (simp only [bI, if_neg (Nat.not_le.mpr c3), if_pos (Nat.not_le.mpr c3), if_neg c5, if_pos c5]; rfl) | rfl | (simp [bI, if_neg (Nat.not_le.mpr c3), if_pos (Nat.not_le.mpr c3), if_neg c5, if_pos c5]; done)) J4
      ·
        refine lv_iconst (v := (nI 1)) hx hb dX4_rowsOf_20 (by decide) ?_
        refine lv_iload_n hx hb dX4_rowsOf_21 rfl (lv_at hl 0 rfl) ?_
        refine lv_ishl hx hb dX4_rowsOf_22 ?_
        refine lv_goto (tgt := 27) hx hb dX4_rowsOf_23 (by decide) ?_
        exact k_top (by first | (simp only [bI, if_neg (Nat.not_le.mpr c3), if_pos (Nat.not_le.mpr c3), if_pos c5, if_neg (not_not_intro c5)]; done) | (simp only [bI, if_neg (Nat.not_le.mpr c3), if_pos (Nat.not_le.mpr c3), if_pos c5, if_neg (not_not_intro c5)]; rfl) | rfl | (simp [bI, if_neg (Nat.not_le.mpr c3), if_pos (Nat.not_le.mpr c3), if_pos c5, if_neg (not_not_intro c5)]; done)) J4
    ·
      refine lv_ior hx hb dX4_rowsOf_27 ?_
      refine lv_istore_n (lv' := [(2, .int ((Mrow (ms m9) c9 i) ||| (if Mgoes (ms m9) i c9 then (nI 1 <<< (nI i &&& 31)) else nI 0))), (3, .int (nI i)), (0, .ref (a 0)), (1, .int (nI c9))]) hx hb dX4_rowsOf_28 rfl hl (by decide) rfl (fun ls hl => ?_)
      refine lv_iinc (v := (nI (i + 1))) (lv' := [(3, .int (nI (i + 1))), (2, .int ((Mrow (ms m9) c9 i) ||| (if Mgoes (ms m9) i c9 then (nI 1 <<< (nI i &&& 31)) else nI 0))), (0, .ref (a 0)), (1, .int (nI c9))]) hx hb dX4_rowsOf_29 hl (k := 1) rfl (k_inc1 _) (by decide) rfl (fun ls hl => ?_)
      refine lv_goto (tgt := 4) hx hb dX4_rowsOf_32 (by decide) ?_
      have e6 : (Mrow (ms m9) c9 (i + 1)) = ((Mrow (ms m9) c9 i) ||| (if Mgoes (ms m9) i c9 then (nI 1 <<< (nI i &&& 31)) else nI 0)) := (by first | (simp only [Mrow, bI, if_neg (Nat.not_le.mpr c3), if_pos (Nat.not_le.mpr c3)]; done) | (simp only [Mrow, bI, if_neg (Nat.not_le.mpr c3), if_pos (Nat.not_le.mpr c3)]; rfl) | rfl | (simp [Mrow, bI, if_neg (Nat.not_le.mpr c3), if_pos (Nat.not_le.mpr c3)]; done))
      exact ih1 _ _ _ (by omega) ⟨hP, hD, hS, (by rw [e6]; exact lv_sub hl [0, 1, 2, 3] rfl)⟩
set_option maxHeartbeats 4000000 in
set_option maxRecDepth 100000 in
theorem c_X4_wantedOf (l : Launch) (g : kG) (a : Nat → Nat) (m9 : MSt) (c9 : Nat) (hc6 : c9 < 6) : KI l yX4_wantedOf wsX4_wantedOf ({ frames := 2, cells := 0, slots := 0, locals := 43 }) g [.ref (a 0), .int (nI c9)] (wM g a m9) (Mwan (ms m9) c9 8) (wM g a m9) 0 0 := by
  refine k_begin (cc := cX4_wantedOf) (maxL := 4) (ret := (some .int)) (Qc := fun A => kQi g (Mwan (ms m9) c9 8) (wM g a m9) A) (by decide) rfl (Nat.le_of_ble_eq_true rfl) ?_
  intro p e s m below meth c A ls hF hr hlocks hin hE hP hD hS hA hl
  obtain ⟨hx, hb, hml, hown, hts⟩ := id hF
  have hown : s.vm.findClass RX4 = some m.cls := hown
  have hl : lv_has ls 4 [(0, .ref (a 0)), (1, .int (nI c9))] := hl
  refine lv_iconst (v := (nI 0)) hx hb dX4_wantedOf_0 (by decide) ?_
  refine lv_istore_n (lv' := [(2, .int (nI 0)), (0, .ref (a 0)), (1, .int (nI c9))]) hx hb dX4_wantedOf_1 rfl hl (by decide) rfl (fun ls hl => ?_)
  refine lv_iconst (v := (nI 0)) hx hb dX4_wantedOf_2 (by decide) ?_
  refine lv_istore_n (lv' := [(3, .int (nI 0)), (2, .int (nI 0)), (0, .ref (a 0)), (1, .int (nI c9))]) hx hb dX4_wantedOf_3 rfl hl (by decide) rfl (fun ls hl => ?_)
  refine k_loop (N := 8) (Inv := fun (i : Nat) (H : Heap) (locs : List Loc) (ls : Array Slot) => va_P g.1 vwCl (wM g a m9) H ∧ va_D A (wM g a m9) ∧ va_S A s.heap H locs ∧ lv_has ls 4 [(3, .int (nI i)), (2, .int (Mwan (ms m9) c9 i)), (0, .ref (a 0)), (1, .int (nI c9))]) 0 (Nat.zero_le _) ⟨hP, hD, hS, lv_sub hl [0, 1, 2, 3] rfl⟩ (fun i hle2 ih1 H locs ls hinv => ?_)
  obtain ⟨hP, hD, hS, hl⟩ := hinv
  refine lv_iload_n hx hb dX4_wantedOf_4 rfl (lv_at hl 0 rfl) ?_
  refine lv_bipush (v := (nI 8)) hx hb dX4_wantedOf_5 (by decide) ?_
  refine k_geN (tgt := 35) hx hb (by omega) (by decide) dX4_wantedOf_7 (by decide) (fun c3 => ?_) (fun c3 => ?_)
  ·
    obtain rfl : 8 = i := by omega
    refine lv_iload_n hx hb dX4_wantedOf_35 rfl (lv_at hl 1 rfl) ?_
    have hP : va_P g.1 vwCl (wM g a m9) _ := hP
    have hD : va_D A (wM g a m9) := hD
    exact k_iret hx hb hr hlocks rfl rfl hP hD hS (Nat.le_of_ble_eq_true rfl) (Nat.le_of_ble_eq_true rfl) dX4_wantedOf_36
  ·
    refine lv_iload_n hx hb dX4_wantedOf_10 rfl (lv_at hl 1 rfl) ?_
    refine lv_aload_n hx hb dX4_wantedOf_11 rfl (lv_at hl 2 rfl) ?_
    refine lv_iload_n hx hb dX4_wantedOf_12 rfl (lv_at hl 0 rfl) ?_
    refine lv_iload_n hx hb dX4_wantedOf_13 rfl (lv_at hl 3 rfl) ?_
    refine k_Vi (As := [.int (nI i), .int (nI c9)]) (r := (bI (Mwants (ms m9) i c9))) hF (c_X4_wants l g a m9 i c9 (by omega) (by omega)) (cwV 2 hts gX4_wantedOf_X4_wants rfl rfl rfl (by decide +kernel) ⟨Nat.le_of_ble_eq_true rfl, Nat.le_of_ble_eq_true rfl⟩) hE hP hD hS hA (k_pall _) ((k_pall _).symm) 0 rfl rfl rfl rfl hl.1 rfl (Nat.le_of_ble_eq_true rfl) dX4_wantedOf_14 ⟨Nat.le_of_ble_eq_true rfl, Nat.le_of_ble_eq_true rfl⟩ (fun H locs hP hD hS => ?_)
    have hP : va_P g.1 vwCl (wM g a m9) _ := hP
    have hD : va_D A (wM g a m9) := hD
    refine k_meet (x := .int (if Mwants (ms m9) i c9 then (nI 1 <<< (nI i &&& 31)) else nI 0)) (pj := 27) (rest := [.int (Mwan (ms m9) c9 i)]) (fun J4 => ?_) ?_
    ·
      refine k_ifeqB (tgt := 26) hx hb dX4_wantedOf_17 (by decide) (fun c5 => ?_) (fun c5 => ?_)
      ·
        refine lv_iconst (v := (nI 0)) hx hb dX4_wantedOf_26 (by decide) ?_
        exact k_top (by first | (simp only [bI, if_neg (Nat.not_le.mpr c3), if_pos (Nat.not_le.mpr c3), if_neg c5, if_pos c5]; done) | (simp only [bI, if_neg (Nat.not_le.mpr c3), if_pos (Nat.not_le.mpr c3), if_neg c5, if_pos c5]; rfl) | rfl | (simp [bI, if_neg (Nat.not_le.mpr c3), if_pos (Nat.not_le.mpr c3), if_neg c5, if_pos c5]; done)) J4
      ·
        refine lv_iconst (v := (nI 1)) hx hb dX4_wantedOf_20 (by decide) ?_
        refine lv_iload_n hx hb dX4_wantedOf_21 rfl (lv_at hl 0 rfl) ?_
        refine lv_ishl hx hb dX4_wantedOf_22 ?_
        refine lv_goto (tgt := 27) hx hb dX4_wantedOf_23 (by decide) ?_
        exact k_top (by first | (simp only [bI, if_neg (Nat.not_le.mpr c3), if_pos (Nat.not_le.mpr c3), if_pos c5, if_neg (not_not_intro c5)]; done) | (simp only [bI, if_neg (Nat.not_le.mpr c3), if_pos (Nat.not_le.mpr c3), if_pos c5, if_neg (not_not_intro c5)]; rfl) | rfl | (simp [bI, if_neg (Nat.not_le.mpr c3), if_pos (Nat.not_le.mpr c3), if_pos c5, if_neg (not_not_intro c5)]; done)) J4
    ·
      refine lv_ior hx hb dX4_wantedOf_27 ?_
      refine lv_istore_n (lv' := [(2, .int ((Mwan (ms m9) c9 i) ||| (if Mwants (ms m9) i c9 then (nI 1 <<< (nI i &&& 31)) else nI 0))), (3, .int (nI i)), (0, .ref (a 0)), (1, .int (nI c9))]) hx hb dX4_wantedOf_28 rfl hl (by decide) rfl (fun ls hl => ?_)
      refine lv_iinc (v := (nI (i + 1))) (lv' := [(3, .int (nI (i + 1))), (2, .int ((Mwan (ms m9) c9 i) ||| (if Mwants (ms m9) i c9 then (nI 1 <<< (nI i &&& 31)) else nI 0))), (0, .ref (a 0)), (1, .int (nI c9))]) hx hb dX4_wantedOf_29 hl (k := 1) rfl (k_inc1 _) (by decide) rfl (fun ls hl => ?_)
      refine lv_goto (tgt := 4) hx hb dX4_wantedOf_32 (by decide) ?_
      have e6 : (Mwan (ms m9) c9 (i + 1)) = ((Mwan (ms m9) c9 i) ||| (if Mwants (ms m9) i c9 then (nI 1 <<< (nI i &&& 31)) else nI 0)) := (by first | (simp only [Mwan, bI, if_neg (Nat.not_le.mpr c3), if_pos (Nat.not_le.mpr c3)]; done) | (simp only [Mwan, bI, if_neg (Nat.not_le.mpr c3), if_pos (Nat.not_le.mpr c3)]; rfl) | rfl | (simp [Mwan, bI, if_neg (Nat.not_le.mpr c3), if_pos (Nat.not_le.mpr c3)]; done))
      exact ih1 _ _ _ (by omega) ⟨hP, hD, hS, (by rw [e6]; exact lv_sub hl [0, 1, 2, 3] rfl)⟩
set_option maxHeartbeats 4000000 in
set_option maxRecDepth 100000 in
theorem c_X4_rows (l : Launch) (g : kG) (a : Nat → Nat) (m9 : MSt) (j : Nat) (hj : j ≤ 6) (hjm : msm m9 = nI j) (con : Int32) : KI l yX4_rows wsX4_rows ({ frames := 3, cells := 0, slots := 0, locals := 66 }) g [.ref (a 0), .int con] (wM g a m9) (MrowsR con m9) (wM g a (Mcon con m9)) 0 0 := by
  refine k_begin (cc := cX4_rows) (maxL := 2) (ret := (some .int)) (Qc := fun A => kQi g (MrowsR con m9) (wM g a (Mcon con m9)) A) (by decide) rfl (Nat.le_of_ble_eq_true rfl) ?_
  intro p e s m below meth c A ls hF hr hlocks hin hE hP hD hS hA hl
  obtain ⟨hx, hb, hml, hown, hts⟩ := id hF
  have hown : s.vm.findClass RX4 = some m.cls := hown
  have hl : lv_has ls 2 [(0, .ref (a 0)), (1, .int con)] := hl
  have hiX4 : ∀ w ∈ wsX40, w ∈ wsX4_rows := fun _ h => List.mem_cons_of_mem _ (List.mem_append_right _ (h))
  have f25 : (Cond.fieldLink RX4 25 "ConcertUsherModel" "thrown" "I").before _ s = true := hts _ (List.mem_of_getElem? (i := 1) rfl)
  refine lv_aload_n hx hb dX4_rows_0 rfl (lv_at hl 0 rfl) ?_
  refine lv_iconst (v := (nI 0)) hx hb dX4_rows_1 (by decide) ?_
  refine va_put (D := g.1) (ci := 4) (v := .int (nI 0)) (ty := .int) (C := RX4) (T := TX4) (N := 12) hx hb hts hiX4 tyX4 tyX4_ok nmX4 hown hE.1 hP hD hS 0 rfl rfl 0 (by decide) f25 (fun _ h9 => h9) rfl (tyX4_ok 0 (by decide)) rfl rfl (Nat.le_of_ble_eq_true rfl) dX4_rows_2 (fun H locs hP hD hS => ?_)
  have hP : va_P g.1 vwCl (wM g a (sMth m9 (nI 0))) _ := hP
  have hD : va_D A (wM g a (sMth m9 (nI 0))) := hD
  refine lv_iload_n hx hb dX4_rows_5 rfl (lv_at hl 1 rfl) ?_
  refine k_Si (w0 := []) (w1 := []) (As := [.int con]) (r := (bI (nI 0 ≤ con ∧ con ≤ nI 5))) hF (c_X4_isConcert l g con) (va_cwS 1 hts gX4_rows_X4_isConcert rfl rfl rfl (by decide +kernel) ⟨Nat.le_of_ble_eq_true rfl, Nat.le_of_ble_eq_true rfl⟩) hE hP hD hS hA (List.Perm.refl _) (List.Perm.refl _) rfl hl.1 rfl (Nat.le_of_ble_eq_true rfl) dX4_rows_6 ⟨Nat.le_of_ble_eq_true rfl, Nat.le_of_ble_eq_true rfl⟩ (fun H locs hP hD hS => ?_)
  have hP : va_P g.1 vwCl (wM g a (sMth m9 (nI 0))) _ := hP
  have hD : va_D A (wM g a (sMth m9 (nI 0))) := hD
  refine k_ifeqB (tgt := 20) hx hb dX4_rows_9 (by decide) (fun c1 => ?_) (fun c1 => ?_)
  ·
    refine lv_aload_n hx hb dX4_rows_20 rfl (lv_at hl 0 rfl) ?_
    refine lv_iconst (v := (nI 1)) hx hb dX4_rows_21 (by decide) ?_
    refine k_Vi (As := [.int (nI 1)]) (r := (nI 0)) hF (c_X4_fails l g a (sMth m9 (nI 0)) (nI 1)) (cwV 1 hts gX4_rows_X4_fails rfl rfl rfl (by decide +kernel) ⟨Nat.le_of_ble_eq_true rfl, Nat.le_of_ble_eq_true rfl⟩) hE hP hD hS hA (k_pall _) ((k_pall _).symm) 0 rfl rfl rfl rfl hl.1 rfl (Nat.le_of_ble_eq_true rfl) dX4_rows_22 ⟨Nat.le_of_ble_eq_true rfl, Nat.le_of_ble_eq_true rfl⟩ (fun H locs hP hD hS => ?_)
    have hP : va_P g.1 vwCl (wM g a (sMth m9 (nI 1))) _ := hP
    have hD : va_D A (wM g a (sMth m9 (nI 1))) := hD
    have e2 : (Mcon con m9) = (sMth m9 (nI 1)) := (by first | (simp only [Mcon, MrowsR, if_neg c1, if_pos c1]; done) | (simp only [Mcon, MrowsR, if_neg c1, if_pos c1]; rfl) | rfl | (simp [Mcon, MrowsR, if_neg c1, if_pos c1]; done))
    have hP : va_P g.1 vwCl (wM g a (Mcon con m9)) H := by rw [e2]; exact hP
    have hD : va_D A (wM g a (Mcon con m9)) := by rw [e2]; exact hD
    exact k_iret hx hb hr hlocks rfl (by first | (simp only [Mcon, MrowsR, bI, if_neg c1, if_pos c1]; done) | (simp only [Mcon, MrowsR, bI, if_neg c1, if_pos c1]; rfl) | rfl | (simp [Mcon, MrowsR, bI, if_neg c1, if_pos c1]; done)) hP hD hS (Nat.le_of_ble_eq_true rfl) (Nat.le_of_ble_eq_true rfl) dX4_rows_25
  ·
    obtain ⟨c9, hc9, hc9e⟩ := in_nat (by decide) (by decide) c1
    have hc9c : con.toNatClampNeg = c9 := cl_eq hc9e (by omega)
    refine lv_aload_n hx hb dX4_rows_12 rfl (lv_at hl 0 rfl) ?_
    refine lv_iload_n hx hb dX4_rows_13 rfl (lv_at hl 1 rfl) ?_
    refine k_top hc9e ?_
    refine k_Vi (As := [.int (nI c9)]) (r := (Mrow (ms m9) c9 8)) hF (c_X4_rowsOf l g a (sMth m9 (nI 0)) c9 (by omega)) (cwV 1 hts gX4_rows_X4_rowsOf rfl rfl rfl (by decide +kernel) ⟨Nat.le_of_ble_eq_true rfl, Nat.le_of_ble_eq_true rfl⟩) hE hP hD hS hA (k_pall _) ((k_pall _).symm) 0 rfl rfl rfl rfl hl.1 rfl (Nat.le_of_ble_eq_true rfl) dX4_rows_14 ⟨Nat.le_of_ble_eq_true rfl, Nat.le_of_ble_eq_true rfl⟩ (fun H locs hP hD hS => ?_)
    have hP : va_P g.1 vwCl (wM g a (sMth m9 (nI 0))) _ := hP
    have hD : va_D A (wM g a (sMth m9 (nI 0))) := hD
    refine lv_goto (tgt := 25) hx hb dX4_rows_17 (by decide) ?_
    have e3 : (Mcon con m9) = (sMth m9 (nI 0)) := (by first | (simp only [Mcon, MrowsR, if_pos c1, if_neg (not_not_intro c1), hc9c]; done) | (simp only [Mcon, MrowsR, if_pos c1, if_neg (not_not_intro c1), hc9c]; rfl) | rfl | (simp [Mcon, MrowsR, if_pos c1, if_neg (not_not_intro c1), hc9c]; done))
    have hP : va_P g.1 vwCl (wM g a (Mcon con m9)) H := by rw [e3]; exact hP
    have hD : va_D A (wM g a (Mcon con m9)) := by rw [e3]; exact hD
    exact k_iret hx hb hr hlocks rfl (by first | (simp only [Mcon, MrowsR, bI, if_pos c1, if_neg (not_not_intro c1), hc9c]; done) | (simp only [Mcon, MrowsR, bI, if_pos c1, if_neg (not_not_intro c1), hc9c]; rfl) | rfl | (simp [Mcon, MrowsR, bI, if_pos c1, if_neg (not_not_intro c1), hc9c]; done)) hP hD hS (Nat.le_of_ble_eq_true rfl) (Nat.le_of_ble_eq_true rfl) dX4_rows_25
set_option maxHeartbeats 4000000 in
set_option maxRecDepth 100000 in
theorem c_X4_wanted (l : Launch) (g : kG) (a : Nat → Nat) (m9 : MSt) (j : Nat) (hj : j ≤ 6) (hjm : msm m9 = nI j) (con : Int32) : KI l yX4_wanted wsX4_wanted ({ frames := 3, cells := 0, slots := 0, locals := 66 }) g [.ref (a 0), .int con] (wM g a m9) (MwanR con m9) (wM g a (Mcon con m9)) 0 0 := by
  refine k_begin (cc := cX4_wanted) (maxL := 2) (ret := (some .int)) (Qc := fun A => kQi g (MwanR con m9) (wM g a (Mcon con m9)) A) (by decide) rfl (Nat.le_of_ble_eq_true rfl) ?_
  intro p e s m below meth c A ls hF hr hlocks hin hE hP hD hS hA hl
  obtain ⟨hx, hb, hml, hown, hts⟩ := id hF
  have hown : s.vm.findClass RX4 = some m.cls := hown
  have hl : lv_has ls 2 [(0, .ref (a 0)), (1, .int con)] := hl
  have hiX4 : ∀ w ∈ wsX40, w ∈ wsX4_wanted := fun _ h => List.mem_cons_of_mem _ (List.mem_append_right _ (h))
  have f25 : (Cond.fieldLink RX4 25 "ConcertUsherModel" "thrown" "I").before _ s = true := hts _ (List.mem_of_getElem? (i := 1) rfl)
  refine lv_aload_n hx hb dX4_wanted_0 rfl (lv_at hl 0 rfl) ?_
  refine lv_iconst (v := (nI 0)) hx hb dX4_wanted_1 (by decide) ?_
  refine va_put (D := g.1) (ci := 4) (v := .int (nI 0)) (ty := .int) (C := RX4) (T := TX4) (N := 12) hx hb hts hiX4 tyX4 tyX4_ok nmX4 hown hE.1 hP hD hS 0 rfl rfl 0 (by decide) f25 (fun _ h9 => h9) rfl (tyX4_ok 0 (by decide)) rfl rfl (Nat.le_of_ble_eq_true rfl) dX4_wanted_2 (fun H locs hP hD hS => ?_)
  have hP : va_P g.1 vwCl (wM g a (sMth m9 (nI 0))) _ := hP
  have hD : va_D A (wM g a (sMth m9 (nI 0))) := hD
  refine lv_iload_n hx hb dX4_wanted_5 rfl (lv_at hl 1 rfl) ?_
  refine k_Si (w0 := []) (w1 := []) (As := [.int con]) (r := (bI (nI 0 ≤ con ∧ con ≤ nI 5))) hF (c_X4_isConcert l g con) (va_cwS 1 hts gX4_wanted_X4_isConcert rfl rfl rfl (by decide +kernel) ⟨Nat.le_of_ble_eq_true rfl, Nat.le_of_ble_eq_true rfl⟩) hE hP hD hS hA (List.Perm.refl _) (List.Perm.refl _) rfl hl.1 rfl (Nat.le_of_ble_eq_true rfl) dX4_wanted_6 ⟨Nat.le_of_ble_eq_true rfl, Nat.le_of_ble_eq_true rfl⟩ (fun H locs hP hD hS => ?_)
  have hP : va_P g.1 vwCl (wM g a (sMth m9 (nI 0))) _ := hP
  have hD : va_D A (wM g a (sMth m9 (nI 0))) := hD
  refine k_ifeqB (tgt := 20) hx hb dX4_wanted_9 (by decide) (fun c1 => ?_) (fun c1 => ?_)
  ·
    refine lv_aload_n hx hb dX4_wanted_20 rfl (lv_at hl 0 rfl) ?_
    refine lv_iconst (v := (nI 1)) hx hb dX4_wanted_21 (by decide) ?_
    refine k_Vi (As := [.int (nI 1)]) (r := (nI 0)) hF (c_X4_fails l g a (sMth m9 (nI 0)) (nI 1)) (cwV 1 hts gX4_wanted_X4_fails rfl rfl rfl (by decide +kernel) ⟨Nat.le_of_ble_eq_true rfl, Nat.le_of_ble_eq_true rfl⟩) hE hP hD hS hA (k_pall _) ((k_pall _).symm) 0 rfl rfl rfl rfl hl.1 rfl (Nat.le_of_ble_eq_true rfl) dX4_wanted_22 ⟨Nat.le_of_ble_eq_true rfl, Nat.le_of_ble_eq_true rfl⟩ (fun H locs hP hD hS => ?_)
    have hP : va_P g.1 vwCl (wM g a (sMth m9 (nI 1))) _ := hP
    have hD : va_D A (wM g a (sMth m9 (nI 1))) := hD
    have e2 : (Mcon con m9) = (sMth m9 (nI 1)) := (by first | (simp only [Mcon, MwanR, if_neg c1, if_pos c1]; done) | (simp only [Mcon, MwanR, if_neg c1, if_pos c1]; rfl) | rfl | (simp [Mcon, MwanR, if_neg c1, if_pos c1]; done))
    have hP : va_P g.1 vwCl (wM g a (Mcon con m9)) H := by rw [e2]; exact hP
    have hD : va_D A (wM g a (Mcon con m9)) := by rw [e2]; exact hD
    exact k_iret hx hb hr hlocks rfl (by first | (simp only [Mcon, MwanR, bI, if_neg c1, if_pos c1]; done) | (simp only [Mcon, MwanR, bI, if_neg c1, if_pos c1]; rfl) | rfl | (simp [Mcon, MwanR, bI, if_neg c1, if_pos c1]; done)) hP hD hS (Nat.le_of_ble_eq_true rfl) (Nat.le_of_ble_eq_true rfl) dX4_wanted_25
  ·
    obtain ⟨c9, hc9, hc9e⟩ := in_nat (by decide) (by decide) c1
    have hc9c : con.toNatClampNeg = c9 := cl_eq hc9e (by omega)
    refine lv_aload_n hx hb dX4_wanted_12 rfl (lv_at hl 0 rfl) ?_
    refine lv_iload_n hx hb dX4_wanted_13 rfl (lv_at hl 1 rfl) ?_
    refine k_top hc9e ?_
    refine k_Vi (As := [.int (nI c9)]) (r := (Mwan (ms m9) c9 8)) hF (c_X4_wantedOf l g a (sMth m9 (nI 0)) c9 (by omega)) (cwV 1 hts gX4_wanted_X4_wantedOf rfl rfl rfl (by decide +kernel) ⟨Nat.le_of_ble_eq_true rfl, Nat.le_of_ble_eq_true rfl⟩) hE hP hD hS hA (k_pall _) ((k_pall _).symm) 0 rfl rfl rfl rfl hl.1 rfl (Nat.le_of_ble_eq_true rfl) dX4_wanted_14 ⟨Nat.le_of_ble_eq_true rfl, Nat.le_of_ble_eq_true rfl⟩ (fun H locs hP hD hS => ?_)
    have hP : va_P g.1 vwCl (wM g a (sMth m9 (nI 0))) _ := hP
    have hD : va_D A (wM g a (sMth m9 (nI 0))) := hD
    refine lv_goto (tgt := 25) hx hb dX4_wanted_17 (by decide) ?_
    have e3 : (Mcon con m9) = (sMth m9 (nI 0)) := (by first | (simp only [Mcon, MwanR, if_pos c1, if_neg (not_not_intro c1), hc9c]; done) | (simp only [Mcon, MwanR, if_pos c1, if_neg (not_not_intro c1), hc9c]; rfl) | rfl | (simp [Mcon, MwanR, if_pos c1, if_neg (not_not_intro c1), hc9c]; done))
    have hP : va_P g.1 vwCl (wM g a (Mcon con m9)) H := by rw [e3]; exact hP
    have hD : va_D A (wM g a (Mcon con m9)) := by rw [e3]; exact hD
    exact k_iret hx hb hr hlocks rfl (by first | (simp only [Mcon, MwanR, bI, if_pos c1, if_neg (not_not_intro c1), hc9c]; done) | (simp only [Mcon, MwanR, bI, if_pos c1, if_neg (not_not_intro c1), hc9c]; rfl) | rfl | (simp [Mcon, MwanR, bI, if_pos c1, if_neg (not_not_intro c1), hc9c]; done)) hP hD hS (Nat.le_of_ble_eq_true rfl) (Nat.le_of_ble_eq_true rfl) dX4_wanted_25
set_option maxHeartbeats 4000000 in
set_option maxRecDepth 100000 in
theorem c_X4_isOpen (l : Launch) (g : kG) (a : Nat → Nat) (m9 : MSt) (j : Nat) (hj : j ≤ 6) (hjm : msm m9 = nI j) (row : Int32) : KI l yX4_isOpen wsX4_isOpen ({ frames := 1, cells := 0, slots := 0, locals := 22 }) g [.ref (a 0), .int row] (wM g a m9) (MopenR row m9) (wM g a (MopenQ row m9)) 0 0 := by
  refine k_begin (cc := cX4_isOpen) (maxL := 2) (ret := (some .boolean)) (Qc := fun A => kQi g (MopenR row m9) (wM g a (MopenQ row m9)) A) (by decide) rfl (Nat.le_of_ble_eq_true rfl) ?_
  intro p e s m below meth c A ls hF hr hlocks hin hE hP hD hS hA hl
  obtain ⟨hx, hb, hml, hown, hts⟩ := id hF
  have hown : s.vm.findClass RX4 = some m.cls := hown
  have hl : lv_has ls 2 [(0, .ref (a 0)), (1, .int row)] := hl
  have hiX4 : ∀ w ∈ wsX40, w ∈ wsX4_isOpen := fun _ h => List.mem_cons_of_mem _ (List.mem_append_right _ (h))
  have f25 : (Cond.fieldLink RX4 25 "ConcertUsherModel" "thrown" "I").before _ s = true := hts _ (List.mem_of_getElem? (i := 1) rfl)
  have f7 : (Cond.fieldLink RX4 7 "ConcertUsherModel" "s" "[I").before _ s = true := hts _ (List.mem_of_getElem? (i := 2) rfl)
  refine lv_aload_n hx hb dX4_isOpen_0 rfl (lv_at hl 0 rfl) ?_
  refine lv_iconst (v := (nI 0)) hx hb dX4_isOpen_1 (by decide) ?_
  refine va_put (D := g.1) (ci := 4) (v := .int (nI 0)) (ty := .int) (C := RX4) (T := TX4) (N := 12) hx hb hts hiX4 tyX4 tyX4_ok nmX4 hown hE.1 hP hD hS 0 rfl rfl 0 (by decide) f25 (fun _ h9 => h9) rfl (tyX4_ok 0 (by decide)) rfl rfl (Nat.le_of_ble_eq_true rfl) dX4_isOpen_2 (fun H locs hP hD hS => ?_)
  have hP : va_P g.1 vwCl (wM g a (sMth m9 (nI 0))) _ := hP
  have hD : va_D A (wM g a (sMth m9 (nI 0))) := hD
  refine lv_iload_n hx hb dX4_isOpen_5 rfl (lv_at hl 1 rfl) ?_
  refine lv_iconst (v := (nI 0)) hx hb dX4_isOpen_6 (by decide) ?_
  refine lv_bipush (v := (nI 7)) hx hb dX4_isOpen_7 (by decide) ?_
  refine k_Si (w0 := []) (w1 := []) (As := [.int row, .int (nI 0), .int (nI 7)]) (r := (bI ((nI 0) ≤ row ∧ row ≤ (nI 7)))) hF (c_X4_in l g row (nI 0) (nI 7)) (va_cwS 3 hts gX4_isOpen_X4_in rfl rfl rfl (by decide +kernel) ⟨Nat.le_of_ble_eq_true rfl, Nat.le_of_ble_eq_true rfl⟩) hE hP hD hS hA (List.Perm.refl _) (List.Perm.refl _) rfl hl.1 rfl (Nat.le_of_ble_eq_true rfl) dX4_isOpen_9 ⟨Nat.le_of_ble_eq_true rfl, Nat.le_of_ble_eq_true rfl⟩ (fun H locs hP hD hS => ?_)
  have hP : va_P g.1 vwCl (wM g a (sMth m9 (nI 0))) _ := hP
  have hD : va_D A (wM g a (sMth m9 (nI 0))) := hD
  refine k_ifeqB (tgt := 36) hx hb dX4_isOpen_12 (by decide) (fun c1 => ?_) (fun c1 => ?_)
  ·
    refine lv_aload_n hx hb dX4_isOpen_36 rfl (lv_at hl 0 rfl) ?_
    refine lv_iconst (v := (nI 1)) hx hb dX4_isOpen_37 (by decide) ?_
    refine k_Vi (As := [.int (nI 1)]) (r := (nI 0)) hF (c_X4_fails l g a (sMth m9 (nI 0)) (nI 1)) (cwV 1 hts gX4_isOpen_X4_fails rfl rfl rfl (by decide +kernel) ⟨Nat.le_of_ble_eq_true rfl, Nat.le_of_ble_eq_true rfl⟩) hE hP hD hS hA (k_pall _) ((k_pall _).symm) 0 rfl rfl rfl rfl hl.1 rfl (Nat.le_of_ble_eq_true rfl) dX4_isOpen_38 ⟨Nat.le_of_ble_eq_true rfl, Nat.le_of_ble_eq_true rfl⟩ (fun H locs hP hD hS => ?_)
    have hP : va_P g.1 vwCl (wM g a (sMth m9 (nI 1))) _ := hP
    have hD : va_D A (wM g a (sMth m9 (nI 1))) := hD
    refine lv_if_le (tgt := 48) hx hb dX4_isOpen_41 (by decide) (fun c2 => ?_) (fun c2 => ?_)
    ·
      refine lv_iconst (v := (nI 0)) hx hb dX4_isOpen_48 (by decide) ?_
      have e3 : (MopenQ row m9) = (sMth m9 (nI 1)) := (by first | (simp only [MopenQ, MopenR, if_neg c1, if_pos c1, if_pos c2, if_neg (not_not_intro c2)]; done) | (simp only [MopenQ, MopenR, if_neg c1, if_pos c1, if_pos c2, if_neg (not_not_intro c2)]; rfl) | rfl | (simp [MopenQ, MopenR, if_neg c1, if_pos c1, if_pos c2, if_neg (not_not_intro c2)]; done))
      have hP : va_P g.1 vwCl (wM g a (MopenQ row m9)) H := by rw [e3]; exact hP
      have hD : va_D A (wM g a (MopenQ row m9)) := by rw [e3]; exact hD
      exact k_iret hx hb hr hlocks rfl (by first | (simp only [MopenQ, MopenR, bI, if_neg c1, if_pos c1, if_pos c2, if_neg (not_not_intro c2)]; done) | (simp only [MopenQ, MopenR, bI, if_neg c1, if_pos c1, if_pos c2, if_neg (not_not_intro c2)]; rfl) | rfl | (simp [MopenQ, MopenR, bI, if_neg c1, if_pos c1, if_pos c2, if_neg (not_not_intro c2)]; done)) hP hD hS (Nat.le_of_ble_eq_true rfl) (Nat.le_of_ble_eq_true rfl) dX4_isOpen_49
    ·
      exact absurd (by decide) c2
  ·
    obtain ⟨r9, hr9, hr9e⟩ := in_nat (by decide) (by decide) c1
    have hr9c : row.toNatClampNeg = r9 := cl_eq hr9e (by omega)
    refine lv_aload_n hx hb dX4_isOpen_15 rfl (lv_at hl 0 rfl) ?_
    refine va_get (D := g.1) (ci := 4) (v := .ref (a 1)) (C := RX4) (T := TX4) (N := 12) hx hb hts hiX4 hown hE.1 hP 0 rfl rfl 1 (by decide) f7 (fun _ h9 => h9) rfl dX4_isOpen_16 ?_
    refine lv_bipush (v := (nI 13)) hx hb dX4_isOpen_19 (by decide) ?_
    refine lv_iload_n hx hb dX4_isOpen_21 rfl (lv_at hl 1 rfl) ?_
    refine k_top hr9e ?_
    refine lv_iadd hx hb dX4_isOpen_22 ?_
    refine k_top (nI_add _ _) ?_
    refine k_iald (f := (ms m9)) hx hb hE hP 1 rfl (13 + r9) rfl (by omega) (by decide) dX4_isOpen_23 ?_
    refine lv_iconst (v := (nI 1)) hx hb dX4_isOpen_24 (by decide) ?_
    refine lv_icmp_ne (tgt := 32) hx hb dX4_isOpen_25 (by decide) (fun c4 => ?_) (fun c4 => ?_)
    ·
      refine lv_iconst (v := (nI 0)) hx hb dX4_isOpen_32 (by decide) ?_
      refine lv_goto (tgt := 49) hx hb dX4_isOpen_33 (by decide) ?_
      have e5 : (MopenQ row m9) = (sMth m9 (nI 0)) := (by first | (simp only [MopenQ, MopenR, if_pos c1, if_neg (not_not_intro c1), if_neg c4, if_pos c4, hr9c]; done) | (simp only [MopenQ, MopenR, if_pos c1, if_neg (not_not_intro c1), if_neg c4, if_pos c4, hr9c]; rfl) | rfl | (simp [MopenQ, MopenR, if_pos c1, if_neg (not_not_intro c1), if_neg c4, if_pos c4, hr9c]; done))
      have hP : va_P g.1 vwCl (wM g a (MopenQ row m9)) H := by rw [e5]; exact hP
      have hD : va_D A (wM g a (MopenQ row m9)) := by rw [e5]; exact hD
      exact k_iret hx hb hr hlocks rfl (by first | (simp only [MopenQ, MopenR, bI, if_pos c1, if_neg (not_not_intro c1), if_neg c4, if_pos c4, hr9c]; done) | (simp only [MopenQ, MopenR, bI, if_pos c1, if_neg (not_not_intro c1), if_neg c4, if_pos c4, hr9c]; rfl) | rfl | (simp [MopenQ, MopenR, bI, if_pos c1, if_neg (not_not_intro c1), if_neg c4, if_pos c4, hr9c]; done)) hP hD hS (Nat.le_of_ble_eq_true rfl) (Nat.le_of_ble_eq_true rfl) dX4_isOpen_49
    ·
      refine lv_iconst (v := (nI 1)) hx hb dX4_isOpen_28 (by decide) ?_
      refine lv_goto (tgt := 49) hx hb dX4_isOpen_29 (by decide) ?_
      have e6 : (MopenQ row m9) = (sMth m9 (nI 0)) := (by first | (simp only [MopenQ, MopenR, if_pos c1, if_neg (not_not_intro c1), if_pos c4, if_neg (not_not_intro c4), hr9c]; done) | (simp only [MopenQ, MopenR, if_pos c1, if_neg (not_not_intro c1), if_pos c4, if_neg (not_not_intro c4), hr9c]; rfl) | rfl | (simp [MopenQ, MopenR, if_pos c1, if_neg (not_not_intro c1), if_pos c4, if_neg (not_not_intro c4), hr9c]; done))
      have hP : va_P g.1 vwCl (wM g a (MopenQ row m9)) H := by rw [e6]; exact hP
      have hD : va_D A (wM g a (MopenQ row m9)) := by rw [e6]; exact hD
      exact k_iret hx hb hr hlocks rfl (by first | (simp only [MopenQ, MopenR, bI, if_pos c1, if_neg (not_not_intro c1), if_pos c4, if_neg (not_not_intro c4), hr9c]; done) | (simp only [MopenQ, MopenR, bI, if_pos c1, if_neg (not_not_intro c1), if_pos c4, if_neg (not_not_intro c4), hr9c]; rfl) | rfl | (simp [MopenQ, MopenR, bI, if_pos c1, if_neg (not_not_intro c1), if_pos c4, if_neg (not_not_intro c4), hr9c]; done)) hP hD hS (Nat.le_of_ble_eq_true rfl) (Nat.le_of_ble_eq_true rfl) dX4_isOpen_49
set_option maxHeartbeats 4000000 in
set_option maxRecDepth 100000 in
theorem c_X4_due (l : Launch) (g : kG) (a : Nat → Nat) (m9 : MSt) : KI l yX4_due wsX4_due ({ frames := 1, cells := 0, slots := 0, locals := 20 }) g [.ref (a 0)] (wM g a m9) (Mdue (ms m9)) (wM g a m9) 0 0 := by
  refine k_begin (cc := cX4_due) (maxL := 1) (ret := (some .int)) (Qc := fun A => kQi g (Mdue (ms m9)) (wM g a m9) A) (by decide) rfl (Nat.le_of_ble_eq_true rfl) ?_
  intro p e s m below meth c A ls hF hr hlocks hin hE hP hD hS hA hl
  obtain ⟨hx, hb, hml, hown, hts⟩ := id hF
  have hown : s.vm.findClass RX4 = some m.cls := hown
  have hl : lv_has ls 1 [(0, .ref (a 0))] := hl
  have hiX4 : ∀ w ∈ wsX40, w ∈ wsX4_due := fun _ h => List.mem_cons_of_mem _ (List.mem_append_right _ (h))
  have f7 : (Cond.fieldLink RX4 7 "ConcertUsherModel" "s" "[I").before _ s = true := hts _ (List.mem_of_getElem? (i := 1) rfl)
  refine lv_aload_n hx hb dX4_due_0 rfl (lv_at hl 0 rfl) ?_
  refine k_Vi (As := []) (r := (Mchief (ms m9))) hF (c_X4_chiefNow l g a m9) (cwV 0 hts gX4_due_X4_chiefNow rfl rfl rfl (by decide +kernel) ⟨Nat.le_of_ble_eq_true rfl, Nat.le_of_ble_eq_true rfl⟩) hE hP hD hS hA (k_pall _) ((k_pall _).symm) 0 rfl rfl rfl rfl hl.1 rfl (Nat.le_of_ble_eq_true rfl) dX4_due_1 ⟨Nat.le_of_ble_eq_true rfl, Nat.le_of_ble_eq_true rfl⟩ (fun H locs hP hD hS => ?_)
  have hP : va_P g.1 vwCl (wM g a m9) _ := hP
  have hD : va_D A (wM g a m9) := hD
  refine lv_if_ne (tgt := 16) hx hb dX4_due_4 (by decide) (fun c1 => ?_) (fun c1 => ?_)
  ·
    refine lv_iconst (v := (nI 2)) hx hb dX4_due_16 (by decide) ?_
    refine lv_aload_n hx hb dX4_due_17 rfl (lv_at hl 0 rfl) ?_
    refine va_get (D := g.1) (ci := 4) (v := .ref (a 1)) (C := RX4) (T := TX4) (N := 12) hx hb hts hiX4 hown hE.1 hP 0 rfl rfl 1 (by decide) f7 (fun _ h9 => h9) rfl dX4_due_18 ?_
    refine lv_iconst (v := (nI 2)) hx hb dX4_due_21 (by decide) ?_
    refine k_iald (f := (ms m9)) hx hb hE hP 1 rfl 2 rfl (by decide) (by decide) dX4_due_22 ?_
    refine lv_imul hx hb dX4_due_23 ?_
    have hP : va_P g.1 vwCl (wM g a m9) _ := hP
    have hD : va_D A (wM g a m9) := hD
    exact k_iret hx hb hr hlocks rfl (by first | (simp only [Mdue, bI, if_neg c1, if_pos c1]; done) | (simp only [Mdue, bI, if_neg c1, if_pos c1]; rfl) | rfl | (simp [Mdue, bI, if_neg c1, if_pos c1]; done)) hP hD hS (Nat.le_of_ble_eq_true rfl) (Nat.le_of_ble_eq_true rfl) dX4_due_24
  ·
    refine lv_aload_n hx hb dX4_due_7 rfl (lv_at hl 0 rfl) ?_
    refine va_get (D := g.1) (ci := 4) (v := .ref (a 1)) (C := RX4) (T := TX4) (N := 12) hx hb hts hiX4 hown hE.1 hP 0 rfl rfl 1 (by decide) f7 (fun _ h9 => h9) rfl dX4_due_8 ?_
    refine lv_iconst (v := (nI 2)) hx hb dX4_due_11 (by decide) ?_
    refine k_iald (f := (ms m9)) hx hb hE hP 1 rfl 2 rfl (by decide) (by decide) dX4_due_12 ?_
    refine lv_goto (tgt := 24) hx hb dX4_due_13 (by decide) ?_
    have hP : va_P g.1 vwCl (wM g a m9) _ := hP
    have hD : va_D A (wM g a m9) := hD
    exact k_iret hx hb hr hlocks rfl (by first | (simp only [Mdue, bI, if_pos c1, if_neg (not_not_intro c1)]; done) | (simp only [Mdue, bI, if_pos c1, if_neg (not_not_intro c1)]; rfl) | rfl | (simp [Mdue, bI, if_pos c1, if_neg (not_not_intro c1)]; done)) hP hD hS (Nat.le_of_ble_eq_true rfl) (Nat.le_of_ble_eq_true rfl) dX4_due_24
set_option maxHeartbeats 4000000 in
set_option maxRecDepth 100000 in
theorem c_X4_goesBy (l : Launch) (g : kG) (a : Nat → Nat) (m9 : MSt) : KI l yX4_goesBy wsX4_goesBy ({ frames := 2, cells := 0, slots := 0, locals := 40 }) g [.ref (a 0)] (wM g a m9) (bI (Masks (ms m9))) (wM g a (sMs m9 (Mgo (ms m9)))) 0 0 := by
  refine k_begin (cc := cX4_goesBy) (maxL := 3) (ret := (some .boolean)) (Qc := fun A => kQi g (bI (Masks (ms m9))) (wM g a (sMs m9 (Mgo (ms m9)))) A) (by decide) rfl (Nat.le_of_ble_eq_true rfl) ?_
  intro p e s m below meth c A ls hF hr hlocks hin hE hP hD hS hA hl
  obtain ⟨hx, hb, hml, hown, hts⟩ := id hF
  have hown : s.vm.findClass RX4 = some m.cls := hown
  have hl : lv_has ls 3 [(0, .ref (a 0))] := hl
  have hiX4 : ∀ w ∈ wsX40, w ∈ wsX4_goesBy := fun _ h => List.mem_cons_of_mem _ (List.mem_append_right _ (h))
  have f7 : (Cond.fieldLink RX4 7 "ConcertUsherModel" "s" "[I").before _ s = true := hts _ (List.mem_of_getElem? (i := 1) rfl)
  refine lv_iconst (v := (nI 0)) hx hb dX4_goesBy_0 (by decide) ?_
  refine lv_istore_n (lv' := [(1, .int (nI 0)), (0, .ref (a 0))]) hx hb dX4_goesBy_1 rfl hl (by decide) rfl (fun ls hl => ?_)
  refine k_loop (N := 48) (Inv := fun (i : Nat) (H : Heap) (locs : List Loc) (ls : Array Slot) => va_P g.1 vwCl (wM g a (sMs m9 (MfadeN (ms m9) i))) H ∧ va_D A (wM g a (sMs m9 (MfadeN (ms m9) i))) ∧ va_S A s.heap H locs ∧ lv_has ls 3 [(1, .int (nI i)), (0, .ref (a 0))]) 0 (Nat.zero_le _) ⟨hP, hD, hS, lv_sub hl [0, 1] rfl⟩ (fun i hle2 ih1 H locs ls hinv => ?_)
  obtain ⟨hP, hD, hS, hl⟩ := hinv
  refine lv_iload_n hx hb dX4_goesBy_2 rfl (lv_at hl 0 rfl) ?_
  refine lv_bipush (v := (nI 48)) hx hb dX4_goesBy_3 (by decide) ?_
  refine k_geN (tgt := 43) hx hb (by omega) (by decide) dX4_goesBy_5 (by decide) (fun c3 => ?_) (fun c3 => ?_)
  ·
    obtain rfl : 48 = i := by omega
    refine lv_aload_n hx hb dX4_goesBy_43 rfl (lv_at hl 1 rfl) ?_
    refine va_get (D := g.1) (ci := 4) (v := .ref (a 1)) (C := RX4) (T := TX4) (N := 12) hx hb hts hiX4 hown hE.1 hP 0 rfl rfl 1 (by decide) f7 (fun _ h9 => h9) rfl dX4_goesBy_44 ?_
    refine lv_iconst (v := (nI 5)) hx hb dX4_goesBy_47 (by decide) ?_
    refine lv_dup2_11 hx hb dX4_goesBy_48 rfl rfl ?_
    refine k_iald (f := (MfadeN (ms m9) 48)) hx hb hE hP 1 rfl 5 rfl (by decide) (by decide) dX4_goesBy_49 ?_
    refine lv_iconst (v := (nI 1)) hx hb dX4_goesBy_50 (by decide) ?_
    refine lv_iadd hx hb dX4_goesBy_51 ?_
    refine k_iast (f := (MfadeN (ms m9) 48)) (ws1 := (wM g a (sMs m9 (upd (MfadeN (ms m9) 48) 5 (((MfadeN (ms m9) 48) 5) + (nI 1)))))) hx hb hE hP hD hS 1 rfl 5 rfl (by decide) (by decide) rfl dX4_goesBy_52 (fun H locs hP hD hS => ?_)
    refine lv_aload_n hx hb dX4_goesBy_53 rfl (lv_at hl 1 rfl) ?_
    refine va_get (D := g.1) (ci := 4) (v := .ref (a 1)) (C := RX4) (T := TX4) (N := 12) hx hb hts hiX4 hown hE.1 hP 0 rfl rfl 1 (by decide) f7 (fun _ h9 => h9) rfl dX4_goesBy_54 ?_
    refine lv_bipush (v := (nI 6)) hx hb dX4_goesBy_57 (by decide) ?_
    refine lv_dup2_11 hx hb dX4_goesBy_59 rfl rfl ?_
    refine k_iald (f := (upd (MfadeN (ms m9) 48) 5 (((MfadeN (ms m9) 48) 5) + (nI 1)))) hx hb hE hP 1 rfl 6 rfl (by decide) (by decide) dX4_goesBy_60 ?_
    refine lv_iconst (v := (nI 1)) hx hb dX4_goesBy_61 (by decide) ?_
    refine lv_iadd hx hb dX4_goesBy_62 ?_
    refine k_iast (f := (upd (MfadeN (ms m9) 48) 5 (((MfadeN (ms m9) 48) 5) + (nI 1)))) (ws1 := (wM g a (sMs m9 (upd (upd (MfadeN (ms m9) 48) 5 (((MfadeN (ms m9) 48) 5) + (nI 1))) 6 (((upd (MfadeN (ms m9) 48) 5 (((MfadeN (ms m9) 48) 5) + (nI 1))) 6) + (nI 1)))))) hx hb hE hP hD hS 1 rfl 6 rfl (by decide) (by decide) rfl dX4_goesBy_63 (fun H locs hP hD hS => ?_)
    refine lv_aload_n hx hb dX4_goesBy_64 rfl (lv_at hl 1 rfl) ?_
    refine va_get (D := g.1) (ci := 4) (v := .ref (a 1)) (C := RX4) (T := TX4) (N := 12) hx hb hts hiX4 hown hE.1 hP 0 rfl rfl 1 (by decide) f7 (fun _ h9 => h9) rfl dX4_goesBy_65 ?_
    refine lv_bipush (v := (nI 6)) hx hb dX4_goesBy_68 (by decide) ?_
    refine k_iald (f := (upd (upd (MfadeN (ms m9) 48) 5 (((MfadeN (ms m9) 48) 5) + (nI 1))) 6 (((upd (MfadeN (ms m9) 48) 5 (((MfadeN (ms m9) 48) 5) + (nI 1))) 6) + (nI 1)))) hx hb hE hP 1 rfl 6 rfl (by decide) (by decide) dX4_goesBy_70 ?_
    refine lv_aload_n hx hb dX4_goesBy_71 rfl (lv_at hl 1 rfl) ?_
    refine k_Vi (As := []) (r := (Mdue (upd (upd (MfadeN (ms m9) 48) 5 (((MfadeN (ms m9) 48) 5) + (nI 1))) 6 (((upd (MfadeN (ms m9) 48) 5 (((MfadeN (ms m9) 48) 5) + (nI 1))) 6) + (nI 1))))) hF (c_X4_due l g a (sMs m9 (upd (upd (MfadeN (ms m9) 48) 5 (((MfadeN (ms m9) 48) 5) + (nI 1))) 6 (((upd (MfadeN (ms m9) 48) 5 (((MfadeN (ms m9) 48) 5) + (nI 1))) 6) + (nI 1))))) (cwV 0 hts gX4_goesBy_X4_due rfl rfl rfl (by decide +kernel) ⟨Nat.le_of_ble_eq_true rfl, Nat.le_of_ble_eq_true rfl⟩) hE hP hD hS hA (k_pall _) ((k_pall _).symm) 0 rfl rfl rfl rfl hl.1 rfl (Nat.le_of_ble_eq_true rfl) dX4_goesBy_72 ⟨Nat.le_of_ble_eq_true rfl, Nat.le_of_ble_eq_true rfl⟩ (fun H locs hP hD hS => ?_)
    have hP : va_P g.1 vwCl (wM g a (sMs m9 (upd (upd (MfadeN (ms m9) 48) 5 (((MfadeN (ms m9) 48) 5) + (nI 1))) 6 (((upd (MfadeN (ms m9) 48) 5 (((MfadeN (ms m9) 48) 5) + (nI 1))) 6) + (nI 1))))) _ := hP
    have hD : va_D A (wM g a (sMs m9 (upd (upd (MfadeN (ms m9) 48) 5 (((MfadeN (ms m9) 48) 5) + (nI 1))) 6 (((upd (MfadeN (ms m9) 48) 5 (((MfadeN (ms m9) 48) 5) + (nI 1))) 6) + (nI 1))))) := hD
    refine k_meet (x := .int (bI (¬ (Mtk (ms m9)) 6 < (Mdue (Mtk (ms m9)))))) (pj := 83) (rest := []) (fun J4 => ?_) ?_
    ·
      refine lv_icmp_lt (tgt := 82) hx hb dX4_goesBy_75 (by decide) (fun c5 => ?_) (fun c5 => ?_)
      ·
        refine lv_iconst (v := (nI 0)) hx hb dX4_goesBy_82 (by decide) ?_
        exact k_top (by first | (simp only [Mgo, bI, if_pos c3, if_neg (not_not_intro c3), if_pos c5, if_neg (not_not_intro c5)]; done) | (simp only [Mgo, bI, if_pos c3, if_neg (not_not_intro c3), if_pos c5, if_neg (not_not_intro c5)]; rfl) | rfl | (simp [Mgo, bI, if_pos c3, if_neg (not_not_intro c3), if_pos c5, if_neg (not_not_intro c5)]; done)) J4
      ·
        refine lv_iconst (v := (nI 1)) hx hb dX4_goesBy_78 (by decide) ?_
        refine lv_goto (tgt := 83) hx hb dX4_goesBy_79 (by decide) ?_
        exact k_top (by first | (simp only [Mgo, bI, if_pos c3, if_neg (not_not_intro c3), if_neg c5, if_pos c5]; done) | (simp only [Mgo, bI, if_pos c3, if_neg (not_not_intro c3), if_neg c5, if_pos c5]; rfl) | rfl | (simp [Mgo, bI, if_pos c3, if_neg (not_not_intro c3), if_neg c5, if_pos c5]; done)) J4
    ·
      refine lv_istore_n (lv' := [(1, .int (bI (¬ (Mtk (ms m9)) 6 < (Mdue (Mtk (ms m9)))))), (0, .ref (a 0))]) hx hb dX4_goesBy_83 rfl hl (by decide) rfl (fun ls hl => ?_)
      refine lv_iload_n hx hb dX4_goesBy_84 rfl (lv_at hl 0 rfl) ?_
      refine k_ifeqB (tgt := 138) hx hb dX4_goesBy_85 (by decide) (fun c6 => ?_) (fun c6 => ?_)
      ·
        refine lv_iload_n hx hb dX4_goesBy_138 rfl (lv_at hl 0 rfl) ?_
        have e7 : (sMs m9 (Mgo (ms m9))) = (sMs m9 (upd (upd (MfadeN (ms m9) 48) 5 (((MfadeN (ms m9) 48) 5) + (nI 1))) 6 (((upd (MfadeN (ms m9) 48) 5 (((MfadeN (ms m9) 48) 5) + (nI 1))) 6) + (nI 1)))) := (by first | (simp only [Mgo, if_pos c3, if_neg (not_not_intro c3), if_neg c6, if_pos c6]; done) | (simp only [Mgo, if_pos c3, if_neg (not_not_intro c3), if_neg c6, if_pos c6]; rfl) | rfl | (simp [Mgo, if_pos c3, if_neg (not_not_intro c3), if_neg c6, if_pos c6]; done))
        have hP : va_P g.1 vwCl (wM g a (sMs m9 (Mgo (ms m9)))) H := by rw [e7]; exact hP
        have hD : va_D A (wM g a (sMs m9 (Mgo (ms m9)))) := by rw [e7]; exact hD
        exact k_iret hx hb hr hlocks bI_nar (by first | (simp only [Mgo, bI, if_pos c3, if_neg (not_not_intro c3), if_neg c6, if_pos c6]; done) | (simp only [Mgo, bI, if_pos c3, if_neg (not_not_intro c3), if_neg c6, if_pos c6]; rfl) | rfl | (simp [Mgo, bI, if_pos c3, if_neg (not_not_intro c3), if_neg c6, if_pos c6]; done)) hP hD hS (Nat.le_of_ble_eq_true rfl) (Nat.le_of_ble_eq_true rfl) dX4_goesBy_139
      ·
        refine lv_aload_n hx hb dX4_goesBy_88 rfl (lv_at hl 1 rfl) ?_
        refine va_get (D := g.1) (ci := 4) (v := .ref (a 1)) (C := RX4) (T := TX4) (N := 12) hx hb hts hiX4 hown hE.1 hP 0 rfl rfl 1 (by decide) f7 (fun _ h9 => h9) rfl dX4_goesBy_89 ?_
        refine lv_bipush (v := (nI 6)) hx hb dX4_goesBy_92 (by decide) ?_
        refine lv_iconst (v := (nI 0)) hx hb dX4_goesBy_94 (by decide) ?_
        refine k_iast (f := (upd (upd (MfadeN (ms m9) 48) 5 (((MfadeN (ms m9) 48) 5) + (nI 1))) 6 (((upd (MfadeN (ms m9) 48) 5 (((MfadeN (ms m9) 48) 5) + (nI 1))) 6) + (nI 1)))) (ws1 := (wM g a (sMs m9 (upd (upd (upd (MfadeN (ms m9) 48) 5 (((MfadeN (ms m9) 48) 5) + (nI 1))) 6 (((upd (MfadeN (ms m9) 48) 5 (((MfadeN (ms m9) 48) 5) + (nI 1))) 6) + (nI 1))) 6 (nI 0))))) hx hb hE hP hD hS 1 rfl 6 rfl (by decide) (by decide) rfl dX4_goesBy_95 (fun H locs hP hD hS => ?_)
        refine lv_aload_n hx hb dX4_goesBy_96 rfl (lv_at hl 1 rfl) ?_
        refine va_get (D := g.1) (ci := 4) (v := .ref (a 1)) (C := RX4) (T := TX4) (N := 12) hx hb hts hiX4 hown hE.1 hP 0 rfl rfl 1 (by decide) f7 (fun _ h9 => h9) rfl dX4_goesBy_97 ?_
        refine lv_bipush (v := (nI 10)) hx hb dX4_goesBy_100 (by decide) ?_
        refine lv_dup2_11 hx hb dX4_goesBy_102 rfl rfl ?_
        refine k_iald (f := (upd (upd (upd (MfadeN (ms m9) 48) 5 (((MfadeN (ms m9) 48) 5) + (nI 1))) 6 (((upd (MfadeN (ms m9) 48) 5 (((MfadeN (ms m9) 48) 5) + (nI 1))) 6) + (nI 1))) 6 (nI 0))) hx hb hE hP 1 rfl 10 rfl (by decide) (by decide) dX4_goesBy_103 ?_
        refine lv_iconst (v := (nI 1)) hx hb dX4_goesBy_104 (by decide) ?_
        refine lv_iadd hx hb dX4_goesBy_105 ?_
        refine k_iast (f := (upd (upd (upd (MfadeN (ms m9) 48) 5 (((MfadeN (ms m9) 48) 5) + (nI 1))) 6 (((upd (MfadeN (ms m9) 48) 5 (((MfadeN (ms m9) 48) 5) + (nI 1))) 6) + (nI 1))) 6 (nI 0))) (ws1 := (wM g a (sMs m9 (upd (upd (upd (upd (MfadeN (ms m9) 48) 5 (((MfadeN (ms m9) 48) 5) + (nI 1))) 6 (((upd (MfadeN (ms m9) 48) 5 (((MfadeN (ms m9) 48) 5) + (nI 1))) 6) + (nI 1))) 6 (nI 0)) 10 (((upd (upd (upd (MfadeN (ms m9) 48) 5 (((MfadeN (ms m9) 48) 5) + (nI 1))) 6 (((upd (MfadeN (ms m9) 48) 5 (((MfadeN (ms m9) 48) 5) + (nI 1))) 6) + (nI 1))) 6 (nI 0)) 10) + (nI 1)))))) hx hb hE hP hD hS 1 rfl 10 rfl (by decide) (by decide) rfl dX4_goesBy_106 (fun H locs hP hD hS => ?_)
        refine lv_iconst (v := (nI 0)) hx hb dX4_goesBy_107 (by decide) ?_
        refine lv_istore_n (lv' := [(2, .int (nI 0)), (1, .int (bI (¬ (Mtk (ms m9)) 6 < (Mdue (Mtk (ms m9)))))), (0, .ref (a 0))]) hx hb dX4_goesBy_108 rfl hl (by decide) rfl (fun ls hl => ?_)
        refine k_loop (N := 48) (Inv := fun (i2 : Nat) (H : Heap) (locs : List Loc) (ls : Array Slot) => va_P g.1 vwCl (wM g a (sMs m9 (MaskN (Mq1 (ms m9)) i2))) H ∧ va_D A (wM g a (sMs m9 (MaskN (Mq1 (ms m9)) i2))) ∧ va_S A s.heap H locs ∧ lv_has ls 3 [(2, .int (nI i2)), (1, .int (bI (¬ (Mtk (ms m9)) 6 < (Mdue (Mtk (ms m9)))))), (0, .ref (a 0))]) 0 (Nat.zero_le _) ⟨hP, hD, hS, lv_sub hl [0, 1, 2] rfl⟩ (fun i2 hle9 ih8 H locs ls hinv => ?_)
        obtain ⟨hP, hD, hS, hl⟩ := hinv
        refine lv_iload_n hx hb dX4_goesBy_109 rfl (lv_at hl 0 rfl) ?_
        refine lv_bipush (v := (nI 48)) hx hb dX4_goesBy_110 (by decide) ?_
        refine k_geN (tgt := 138) hx hb (by omega) (by decide) dX4_goesBy_112 (by decide) (fun c10 => ?_) (fun c10 => ?_)
        ·
          obtain rfl : 48 = i2 := by omega
          refine lv_iload_n hx hb dX4_goesBy_138 rfl (lv_at hl 1 rfl) ?_
          have e11 : (sMs m9 (Mgo (ms m9))) = (sMs m9 (MaskN (Mq1 (ms m9)) 48)) := (by first | (simp only [Mgo, if_pos c3, if_neg (not_not_intro c3), if_pos c6, if_neg (not_not_intro c6), if_pos c10, if_neg (not_not_intro c10)]; done) | (simp only [Mgo, if_pos c3, if_neg (not_not_intro c3), if_pos c6, if_neg (not_not_intro c6), if_pos c10, if_neg (not_not_intro c10)]; rfl) | rfl | (simp [Mgo, if_pos c3, if_neg (not_not_intro c3), if_pos c6, if_neg (not_not_intro c6), if_pos c10, if_neg (not_not_intro c10)]; done))
          have hP : va_P g.1 vwCl (wM g a (sMs m9 (Mgo (ms m9)))) H := by rw [e11]; exact hP
          have hD : va_D A (wM g a (sMs m9 (Mgo (ms m9)))) := by rw [e11]; exact hD
          exact k_iret hx hb hr hlocks bI_nar (by first | (simp only [Mgo, bI, if_pos c3, if_neg (not_not_intro c3), if_pos c6, if_neg (not_not_intro c6), if_pos c10, if_neg (not_not_intro c10)]; done) | (simp only [Mgo, bI, if_pos c3, if_neg (not_not_intro c3), if_pos c6, if_neg (not_not_intro c6), if_pos c10, if_neg (not_not_intro c10)]; rfl) | rfl | (simp [Mgo, bI, if_pos c3, if_neg (not_not_intro c3), if_pos c6, if_neg (not_not_intro c6), if_pos c10, if_neg (not_not_intro c10)]; done)) hP hD hS (Nat.le_of_ble_eq_true rfl) (Nat.le_of_ble_eq_true rfl) dX4_goesBy_139
        ·
          refine lv_aload_n hx hb dX4_goesBy_115 rfl (lv_at hl 2 rfl) ?_
          refine va_get (D := g.1) (ci := 4) (v := .ref (a 1)) (C := RX4) (T := TX4) (N := 12) hx hb hts hiX4 hown hE.1 hP 0 rfl rfl 1 (by decide) f7 (fun _ h9 => h9) rfl dX4_goesBy_116 ?_
          refine lv_bipush (v := (nI 21)) hx hb dX4_goesBy_119 (by decide) ?_
          refine lv_iload_n hx hb dX4_goesBy_121 rfl (lv_at hl 0 rfl) ?_
          refine lv_iadd hx hb dX4_goesBy_122 ?_
          refine k_top (nI_add _ _) ?_
          refine k_iald (f := (MaskN (Mq1 (ms m9)) i2)) hx hb hE hP 1 rfl (21 + i2) rfl (by omega) (by decide) dX4_goesBy_123 ?_
          refine lv_if_le (tgt := 132) hx hb dX4_goesBy_124 (by decide) (fun c12 => ?_) (fun c12 => ?_)
          ·
            refine lv_iinc (v := (nI (i2 + 1))) (lv' := [(2, .int (nI (i2 + 1))), (1, .int (bI (¬ (Mtk (ms m9)) 6 < (Mdue (Mtk (ms m9)))))), (0, .ref (a 0))]) hx hb dX4_goesBy_132 hl (k := 0) rfl (k_inc1 _) (by decide) rfl (fun ls hl => ?_)
            refine lv_goto (tgt := 109) hx hb dX4_goesBy_135 (by decide) ?_
            have e13 : (sMs m9 (MaskN (Mq1 (ms m9)) (i2 + 1))) = (sMs m9 (MaskN (Mq1 (ms m9)) i2)) := (by first | (simp only [Mgo, MaskN, if_pos c3, if_neg (not_not_intro c3), if_pos c6, if_neg (not_not_intro c6), if_neg (Nat.not_le.mpr c10), if_pos (Nat.not_le.mpr c10), if_pos c12, if_neg (not_not_intro c12)]; done) | (simp only [Mgo, MaskN, if_pos c3, if_neg (not_not_intro c3), if_pos c6, if_neg (not_not_intro c6), if_neg (Nat.not_le.mpr c10), if_pos (Nat.not_le.mpr c10), if_pos c12, if_neg (not_not_intro c12)]; rfl) | rfl | (simp [Mgo, MaskN, if_pos c3, if_neg (not_not_intro c3), if_pos c6, if_neg (not_not_intro c6), if_neg (Nat.not_le.mpr c10), if_pos (Nat.not_le.mpr c10), if_pos c12, if_neg (not_not_intro c12)]; done))
            exact ih8 _ _ _ (by omega) ⟨(by rw [e13]; exact hP), (by rw [e13]; exact hD), hS, lv_sub hl [0, 1, 2] rfl⟩
          ·
            refine lv_aload_n hx hb dX4_goesBy_127 rfl (lv_at hl 2 rfl) ?_
            refine lv_iload_n hx hb dX4_goesBy_128 rfl (lv_at hl 0 rfl) ?_
            refine k_Vv (As := [.int (nI i2)]) hF (c_X4_calls l g a (sMs m9 (MaskN (Mq1 (ms m9)) i2)) i2 (by omega)) (cwV 1 hts gX4_goesBy_X4_calls rfl rfl rfl (by decide +kernel) ⟨Nat.le_of_ble_eq_true rfl, Nat.le_of_ble_eq_true rfl⟩) hE hP hD hS hA (k_pall _) ((k_pall _).symm) 0 rfl rfl rfl rfl hl.1 rfl (Nat.le_of_ble_eq_true rfl) dX4_goesBy_129 ⟨Nat.le_of_ble_eq_true rfl, Nat.le_of_ble_eq_true rfl⟩ (fun H locs hP hD hS => ?_)
            have hP : va_P g.1 vwCl (wM g a (sMs m9 (Mcalls i2 (MaskN (Mq1 (ms m9)) i2)))) _ := hP
            have hD : va_D A (wM g a (sMs m9 (Mcalls i2 (MaskN (Mq1 (ms m9)) i2)))) := hD
            refine lv_iinc (v := (nI (i2 + 1))) (lv' := [(2, .int (nI (i2 + 1))), (1, .int (bI (¬ (Mtk (ms m9)) 6 < (Mdue (Mtk (ms m9)))))), (0, .ref (a 0))]) hx hb dX4_goesBy_132 hl (k := 0) rfl (k_inc1 _) (by decide) rfl (fun ls hl => ?_)
            refine lv_goto (tgt := 109) hx hb dX4_goesBy_135 (by decide) ?_
            have e14 : (sMs m9 (MaskN (Mq1 (ms m9)) (i2 + 1))) = (sMs m9 (Mcalls i2 (MaskN (Mq1 (ms m9)) i2))) := (by first | (simp only [Mgo, MaskN, if_pos c3, if_neg (not_not_intro c3), if_pos c6, if_neg (not_not_intro c6), if_neg (Nat.not_le.mpr c10), if_pos (Nat.not_le.mpr c10), if_neg c12, if_pos c12]; done) | (simp only [Mgo, MaskN, if_pos c3, if_neg (not_not_intro c3), if_pos c6, if_neg (not_not_intro c6), if_neg (Nat.not_le.mpr c10), if_pos (Nat.not_le.mpr c10), if_neg c12, if_pos c12]; rfl) | rfl | (simp [Mgo, MaskN, if_pos c3, if_neg (not_not_intro c3), if_pos c6, if_neg (not_not_intro c6), if_neg (Nat.not_le.mpr c10), if_pos (Nat.not_le.mpr c10), if_neg c12, if_pos c12]; done))
            exact ih8 _ _ _ (by omega) ⟨(by rw [e14]; exact hP), (by rw [e14]; exact hD), hS, lv_sub hl [0, 1, 2] rfl⟩
  ·
    refine lv_aload_n hx hb dX4_goesBy_8 rfl (lv_at hl 1 rfl) ?_
    refine va_get (D := g.1) (ci := 4) (v := .ref (a 1)) (C := RX4) (T := TX4) (N := 12) hx hb hts hiX4 hown hE.1 hP 0 rfl rfl 1 (by decide) f7 (fun _ h9 => h9) rfl dX4_goesBy_9 ?_
    refine lv_bipush (v := (nI 69)) hx hb dX4_goesBy_12 (by decide) ?_
    refine lv_iload_n hx hb dX4_goesBy_14 rfl (lv_at hl 0 rfl) ?_
    refine lv_iadd hx hb dX4_goesBy_15 ?_
    refine k_top (nI_add _ _) ?_
    refine lv_dup2_11 hx hb dX4_goesBy_16 rfl rfl ?_
    refine k_iald (f := (MfadeN (ms m9) i)) hx hb hE hP 1 rfl (69 + i) rfl (by omega) (by decide) dX4_goesBy_17 ?_
    refine lv_aload_n hx hb dX4_goesBy_18 rfl (lv_at hl 1 rfl) ?_
    refine va_get (D := g.1) (ci := 4) (v := .ref (a 1)) (C := RX4) (T := TX4) (N := 12) hx hb hts hiX4 hown hE.1 hP 0 rfl rfl 1 (by decide) f7 (fun _ h9 => h9) rfl dX4_goesBy_19 ?_
    refine lv_bipush (v := (nI 69)) hx hb dX4_goesBy_22 (by decide) ?_
    refine lv_iload_n hx hb dX4_goesBy_24 rfl (lv_at hl 0 rfl) ?_
    refine lv_iadd hx hb dX4_goesBy_25 ?_
    refine k_top (nI_add _ _) ?_
    refine k_iald (f := (MfadeN (ms m9) i)) hx hb hE hP 1 rfl (69 + i) rfl (by omega) (by decide) dX4_goesBy_26 ?_
    refine k_meet (x := .int (bI (¬ ((MfadeN (ms m9) i) (69 + i)) ≤ 0))) (pj := 35) (rest := [.int ((MfadeN (ms m9) i) (69 + i)), .int (nI (69 + i)), .ref (a 1)]) (fun J15 => ?_) ?_
    ·
      refine lv_if_le (tgt := 34) hx hb dX4_goesBy_27 (by decide) (fun c16 => ?_) (fun c16 => ?_)
      ·
        refine lv_iconst (v := (nI 0)) hx hb dX4_goesBy_34 (by decide) ?_
        exact k_top (by first | (simp only [Mgo, bI, if_neg (Nat.not_le.mpr c3), if_pos (Nat.not_le.mpr c3), if_pos c16, if_neg (not_not_intro c16)]; done) | (simp only [Mgo, bI, if_neg (Nat.not_le.mpr c3), if_pos (Nat.not_le.mpr c3), if_pos c16, if_neg (not_not_intro c16)]; rfl) | rfl | (simp [Mgo, bI, if_neg (Nat.not_le.mpr c3), if_pos (Nat.not_le.mpr c3), if_pos c16, if_neg (not_not_intro c16)]; done)) J15
      ·
        refine lv_iconst (v := (nI 1)) hx hb dX4_goesBy_30 (by decide) ?_
        refine lv_goto (tgt := 35) hx hb dX4_goesBy_31 (by decide) ?_
        exact k_top (by first | (simp only [Mgo, bI, if_neg (Nat.not_le.mpr c3), if_pos (Nat.not_le.mpr c3), if_neg c16, if_pos c16]; done) | (simp only [Mgo, bI, if_neg (Nat.not_le.mpr c3), if_pos (Nat.not_le.mpr c3), if_neg c16, if_pos c16]; rfl) | rfl | (simp [Mgo, bI, if_neg (Nat.not_le.mpr c3), if_pos (Nat.not_le.mpr c3), if_neg c16, if_pos c16]; done)) J15
    ·
      refine lv_isub hx hb dX4_goesBy_35 ?_
      refine k_iast (f := (MfadeN (ms m9) i)) (ws1 := (wM g a (sMs m9 (upd (MfadeN (ms m9) i) (69 + i) (((MfadeN (ms m9) i) (69 + i)) - (bI (¬ ((MfadeN (ms m9) i) (69 + i)) ≤ 0))))))) hx hb hE hP hD hS 1 rfl (69 + i) rfl (by omega) (by decide) rfl dX4_goesBy_36 (fun H locs hP hD hS => ?_)
      refine lv_iinc (v := (nI (i + 1))) (lv' := [(1, .int (nI (i + 1))), (0, .ref (a 0))]) hx hb dX4_goesBy_37 hl (k := 0) rfl (k_inc1 _) (by decide) rfl (fun ls hl => ?_)
      refine lv_goto (tgt := 2) hx hb dX4_goesBy_40 (by decide) ?_
      have e17 : (sMs m9 (MfadeN (ms m9) (i + 1))) = (sMs m9 (upd (MfadeN (ms m9) i) (69 + i) (((MfadeN (ms m9) i) (69 + i)) - (bI (¬ ((MfadeN (ms m9) i) (69 + i)) ≤ 0))))) := (by first | (simp only [Mgo, MfadeN, if_neg (Nat.not_le.mpr c3), if_pos (Nat.not_le.mpr c3)]; done) | (simp only [Mgo, MfadeN, if_neg (Nat.not_le.mpr c3), if_pos (Nat.not_le.mpr c3)]; rfl) | rfl | (simp [Mgo, MfadeN, if_neg (Nat.not_le.mpr c3), if_pos (Nat.not_le.mpr c3)]; done))
      exact ih1 _ _ _ (by omega) ⟨(by rw [e17]; exact hP), (by rw [e17]; exact hD), hS, lv_sub hl [0, 1] rfl⟩
set_option maxHeartbeats 4000000 in
set_option maxRecDepth 100000 in
theorem c_X4_passes (l : Launch) (g : kG) (a : Nat → Nat) (m9 : MSt) (n : Nat) (hn60 : n ≤ 60) : KI l yX4_passes wsX4_passes ({ frames := 3, cells := 0, slots := 0, locals := 62 }) g [.ref (a 0), .int (nI n)] (wM g a m9) (MgoQ (ms m9) n) (wM g a (sMs m9 (MgoN (ms m9) n))) 0 0 := by
  refine k_begin (cc := cX4_passes) (maxL := 4) (ret := (some .int)) (Qc := fun A => kQi g (MgoQ (ms m9) n) (wM g a (sMs m9 (MgoN (ms m9) n))) A) (by decide) rfl (Nat.le_of_ble_eq_true rfl) ?_
  intro p e s m below meth c A ls hF hr hlocks hin hE hP hD hS hA hl
  obtain ⟨hx, hb, hml, hown, hts⟩ := id hF
  have hown : s.vm.findClass RX4 = some m.cls := hown
  have hl : lv_has ls 4 [(0, .ref (a 0)), (1, .int (nI n))] := hl
  refine lv_iconst (v := (nI 0)) hx hb dX4_passes_0 (by decide) ?_
  refine lv_istore_n (lv' := [(2, .int (nI 0)), (0, .ref (a 0)), (1, .int (nI n))]) hx hb dX4_passes_1 rfl hl (by decide) rfl (fun ls hl => ?_)
  refine lv_iconst (v := (nI 0)) hx hb dX4_passes_2 (by decide) ?_
  refine lv_istore_n (lv' := [(3, .int (nI 0)), (2, .int (nI 0)), (0, .ref (a 0)), (1, .int (nI n))]) hx hb dX4_passes_3 rfl hl (by decide) rfl (fun ls hl => ?_)
  refine k_loop (N := n) (Inv := fun (i : Nat) (H : Heap) (locs : List Loc) (ls : Array Slot) => va_P g.1 vwCl (wM g a (sMs m9 (MgoN (ms m9) i))) H ∧ va_D A (wM g a (sMs m9 (MgoN (ms m9) i))) ∧ va_S A s.heap H locs ∧ lv_has ls 4 [(3, .int (nI i)), (2, .int (MgoQ (ms m9) i)), (0, .ref (a 0)), (1, .int (nI n))]) 0 (Nat.zero_le _) ⟨hP, hD, hS, lv_sub hl [0, 1, 2, 3] rfl⟩ (fun i hle2 ih1 H locs ls hinv => ?_)
  obtain ⟨hP, hD, hS, hl⟩ := hinv
  refine lv_iload_n hx hb dX4_passes_4 rfl (lv_at hl 0 rfl) ?_
  refine lv_iload_n hx hb dX4_passes_5 rfl (lv_at hl 3 rfl) ?_
  refine k_geN (tgt := 30) hx hb (by omega) (by omega) dX4_passes_6 (by decide) (fun c3 => ?_) (fun c3 => ?_)
  ·
    obtain rfl : n = i := by omega
    refine lv_iload_n hx hb dX4_passes_30 rfl (lv_at hl 1 rfl) ?_
    have hP : va_P g.1 vwCl (wM g a (sMs m9 (MgoN (ms m9) n))) _ := hP
    have hD : va_D A (wM g a (sMs m9 (MgoN (ms m9) n))) := hD
    exact k_iret hx hb hr hlocks rfl rfl hP hD hS (Nat.le_of_ble_eq_true rfl) (Nat.le_of_ble_eq_true rfl) dX4_passes_31
  ·
    refine lv_iload_n hx hb dX4_passes_9 rfl (lv_at hl 1 rfl) ?_
    refine lv_aload_n hx hb dX4_passes_10 rfl (lv_at hl 2 rfl) ?_
    refine k_Vi (As := []) (r := (bI (Masks (MgoN (ms m9) i)))) hF (c_X4_goesBy l g a (sMs m9 (MgoN (ms m9) i))) (cwV 0 hts gX4_passes_X4_goesBy rfl rfl rfl (by decide +kernel) ⟨Nat.le_of_ble_eq_true rfl, Nat.le_of_ble_eq_true rfl⟩) hE hP hD hS hA (k_pall _) ((k_pall _).symm) 0 rfl rfl rfl rfl hl.1 rfl (Nat.le_of_ble_eq_true rfl) dX4_passes_11 ⟨Nat.le_of_ble_eq_true rfl, Nat.le_of_ble_eq_true rfl⟩ (fun H locs hP hD hS => ?_)
    have hP : va_P g.1 vwCl (wM g a (sMs m9 (Mgo (MgoN (ms m9) i)))) _ := hP
    have hD : va_D A (wM g a (sMs m9 (Mgo (MgoN (ms m9) i)))) := hD
    refine k_meet (x := .int (bI (Masks (MgoN (ms m9) i)))) (pj := 22) (rest := [.int (MgoQ (ms m9) i)]) (fun J4 => ?_) ?_
    ·
      refine k_ifeqB (tgt := 21) hx hb dX4_passes_14 (by decide) (fun c5 => ?_) (fun c5 => ?_)
      ·
        refine lv_iconst (v := (nI 0)) hx hb dX4_passes_21 (by decide) ?_
        exact k_top (by first | (simp only [bI, if_neg (Nat.not_le.mpr c3), if_pos (Nat.not_le.mpr c3), if_neg c5, if_pos c5]; done) | (simp only [bI, if_neg (Nat.not_le.mpr c3), if_pos (Nat.not_le.mpr c3), if_neg c5, if_pos c5]; rfl) | rfl | (simp [bI, if_neg (Nat.not_le.mpr c3), if_pos (Nat.not_le.mpr c3), if_neg c5, if_pos c5]; done)) J4
      ·
        refine lv_iconst (v := (nI 1)) hx hb dX4_passes_17 (by decide) ?_
        refine lv_goto (tgt := 22) hx hb dX4_passes_18 (by decide) ?_
        exact k_top (by first | (simp only [bI, if_neg (Nat.not_le.mpr c3), if_pos (Nat.not_le.mpr c3), if_pos c5, if_neg (not_not_intro c5)]; done) | (simp only [bI, if_neg (Nat.not_le.mpr c3), if_pos (Nat.not_le.mpr c3), if_pos c5, if_neg (not_not_intro c5)]; rfl) | rfl | (simp [bI, if_neg (Nat.not_le.mpr c3), if_pos (Nat.not_le.mpr c3), if_pos c5, if_neg (not_not_intro c5)]; done)) J4
    ·
      refine lv_iadd hx hb dX4_passes_22 ?_
      refine lv_istore_n (lv' := [(2, .int ((MgoQ (ms m9) i) + (bI (Masks (MgoN (ms m9) i))))), (3, .int (nI i)), (0, .ref (a 0)), (1, .int (nI n))]) hx hb dX4_passes_23 rfl hl (by decide) rfl (fun ls hl => ?_)
      refine lv_iinc (v := (nI (i + 1))) (lv' := [(3, .int (nI (i + 1))), (2, .int ((MgoQ (ms m9) i) + (bI (Masks (MgoN (ms m9) i))))), (0, .ref (a 0)), (1, .int (nI n))]) hx hb dX4_passes_24 hl (k := 1) rfl (k_inc1 _) (by decide) rfl (fun ls hl => ?_)
      refine lv_goto (tgt := 4) hx hb dX4_passes_27 (by decide) ?_
      have e6 : (sMs m9 (MgoN (ms m9) (i + 1))) = (sMs m9 (Mgo (MgoN (ms m9) i))) := (by first | (simp only [MgoN, MgoQ, if_neg (Nat.not_le.mpr c3), if_pos (Nat.not_le.mpr c3)]; done) | (simp only [MgoN, MgoQ, if_neg (Nat.not_le.mpr c3), if_pos (Nat.not_le.mpr c3)]; rfl) | rfl | (simp [MgoN, MgoQ, if_neg (Nat.not_le.mpr c3), if_pos (Nat.not_le.mpr c3)]; done))
      have e7 : (MgoQ (ms m9) (i + 1)) = ((MgoQ (ms m9) i) + (bI (Masks (MgoN (ms m9) i)))) := (by first | (simp only [MgoN, MgoQ, bI, if_neg (Nat.not_le.mpr c3), if_pos (Nat.not_le.mpr c3)]; done) | (simp only [MgoN, MgoQ, bI, if_neg (Nat.not_le.mpr c3), if_pos (Nat.not_le.mpr c3)]; rfl) | rfl | (simp [MgoN, MgoQ, bI, if_neg (Nat.not_le.mpr c3), if_pos (Nat.not_le.mpr c3)]; done))
      exact ih1 _ _ _ (by omega) ⟨(by rw [e6]; exact hP), (by rw [e6]; exact hD), hS, (by rw [e7]; exact lv_sub hl [0, 1, 2, 3] rfl)⟩
set_option maxHeartbeats 4000000 in
set_option maxRecDepth 100000 in
theorem c_X4_pass (l : Launch) (g : kG) (a : Nat → Nat) (m9 : MSt) (j : Nat) (hj : j ≤ 6) (hjm : msm m9 = nI j) (mins : Int32) : KI l yX4_pass wsX4_pass ({ frames := 4, cells := 0, slots := 0, locals := 85 }) g [.ref (a 0), .int mins] (wM g a m9) (MpassR mins m9) (wM g a (MpassS j mins m9)) 0 0 := by
  refine k_begin (cc := cX4_pass) (maxL := 2) (ret := (some .int)) (Qc := fun A => kQi g (MpassR mins m9) (wM g a (MpassS j mins m9)) A) (by decide) rfl (Nat.le_of_ble_eq_true rfl) ?_
  intro p e s m below meth c A ls hF hr hlocks hin hE hP hD hS hA hl
  obtain ⟨hx, hb, hml, hown, hts⟩ := id hF
  have hown : s.vm.findClass RX4 = some m.cls := hown
  have hl : lv_has ls 2 [(0, .ref (a 0)), (1, .int mins)] := hl
  have hiX4 : ∀ w ∈ wsX40, w ∈ wsX4_pass := fun _ h => List.mem_cons_of_mem _ (List.mem_append_right _ (h))
  have f25 : (Cond.fieldLink RX4 25 "ConcertUsherModel" "thrown" "I").before _ s = true := hts _ (List.mem_of_getElem? (i := 1) rfl)
  refine lv_aload_n hx hb dX4_pass_0 rfl (lv_at hl 0 rfl) ?_
  refine lv_iconst (v := (nI 0)) hx hb dX4_pass_1 (by decide) ?_
  refine va_put (D := g.1) (ci := 4) (v := .int (nI 0)) (ty := .int) (C := RX4) (T := TX4) (N := 12) hx hb hts hiX4 tyX4 tyX4_ok nmX4 hown hE.1 hP hD hS 0 rfl rfl 0 (by decide) f25 (fun _ h9 => h9) rfl (tyX4_ok 0 (by decide)) rfl rfl (Nat.le_of_ble_eq_true rfl) dX4_pass_2 (fun H locs hP hD hS => ?_)
  have hP : va_P g.1 vwCl (wM g a (sMth m9 (nI 0))) _ := hP
  have hD : va_D A (wM g a (sMth m9 (nI 0))) := hD
  refine lv_iload_n hx hb dX4_pass_5 rfl (lv_at hl 1 rfl) ?_
  refine lv_iconst (v := (nI 1)) hx hb dX4_pass_6 (by decide) ?_
  refine lv_bipush (v := (nI 60)) hx hb dX4_pass_7 (by decide) ?_
  refine k_Si (w0 := []) (w1 := []) (As := [.int mins, .int (nI 1), .int (nI 60)]) (r := (bI ((nI 1) ≤ mins ∧ mins ≤ (nI 60)))) hF (c_X4_in l g mins (nI 1) (nI 60)) (va_cwS 3 hts gX4_pass_X4_in rfl rfl rfl (by decide +kernel) ⟨Nat.le_of_ble_eq_true rfl, Nat.le_of_ble_eq_true rfl⟩) hE hP hD hS hA (List.Perm.refl _) (List.Perm.refl _) rfl hl.1 rfl (Nat.le_of_ble_eq_true rfl) dX4_pass_9 ⟨Nat.le_of_ble_eq_true rfl, Nat.le_of_ble_eq_true rfl⟩ (fun H locs hP hD hS => ?_)
  have hP : va_P g.1 vwCl (wM g a (sMth m9 (nI 0))) _ := hP
  have hD : va_D A (wM g a (sMth m9 (nI 0))) := hD
  refine k_ifneB (tgt := 21) hx hb dX4_pass_12 (by decide) (fun c1 => ?_) (fun c1 => ?_)
  ·
    obtain ⟨k9, hk9, hk9e⟩ := in_nat (by decide) (by decide) c1
    have hk9c : mins.toNatClampNeg = k9 := cl_eq hk9e (by omega)
    refine lv_aload_n hx hb dX4_pass_21 rfl (lv_at hl 0 rfl) ?_
    refine k_Vv (As := []) hF (c_X4_saves l g a (sMth m9 (nI 0)) j (by omega) hjm) (cwV 0 hts gX4_pass_X4_saves rfl rfl rfl (by decide +kernel) ⟨Nat.le_of_ble_eq_true rfl, Nat.le_of_ble_eq_true rfl⟩) hE hP hD hS hA (k_pall _) ((k_pall _).symm) 0 rfl rfl rfl rfl hl.1 rfl (Nat.le_of_ble_eq_true rfl) dX4_pass_22 ⟨Nat.le_of_ble_eq_true rfl, Nat.le_of_ble_eq_true rfl⟩ (fun H locs hP hD hS => ?_)
    have hP : va_P g.1 vwCl (wM g a (sMsm (sMsv (sMth m9 (nI 0)) (Msv (ms m9) (msv m9) j)) (nI (kSz j)))) _ := hP
    have hD : va_D A (wM g a (sMsm (sMsv (sMth m9 (nI 0)) (Msv (ms m9) (msv m9) j)) (nI (kSz j)))) := hD
    refine lv_aload_n hx hb dX4_pass_25 rfl (lv_at hl 0 rfl) ?_
    refine lv_iload_n hx hb dX4_pass_26 rfl (lv_at hl 1 rfl) ?_
    refine k_top hk9e ?_
    refine k_Vi (As := [.int (nI k9)]) (r := (MgoQ (ms m9) k9)) hF (c_X4_passes l g a (sMsm (sMsv (sMth m9 (nI 0)) (Msv (ms m9) (msv m9) j)) (nI (kSz j))) k9 (by omega)) (cwV 1 hts gX4_pass_X4_passes rfl rfl rfl (by decide +kernel) ⟨Nat.le_of_ble_eq_true rfl, Nat.le_of_ble_eq_true rfl⟩) hE hP hD hS hA (k_pall _) ((k_pall _).symm) 0 rfl rfl rfl rfl hl.1 rfl (Nat.le_of_ble_eq_true rfl) dX4_pass_27 ⟨Nat.le_of_ble_eq_true rfl, Nat.le_of_ble_eq_true rfl⟩ (fun H locs hP hD hS => ?_)
    have hP : va_P g.1 vwCl (wM g a (sMs (sMsm (sMsv (sMth m9 (nI 0)) (Msv (ms m9) (msv m9) j)) (nI (kSz j))) (MgoN (ms m9) k9))) _ := hP
    have hD : va_D A (wM g a (sMs (sMsm (sMsv (sMth m9 (nI 0)) (Msv (ms m9) (msv m9) j)) (nI (kSz j))) (MgoN (ms m9) k9))) := hD
    have e2 : (MpassS j mins m9) = (sMs (sMsm (sMsv (sMth m9 (nI 0)) (Msv (ms m9) (msv m9) j)) (nI (kSz j))) (MgoN (ms m9) k9)) := (by first | (simp only [MpassS, MpassR, if_pos c1, if_neg (not_not_intro c1), hk9c]; done) | (simp only [MpassS, MpassR, if_pos c1, if_neg (not_not_intro c1), hk9c]; rfl) | rfl | (simp [MpassS, MpassR, if_pos c1, if_neg (not_not_intro c1), hk9c]; done))
    have hP : va_P g.1 vwCl (wM g a (MpassS j mins m9)) H := by rw [e2]; exact hP
    have hD : va_D A (wM g a (MpassS j mins m9)) := by rw [e2]; exact hD
    exact k_iret hx hb hr hlocks rfl (by first | (simp only [MpassS, MpassR, bI, if_pos c1, if_neg (not_not_intro c1), hk9c]; done) | (simp only [MpassS, MpassR, bI, if_pos c1, if_neg (not_not_intro c1), hk9c]; rfl) | rfl | (simp [MpassS, MpassR, bI, if_pos c1, if_neg (not_not_intro c1), hk9c]; done)) hP hD hS (Nat.le_of_ble_eq_true rfl) (Nat.le_of_ble_eq_true rfl) dX4_pass_30
  ·
    refine lv_aload_n hx hb dX4_pass_15 rfl (lv_at hl 0 rfl) ?_
    refine lv_iconst (v := (nI 1)) hx hb dX4_pass_16 (by decide) ?_
    refine k_Vi (As := [.int (nI 1)]) (r := (nI 0)) hF (c_X4_fails l g a (sMth m9 (nI 0)) (nI 1)) (cwV 1 hts gX4_pass_X4_fails rfl rfl rfl (by decide +kernel) ⟨Nat.le_of_ble_eq_true rfl, Nat.le_of_ble_eq_true rfl⟩) hE hP hD hS hA (k_pall _) ((k_pall _).symm) 0 rfl rfl rfl rfl hl.1 rfl (Nat.le_of_ble_eq_true rfl) dX4_pass_17 ⟨Nat.le_of_ble_eq_true rfl, Nat.le_of_ble_eq_true rfl⟩ (fun H locs hP hD hS => ?_)
    have hP : va_P g.1 vwCl (wM g a (sMth m9 (nI 1))) _ := hP
    have hD : va_D A (wM g a (sMth m9 (nI 1))) := hD
    have e3 : (MpassS j mins m9) = (sMth m9 (nI 1)) := (by first | (simp only [MpassS, MpassR, if_neg c1, if_pos c1]; done) | (simp only [MpassS, MpassR, if_neg c1, if_pos c1]; rfl) | rfl | (simp [MpassS, MpassR, if_neg c1, if_pos c1]; done))
    have hP : va_P g.1 vwCl (wM g a (MpassS j mins m9)) H := by rw [e3]; exact hP
    have hD : va_D A (wM g a (MpassS j mins m9)) := by rw [e3]; exact hD
    exact k_iret hx hb hr hlocks rfl (by first | (simp only [MpassS, MpassR, bI, if_neg c1, if_pos c1]; done) | (simp only [MpassS, MpassR, bI, if_neg c1, if_pos c1]; rfl) | rfl | (simp [MpassS, MpassR, bI, if_neg c1, if_pos c1]; done)) hP hD hS (Nat.le_of_ble_eq_true rfl) (Nat.le_of_ble_eq_true rfl) dX4_pass_20
set_option maxHeartbeats 4000000 in
set_option maxRecDepth 100000 in
theorem c_X4_plays (l : Launch) (g : kG) (a : Nat → Nat) (m9 : MSt) (c9 : Nat) (hc6 : c9 < 6) : KI l yX4_plays wsX4_plays ({ frames := 2, cells := 0, slots := 0, locals := 43 }) g [.ref (a 0), .int (nI c9)] (wM g a m9) (MplayQ (ms m9) c9 8) (wM g a (sMs m9 (MplayN (ms m9) c9 8))) 0 0 := by
  refine k_begin (cc := cX4_plays) (maxL := 6) (ret := (some .int)) (Qc := fun A => kQi g (MplayQ (ms m9) c9 8) (wM g a (sMs m9 (MplayN (ms m9) c9 8))) A) (by decide) rfl (Nat.le_of_ble_eq_true rfl) ?_
  intro p e s m below meth c A ls hF hr hlocks hin hE hP hD hS hA hl
  obtain ⟨hx, hb, hml, hown, hts⟩ := id hF
  have hown : s.vm.findClass RX4 = some m.cls := hown
  have hl : lv_has ls 6 [(0, .ref (a 0)), (1, .int (nI c9))] := hl
  have hiX4 : ∀ w ∈ wsX40, w ∈ wsX4_plays := fun _ h => List.mem_cons_of_mem _ (List.mem_append_right _ (h))
  have f7 : (Cond.fieldLink RX4 7 "ConcertUsherModel" "s" "[I").before _ s = true := hts _ (List.mem_of_getElem? (i := 1) rfl)
  refine lv_iconst (v := (nI 0)) hx hb dX4_plays_0 (by decide) ?_
  refine lv_istore_n (lv' := [(2, .int (nI 0)), (0, .ref (a 0)), (1, .int (nI c9))]) hx hb dX4_plays_1 rfl hl (by decide) rfl (fun ls hl => ?_)
  refine lv_iconst (v := (nI 0)) hx hb dX4_plays_2 (by decide) ?_
  refine lv_istore_n (lv' := [(3, .int (nI 0)), (2, .int (nI 0)), (0, .ref (a 0)), (1, .int (nI c9))]) hx hb dX4_plays_3 rfl hl (by decide) rfl (fun ls hl => ?_)
  refine k_loop (N := 8) (Inv := fun (i : Nat) (H : Heap) (locs : List Loc) (ls : Array Slot) => va_P g.1 vwCl (wM g a (sMs m9 (MplayN (ms m9) c9 i))) H ∧ va_D A (wM g a (sMs m9 (MplayN (ms m9) c9 i))) ∧ va_S A s.heap H locs ∧ lv_has ls 6 [(3, .int (nI i)), (2, .int (MplayQ (ms m9) c9 i)), (0, .ref (a 0)), (1, .int (nI c9))]) 0 (Nat.zero_le _) ⟨hP, hD, hS, lv_sub hl [0, 1, 2, 3] rfl⟩ (fun i hle2 ih1 H locs ls hinv => ?_)
  obtain ⟨hP, hD, hS, hl⟩ := hinv
  refine lv_iload_n hx hb dX4_plays_4 rfl (lv_at hl 0 rfl) ?_
  refine lv_bipush (v := (nI 8)) hx hb dX4_plays_5 (by decide) ?_
  refine k_geN (tgt := 120) hx hb (by omega) (by decide) dX4_plays_7 (by decide) (fun c3 => ?_) (fun c3 => ?_)
  ·
    obtain rfl : 8 = i := by omega
    refine lv_iload_n hx hb dX4_plays_120 rfl (lv_at hl 1 rfl) ?_
    have hP : va_P g.1 vwCl (wM g a (sMs m9 (MplayN (ms m9) c9 8))) _ := hP
    have hD : va_D A (wM g a (sMs m9 (MplayN (ms m9) c9 8))) := hD
    exact k_iret hx hb hr hlocks rfl rfl hP hD hS (Nat.le_of_ble_eq_true rfl) (Nat.le_of_ble_eq_true rfl) dX4_plays_121
  ·
    refine lv_aload_n hx hb dX4_plays_10 rfl (lv_at hl 2 rfl) ?_
    refine lv_iload_n hx hb dX4_plays_11 rfl (lv_at hl 0 rfl) ?_
    refine lv_iload_n hx hb dX4_plays_12 rfl (lv_at hl 3 rfl) ?_
    refine k_Vi (As := [.int (nI i), .int (nI c9)]) (r := (bI (Mgoes (MplayN (ms m9) c9 i) i c9))) hF (c_X4_goes l g a (sMs m9 (MplayN (ms m9) c9 i)) i c9 (by omega) (by omega)) (cwV 2 hts gX4_plays_X4_goes rfl rfl rfl (by decide +kernel) ⟨Nat.le_of_ble_eq_true rfl, Nat.le_of_ble_eq_true rfl⟩) hE hP hD hS hA (k_pall _) ((k_pall _).symm) 0 rfl rfl rfl rfl hl.1 rfl (Nat.le_of_ble_eq_true rfl) dX4_plays_13 ⟨Nat.le_of_ble_eq_true rfl, Nat.le_of_ble_eq_true rfl⟩ (fun H locs hP hD hS => ?_)
    have hP : va_P g.1 vwCl (wM g a (sMs m9 (MplayN (ms m9) c9 i))) _ := hP
    have hD : va_D A (wM g a (sMs m9 (MplayN (ms m9) c9 i))) := hD
    refine lv_istore (lv' := [(4, .int (bI (Mgoes (MplayN (ms m9) c9 i) i c9))), (3, .int (nI i)), (2, .int (MplayQ (ms m9) c9 i)), (0, .ref (a 0)), (1, .int (nI c9))]) hx hb dX4_plays_16 hl (by decide) rfl (fun ls hl => ?_)
    refine lv_aload_n hx hb dX4_plays_18 rfl (lv_at hl 3 rfl) ?_
    refine lv_iload_n hx hb dX4_plays_19 rfl (lv_at hl 1 rfl) ?_
    refine lv_iload_n hx hb dX4_plays_20 rfl (lv_at hl 4 rfl) ?_
    refine k_Vi (As := [.int (nI i), .int (nI c9)]) (r := (bI (Mwants (MplayN (ms m9) c9 i) i c9))) hF (c_X4_wants l g a (sMs m9 (MplayN (ms m9) c9 i)) i c9 (by omega) (by omega)) (cwV 2 hts gX4_plays_X4_wants rfl rfl rfl (by decide +kernel) ⟨Nat.le_of_ble_eq_true rfl, Nat.le_of_ble_eq_true rfl⟩) hE hP hD hS hA (k_pall _) ((k_pall _).symm) 0 rfl rfl rfl rfl hl.1 rfl (Nat.le_of_ble_eq_true rfl) dX4_plays_21 ⟨Nat.le_of_ble_eq_true rfl, Nat.le_of_ble_eq_true rfl⟩ (fun H locs hP hD hS => ?_)
    have hP : va_P g.1 vwCl (wM g a (sMs m9 (MplayN (ms m9) c9 i))) _ := hP
    have hD : va_D A (wM g a (sMs m9 (MplayN (ms m9) c9 i))) := hD
    refine lv_istore (lv' := [(5, .int (bI (Mwants (MplayN (ms m9) c9 i) i c9))), (4, .int (bI (Mgoes (MplayN (ms m9) c9 i) i c9))), (3, .int (nI i)), (2, .int (MplayQ (ms m9) c9 i)), (0, .ref (a 0)), (1, .int (nI c9))]) hx hb dX4_plays_24 hl (by decide) rfl (fun ls hl => ?_)
    refine lv_aload_n hx hb dX4_plays_26 rfl (lv_at hl 4 rfl) ?_
    refine va_get (D := g.1) (ci := 4) (v := .ref (a 1)) (C := RX4) (T := TX4) (N := 12) hx hb hts hiX4 hown hE.1 hP 0 rfl rfl 1 (by decide) f7 (fun _ h9 => h9) rfl dX4_plays_27 ?_
    refine lv_bipush (v := (nI 7)) hx hb dX4_plays_30 (by decide) ?_
    refine lv_dup2_11 hx hb dX4_plays_32 rfl rfl ?_
    refine k_iald (f := (MplayN (ms m9) c9 i)) hx hb hE hP 1 rfl 7 rfl (by decide) (by decide) dX4_plays_33 ?_
    refine k_meet (x := .int (bI ((Mgoes (MplayN (ms m9) c9 i) i c9) ∧ (Mwants (MplayN (ms m9) c9 i) i c9)))) (pj := 49) (rest := [.int ((MplayN (ms m9) c9 i) 7), .int (nI 7), .ref (a 1)]) (fun J4 => ?_) ?_
    ·
      refine lv_iload hx hb dX4_plays_34 (lv_at hl 1 rfl) ?_
      refine k_ifeqB (tgt := 48) hx hb dX4_plays_36 (by decide) (fun c5 => ?_) (fun c5 => ?_)
      ·
        refine lv_iconst (v := (nI 0)) hx hb dX4_plays_48 (by decide) ?_
        exact k_top (by first | (simp only [bI, if_neg (Nat.not_le.mpr c3), if_pos (Nat.not_le.mpr c3), if_neg c5, if_pos c5]; done) | (simp only [bI, if_neg (Nat.not_le.mpr c3), if_pos (Nat.not_le.mpr c3), if_neg c5, if_pos c5]; rfl) | rfl | (simp [bI, if_neg (Nat.not_le.mpr c3), if_pos (Nat.not_le.mpr c3), if_neg c5, if_pos c5]; done)) J4
      ·
        refine lv_iload hx hb dX4_plays_39 (lv_at hl 0 rfl) ?_
        refine k_ifeqB (tgt := 48) hx hb dX4_plays_41 (by decide) (fun c6 => ?_) (fun c6 => ?_)
        ·
          refine lv_iconst (v := (nI 0)) hx hb dX4_plays_48 (by decide) ?_
          exact k_top (by first | (simp only [bI, if_neg (Nat.not_le.mpr c3), if_pos (Nat.not_le.mpr c3), if_pos c5, if_neg (not_not_intro c5), if_neg c6, if_pos c6]; done) | (simp only [bI, if_neg (Nat.not_le.mpr c3), if_pos (Nat.not_le.mpr c3), if_pos c5, if_neg (not_not_intro c5), if_neg c6, if_pos c6]; rfl) | rfl | (simp [bI, if_neg (Nat.not_le.mpr c3), if_pos (Nat.not_le.mpr c3), if_pos c5, if_neg (not_not_intro c5), if_neg c6, if_pos c6]; done)) J4
        ·
          refine lv_iconst (v := (nI 1)) hx hb dX4_plays_44 (by decide) ?_
          refine lv_goto (tgt := 49) hx hb dX4_plays_45 (by decide) ?_
          exact k_top (by first | (simp only [bI, if_neg (Nat.not_le.mpr c3), if_pos (Nat.not_le.mpr c3), if_pos c5, if_neg (not_not_intro c5), if_pos c6, if_neg (not_not_intro c6)]; done) | (simp only [bI, if_neg (Nat.not_le.mpr c3), if_pos (Nat.not_le.mpr c3), if_pos c5, if_neg (not_not_intro c5), if_pos c6, if_neg (not_not_intro c6)]; rfl) | rfl | (simp [bI, if_neg (Nat.not_le.mpr c3), if_pos (Nat.not_le.mpr c3), if_pos c5, if_neg (not_not_intro c5), if_pos c6, if_neg (not_not_intro c6)]; done)) J4
    ·
      refine lv_iadd hx hb dX4_plays_49 ?_
      refine k_iast (f := (MplayN (ms m9) c9 i)) (ws1 := (wM g a (sMs m9 (upd (MplayN (ms m9) c9 i) 7 (((MplayN (ms m9) c9 i) 7) + (bI ((Mgoes (MplayN (ms m9) c9 i) i c9) ∧ (Mwants (MplayN (ms m9) c9 i) i c9)))))))) hx hb hE hP hD hS 1 rfl 7 rfl (by decide) (by decide) rfl dX4_plays_50 (fun H locs hP hD hS => ?_)
      refine lv_aload_n hx hb dX4_plays_51 rfl (lv_at hl 4 rfl) ?_
      refine va_get (D := g.1) (ci := 4) (v := .ref (a 1)) (C := RX4) (T := TX4) (N := 12) hx hb hts hiX4 hown hE.1 hP 0 rfl rfl 1 (by decide) f7 (fun _ h9 => h9) rfl dX4_plays_52 ?_
      refine lv_bipush (v := (nI 8)) hx hb dX4_plays_55 (by decide) ?_
      refine lv_dup2_11 hx hb dX4_plays_57 rfl rfl ?_
      refine k_iald (f := (upd (MplayN (ms m9) c9 i) 7 (((MplayN (ms m9) c9 i) 7) + (bI ((Mgoes (MplayN (ms m9) c9 i) i c9) ∧ (Mwants (MplayN (ms m9) c9 i) i c9)))))) hx hb hE hP 1 rfl 8 rfl (by decide) (by decide) dX4_plays_58 ?_
      refine k_meet (x := .int (bI ((Mgoes (MplayN (ms m9) c9 i) i c9) ∧ ¬ (Mwants (MplayN (ms m9) c9 i) i c9)))) (pj := 74) (rest := [.int ((upd (MplayN (ms m9) c9 i) 7 (((MplayN (ms m9) c9 i) 7) + (bI ((Mgoes (MplayN (ms m9) c9 i) i c9) ∧ (Mwants (MplayN (ms m9) c9 i) i c9))))) 8), .int (nI 8), .ref (a 1)]) (fun J7 => ?_) ?_
      ·
        refine lv_iload hx hb dX4_plays_59 (lv_at hl 1 rfl) ?_
        refine k_ifeqB (tgt := 73) hx hb dX4_plays_61 (by decide) (fun c8 => ?_) (fun c8 => ?_)
        ·
          refine lv_iconst (v := (nI 0)) hx hb dX4_plays_73 (by decide) ?_
          exact k_top (by first | (simp only [bI, if_neg (Nat.not_le.mpr c3), if_pos (Nat.not_le.mpr c3), if_neg c8, if_pos c8]; done) | (simp only [bI, if_neg (Nat.not_le.mpr c3), if_pos (Nat.not_le.mpr c3), if_neg c8, if_pos c8]; rfl) | rfl | (simp [bI, if_neg (Nat.not_le.mpr c3), if_pos (Nat.not_le.mpr c3), if_neg c8, if_pos c8]; done)) J7
        ·
          refine lv_iload hx hb dX4_plays_64 (lv_at hl 0 rfl) ?_
          refine k_ifneB (tgt := 73) hx hb dX4_plays_66 (by decide) (fun c9 => ?_) (fun c9 => ?_)
          ·
            refine lv_iconst (v := (nI 0)) hx hb dX4_plays_73 (by decide) ?_
            exact k_top (by first | (simp only [bI, if_neg (Nat.not_le.mpr c3), if_pos (Nat.not_le.mpr c3), if_pos c8, if_neg (not_not_intro c8), if_pos c9, if_neg (not_not_intro c9)]; done) | (simp only [bI, if_neg (Nat.not_le.mpr c3), if_pos (Nat.not_le.mpr c3), if_pos c8, if_neg (not_not_intro c8), if_pos c9, if_neg (not_not_intro c9)]; rfl) | rfl | (simp [bI, if_neg (Nat.not_le.mpr c3), if_pos (Nat.not_le.mpr c3), if_pos c8, if_neg (not_not_intro c8), if_pos c9, if_neg (not_not_intro c9)]; done)) J7
          ·
            refine lv_iconst (v := (nI 1)) hx hb dX4_plays_69 (by decide) ?_
            refine lv_goto (tgt := 74) hx hb dX4_plays_70 (by decide) ?_
            exact k_top (by first | (simp only [bI, if_neg (Nat.not_le.mpr c3), if_pos (Nat.not_le.mpr c3), if_pos c8, if_neg (not_not_intro c8), if_neg c9, if_pos c9]; done) | (simp only [bI, if_neg (Nat.not_le.mpr c3), if_pos (Nat.not_le.mpr c3), if_pos c8, if_neg (not_not_intro c8), if_neg c9, if_pos c9]; rfl) | rfl | (simp [bI, if_neg (Nat.not_le.mpr c3), if_pos (Nat.not_le.mpr c3), if_pos c8, if_neg (not_not_intro c8), if_neg c9, if_pos c9]; done)) J7
      ·
        refine lv_iadd hx hb dX4_plays_74 ?_
        refine k_iast (f := (upd (MplayN (ms m9) c9 i) 7 (((MplayN (ms m9) c9 i) 7) + (bI ((Mgoes (MplayN (ms m9) c9 i) i c9) ∧ (Mwants (MplayN (ms m9) c9 i) i c9)))))) (ws1 := (wM g a (sMs m9 (upd (upd (MplayN (ms m9) c9 i) 7 (((MplayN (ms m9) c9 i) 7) + (bI ((Mgoes (MplayN (ms m9) c9 i) i c9) ∧ (Mwants (MplayN (ms m9) c9 i) i c9))))) 8 (((upd (MplayN (ms m9) c9 i) 7 (((MplayN (ms m9) c9 i) 7) + (bI ((Mgoes (MplayN (ms m9) c9 i) i c9) ∧ (Mwants (MplayN (ms m9) c9 i) i c9))))) 8) + (bI ((Mgoes (MplayN (ms m9) c9 i) i c9) ∧ ¬ (Mwants (MplayN (ms m9) c9 i) i c9)))))))) hx hb hE hP hD hS 1 rfl 8 rfl (by decide) (by decide) rfl dX4_plays_75 (fun H locs hP hD hS => ?_)
        refine lv_aload_n hx hb dX4_plays_76 rfl (lv_at hl 4 rfl) ?_
        refine va_get (D := g.1) (ci := 4) (v := .ref (a 1)) (C := RX4) (T := TX4) (N := 12) hx hb hts hiX4 hown hE.1 hP 0 rfl rfl 1 (by decide) f7 (fun _ h9 => h9) rfl dX4_plays_77 ?_
        refine lv_bipush (v := (nI 9)) hx hb dX4_plays_80 (by decide) ?_
        refine lv_dup2_11 hx hb dX4_plays_82 rfl rfl ?_
        refine k_iald (f := (upd (upd (MplayN (ms m9) c9 i) 7 (((MplayN (ms m9) c9 i) 7) + (bI ((Mgoes (MplayN (ms m9) c9 i) i c9) ∧ (Mwants (MplayN (ms m9) c9 i) i c9))))) 8 (((upd (MplayN (ms m9) c9 i) 7 (((MplayN (ms m9) c9 i) 7) + (bI ((Mgoes (MplayN (ms m9) c9 i) i c9) ∧ (Mwants (MplayN (ms m9) c9 i) i c9))))) 8) + (bI ((Mgoes (MplayN (ms m9) c9 i) i c9) ∧ ¬ (Mwants (MplayN (ms m9) c9 i) i c9)))))) hx hb hE hP 1 rfl 9 rfl (by decide) (by decide) dX4_plays_83 ?_
        refine k_meet (x := .int (bI (¬ (Mgoes (MplayN (ms m9) c9 i) i c9) ∧ (Mwants (MplayN (ms m9) c9 i) i c9)))) (pj := 99) (rest := [.int ((upd (upd (MplayN (ms m9) c9 i) 7 (((MplayN (ms m9) c9 i) 7) + (bI ((Mgoes (MplayN (ms m9) c9 i) i c9) ∧ (Mwants (MplayN (ms m9) c9 i) i c9))))) 8 (((upd (MplayN (ms m9) c9 i) 7 (((MplayN (ms m9) c9 i) 7) + (bI ((Mgoes (MplayN (ms m9) c9 i) i c9) ∧ (Mwants (MplayN (ms m9) c9 i) i c9))))) 8) + (bI ((Mgoes (MplayN (ms m9) c9 i) i c9) ∧ ¬ (Mwants (MplayN (ms m9) c9 i) i c9))))) 9), .int (nI 9), .ref (a 1)]) (fun J10 => ?_) ?_
        ·
          refine lv_iload hx hb dX4_plays_84 (lv_at hl 1 rfl) ?_
          refine k_ifneB (tgt := 98) hx hb dX4_plays_86 (by decide) (fun c11 => ?_) (fun c11 => ?_)
          ·
            refine lv_iconst (v := (nI 0)) hx hb dX4_plays_98 (by decide) ?_
            exact k_top (by first | (simp only [bI, if_neg (Nat.not_le.mpr c3), if_pos (Nat.not_le.mpr c3), if_pos c11, if_neg (not_not_intro c11)]; done) | (simp only [bI, if_neg (Nat.not_le.mpr c3), if_pos (Nat.not_le.mpr c3), if_pos c11, if_neg (not_not_intro c11)]; rfl) | rfl | (simp [bI, if_neg (Nat.not_le.mpr c3), if_pos (Nat.not_le.mpr c3), if_pos c11, if_neg (not_not_intro c11)]; done)) J10
          ·
            refine lv_iload hx hb dX4_plays_89 (lv_at hl 0 rfl) ?_
            refine k_ifeqB (tgt := 98) hx hb dX4_plays_91 (by decide) (fun c12 => ?_) (fun c12 => ?_)
            ·
              refine lv_iconst (v := (nI 0)) hx hb dX4_plays_98 (by decide) ?_
              exact k_top (by first | (simp only [bI, if_neg (Nat.not_le.mpr c3), if_pos (Nat.not_le.mpr c3), if_neg c11, if_pos c11, if_neg c12, if_pos c12]; done) | (simp only [bI, if_neg (Nat.not_le.mpr c3), if_pos (Nat.not_le.mpr c3), if_neg c11, if_pos c11, if_neg c12, if_pos c12]; rfl) | rfl | (simp [bI, if_neg (Nat.not_le.mpr c3), if_pos (Nat.not_le.mpr c3), if_neg c11, if_pos c11, if_neg c12, if_pos c12]; done)) J10
            ·
              refine lv_iconst (v := (nI 1)) hx hb dX4_plays_94 (by decide) ?_
              refine lv_goto (tgt := 99) hx hb dX4_plays_95 (by decide) ?_
              exact k_top (by first | (simp only [bI, if_neg (Nat.not_le.mpr c3), if_pos (Nat.not_le.mpr c3), if_neg c11, if_pos c11, if_pos c12, if_neg (not_not_intro c12)]; done) | (simp only [bI, if_neg (Nat.not_le.mpr c3), if_pos (Nat.not_le.mpr c3), if_neg c11, if_pos c11, if_pos c12, if_neg (not_not_intro c12)]; rfl) | rfl | (simp [bI, if_neg (Nat.not_le.mpr c3), if_pos (Nat.not_le.mpr c3), if_neg c11, if_pos c11, if_pos c12, if_neg (not_not_intro c12)]; done)) J10
        ·
          refine lv_iadd hx hb dX4_plays_99 ?_
          refine k_iast (f := (upd (upd (MplayN (ms m9) c9 i) 7 (((MplayN (ms m9) c9 i) 7) + (bI ((Mgoes (MplayN (ms m9) c9 i) i c9) ∧ (Mwants (MplayN (ms m9) c9 i) i c9))))) 8 (((upd (MplayN (ms m9) c9 i) 7 (((MplayN (ms m9) c9 i) 7) + (bI ((Mgoes (MplayN (ms m9) c9 i) i c9) ∧ (Mwants (MplayN (ms m9) c9 i) i c9))))) 8) + (bI ((Mgoes (MplayN (ms m9) c9 i) i c9) ∧ ¬ (Mwants (MplayN (ms m9) c9 i) i c9)))))) (ws1 := (wM g a (sMs m9 (upd (upd (upd (MplayN (ms m9) c9 i) 7 (((MplayN (ms m9) c9 i) 7) + (bI ((Mgoes (MplayN (ms m9) c9 i) i c9) ∧ (Mwants (MplayN (ms m9) c9 i) i c9))))) 8 (((upd (MplayN (ms m9) c9 i) 7 (((MplayN (ms m9) c9 i) 7) + (bI ((Mgoes (MplayN (ms m9) c9 i) i c9) ∧ (Mwants (MplayN (ms m9) c9 i) i c9))))) 8) + (bI ((Mgoes (MplayN (ms m9) c9 i) i c9) ∧ ¬ (Mwants (MplayN (ms m9) c9 i) i c9))))) 9 (((upd (upd (MplayN (ms m9) c9 i) 7 (((MplayN (ms m9) c9 i) 7) + (bI ((Mgoes (MplayN (ms m9) c9 i) i c9) ∧ (Mwants (MplayN (ms m9) c9 i) i c9))))) 8 (((upd (MplayN (ms m9) c9 i) 7 (((MplayN (ms m9) c9 i) 7) + (bI ((Mgoes (MplayN (ms m9) c9 i) i c9) ∧ (Mwants (MplayN (ms m9) c9 i) i c9))))) 8) + (bI ((Mgoes (MplayN (ms m9) c9 i) i c9) ∧ ¬ (Mwants (MplayN (ms m9) c9 i) i c9))))) 9) + (bI (¬ (Mgoes (MplayN (ms m9) c9 i) i c9) ∧ (Mwants (MplayN (ms m9) c9 i) i c9)))))))) hx hb hE hP hD hS 1 rfl 9 rfl (by decide) (by decide) rfl dX4_plays_100 (fun H locs hP hD hS => ?_)
          refine lv_iload_n hx hb dX4_plays_101 rfl (lv_at hl 3 rfl) ?_
          refine lv_iload hx hb dX4_plays_102 (lv_at hl 1 rfl) ?_
          refine k_meet (x := .int (bI (Mgoes (MplayN (ms m9) c9 i) i c9))) (pj := 112) (rest := [.int (MplayQ (ms m9) c9 i)]) (fun J13 => ?_) ?_
          ·
            refine k_ifeqB (tgt := 111) hx hb dX4_plays_104 (by decide) (fun c14 => ?_) (fun c14 => ?_)
            ·
              refine lv_iconst (v := (nI 0)) hx hb dX4_plays_111 (by decide) ?_
              exact k_top (by first | (simp only [bI, if_neg (Nat.not_le.mpr c3), if_pos (Nat.not_le.mpr c3), if_neg c14, if_pos c14]; done) | (simp only [bI, if_neg (Nat.not_le.mpr c3), if_pos (Nat.not_le.mpr c3), if_neg c14, if_pos c14]; rfl) | rfl | (simp [bI, if_neg (Nat.not_le.mpr c3), if_pos (Nat.not_le.mpr c3), if_neg c14, if_pos c14]; done)) J13
            ·
              refine lv_iconst (v := (nI 1)) hx hb dX4_plays_107 (by decide) ?_
              refine lv_goto (tgt := 112) hx hb dX4_plays_108 (by decide) ?_
              exact k_top (by first | (simp only [bI, if_neg (Nat.not_le.mpr c3), if_pos (Nat.not_le.mpr c3), if_pos c14, if_neg (not_not_intro c14)]; done) | (simp only [bI, if_neg (Nat.not_le.mpr c3), if_pos (Nat.not_le.mpr c3), if_pos c14, if_neg (not_not_intro c14)]; rfl) | rfl | (simp [bI, if_neg (Nat.not_le.mpr c3), if_pos (Nat.not_le.mpr c3), if_pos c14, if_neg (not_not_intro c14)]; done)) J13
          ·
            refine lv_iadd hx hb dX4_plays_112 ?_
            refine lv_istore_n (lv' := [(2, .int ((MplayQ (ms m9) c9 i) + (bI (Mgoes (MplayN (ms m9) c9 i) i c9)))), (5, .int (bI (Mwants (MplayN (ms m9) c9 i) i c9))), (4, .int (bI (Mgoes (MplayN (ms m9) c9 i) i c9))), (3, .int (nI i)), (0, .ref (a 0)), (1, .int (nI c9))]) hx hb dX4_plays_113 rfl hl (by decide) rfl (fun ls hl => ?_)
            refine lv_iinc (v := (nI (i + 1))) (lv' := [(3, .int (nI (i + 1))), (2, .int ((MplayQ (ms m9) c9 i) + (bI (Mgoes (MplayN (ms m9) c9 i) i c9)))), (5, .int (bI (Mwants (MplayN (ms m9) c9 i) i c9))), (4, .int (bI (Mgoes (MplayN (ms m9) c9 i) i c9))), (0, .ref (a 0)), (1, .int (nI c9))]) hx hb dX4_plays_114 hl (k := 3) rfl (k_inc1 _) (by decide) rfl (fun ls hl => ?_)
            refine lv_goto (tgt := 4) hx hb dX4_plays_117 (by decide) ?_
            have e15 : (sMs m9 (MplayN (ms m9) c9 (i + 1))) = (sMs m9 (upd (upd (upd (MplayN (ms m9) c9 i) 7 (((MplayN (ms m9) c9 i) 7) + (bI ((Mgoes (MplayN (ms m9) c9 i) i c9) ∧ (Mwants (MplayN (ms m9) c9 i) i c9))))) 8 (((upd (MplayN (ms m9) c9 i) 7 (((MplayN (ms m9) c9 i) 7) + (bI ((Mgoes (MplayN (ms m9) c9 i) i c9) ∧ (Mwants (MplayN (ms m9) c9 i) i c9))))) 8) + (bI ((Mgoes (MplayN (ms m9) c9 i) i c9) ∧ ¬ (Mwants (MplayN (ms m9) c9 i) i c9))))) 9 (((upd (upd (MplayN (ms m9) c9 i) 7 (((MplayN (ms m9) c9 i) 7) + (bI ((Mgoes (MplayN (ms m9) c9 i) i c9) ∧ (Mwants (MplayN (ms m9) c9 i) i c9))))) 8 (((upd (MplayN (ms m9) c9 i) 7 (((MplayN (ms m9) c9 i) 7) + (bI ((Mgoes (MplayN (ms m9) c9 i) i c9) ∧ (Mwants (MplayN (ms m9) c9 i) i c9))))) 8) + (bI ((Mgoes (MplayN (ms m9) c9 i) i c9) ∧ ¬ (Mwants (MplayN (ms m9) c9 i) i c9))))) 9) + (bI (¬ (Mgoes (MplayN (ms m9) c9 i) i c9) ∧ (Mwants (MplayN (ms m9) c9 i) i c9)))))) := (by first | (simp only [MplayN, MplayQ, Mp1, if_neg (Nat.not_le.mpr c3), if_pos (Nat.not_le.mpr c3)]; done) | (simp only [MplayN, MplayQ, Mp1, if_neg (Nat.not_le.mpr c3), if_pos (Nat.not_le.mpr c3)]; rfl) | rfl | (simp [MplayN, MplayQ, Mp1, if_neg (Nat.not_le.mpr c3), if_pos (Nat.not_le.mpr c3)]; done))
            have e16 : (MplayQ (ms m9) c9 (i + 1)) = ((MplayQ (ms m9) c9 i) + (bI (Mgoes (MplayN (ms m9) c9 i) i c9))) := (by first | (simp only [MplayN, MplayQ, Mp1, bI, if_neg (Nat.not_le.mpr c3), if_pos (Nat.not_le.mpr c3)]; done) | (simp only [MplayN, MplayQ, Mp1, bI, if_neg (Nat.not_le.mpr c3), if_pos (Nat.not_le.mpr c3)]; rfl) | rfl | (simp [MplayN, MplayQ, Mp1, bI, if_neg (Nat.not_le.mpr c3), if_pos (Nat.not_le.mpr c3)]; done))
            exact ih1 _ _ _ (by omega) ⟨(by rw [e15]; exact hP), (by rw [e15]; exact hD), hS, (by rw [e16]; exact lv_sub hl [0, 1, 4, 5] rfl)⟩
set_option maxHeartbeats 4000000 in
set_option maxRecDepth 100000 in
theorem c_X4_play (l : Launch) (g : kG) (a : Nat → Nat) (m9 : MSt) (j : Nat) (hj : j ≤ 6) (hjm : msm m9 = nI j) (con : Int32) : KI l yX4_play wsX4_play ({ frames := 3, cells := 0, slots := 0, locals := 68 }) g [.ref (a 0), .int con] (wM g a m9) (MplayR con m9) (wM g a (MplayS j con m9)) 0 0 := by
  refine k_begin (cc := cX4_play) (maxL := 2) (ret := (some .int)) (Qc := fun A => kQi g (MplayR con m9) (wM g a (MplayS j con m9)) A) (by decide) rfl (Nat.le_of_ble_eq_true rfl) ?_
  intro p e s m below meth c A ls hF hr hlocks hin hE hP hD hS hA hl
  obtain ⟨hx, hb, hml, hown, hts⟩ := id hF
  have hown : s.vm.findClass RX4 = some m.cls := hown
  have hl : lv_has ls 2 [(0, .ref (a 0)), (1, .int con)] := hl
  have hiX4 : ∀ w ∈ wsX40, w ∈ wsX4_play := fun _ h => List.mem_cons_of_mem _ (List.mem_append_right _ (h))
  have f25 : (Cond.fieldLink RX4 25 "ConcertUsherModel" "thrown" "I").before _ s = true := hts _ (List.mem_of_getElem? (i := 1) rfl)
  refine lv_aload_n hx hb dX4_play_0 rfl (lv_at hl 0 rfl) ?_
  refine lv_iconst (v := (nI 0)) hx hb dX4_play_1 (by decide) ?_
  refine va_put (D := g.1) (ci := 4) (v := .int (nI 0)) (ty := .int) (C := RX4) (T := TX4) (N := 12) hx hb hts hiX4 tyX4 tyX4_ok nmX4 hown hE.1 hP hD hS 0 rfl rfl 0 (by decide) f25 (fun _ h9 => h9) rfl (tyX4_ok 0 (by decide)) rfl rfl (Nat.le_of_ble_eq_true rfl) dX4_play_2 (fun H locs hP hD hS => ?_)
  have hP : va_P g.1 vwCl (wM g a (sMth m9 (nI 0))) _ := hP
  have hD : va_D A (wM g a (sMth m9 (nI 0))) := hD
  refine lv_iload_n hx hb dX4_play_5 rfl (lv_at hl 1 rfl) ?_
  refine k_Si (w0 := []) (w1 := []) (As := [.int con]) (r := (bI (nI 0 ≤ con ∧ con ≤ nI 5))) hF (c_X4_isConcert l g con) (va_cwS 1 hts gX4_play_X4_isConcert rfl rfl rfl (by decide +kernel) ⟨Nat.le_of_ble_eq_true rfl, Nat.le_of_ble_eq_true rfl⟩) hE hP hD hS hA (List.Perm.refl _) (List.Perm.refl _) rfl hl.1 rfl (Nat.le_of_ble_eq_true rfl) dX4_play_6 ⟨Nat.le_of_ble_eq_true rfl, Nat.le_of_ble_eq_true rfl⟩ (fun H locs hP hD hS => ?_)
  have hP : va_P g.1 vwCl (wM g a (sMth m9 (nI 0))) _ := hP
  have hD : va_D A (wM g a (sMth m9 (nI 0))) := hD
  refine k_ifneB (tgt := 18) hx hb dX4_play_9 (by decide) (fun c1 => ?_) (fun c1 => ?_)
  ·
    obtain ⟨c9, hc9, hc9e⟩ := in_nat (by decide) (by decide) c1
    have hc9c : con.toNatClampNeg = c9 := cl_eq hc9e (by omega)
    refine lv_aload_n hx hb dX4_play_18 rfl (lv_at hl 0 rfl) ?_
    refine k_Vv (As := []) hF (c_X4_saves l g a (sMth m9 (nI 0)) j (by omega) hjm) (cwV 0 hts gX4_play_X4_saves rfl rfl rfl (by decide +kernel) ⟨Nat.le_of_ble_eq_true rfl, Nat.le_of_ble_eq_true rfl⟩) hE hP hD hS hA (k_pall _) ((k_pall _).symm) 0 rfl rfl rfl rfl hl.1 rfl (Nat.le_of_ble_eq_true rfl) dX4_play_19 ⟨Nat.le_of_ble_eq_true rfl, Nat.le_of_ble_eq_true rfl⟩ (fun H locs hP hD hS => ?_)
    have hP : va_P g.1 vwCl (wM g a (sMsm (sMsv (sMth m9 (nI 0)) (Msv (ms m9) (msv m9) j)) (nI (kSz j)))) _ := hP
    have hD : va_D A (wM g a (sMsm (sMsv (sMth m9 (nI 0)) (Msv (ms m9) (msv m9) j)) (nI (kSz j)))) := hD
    refine lv_aload_n hx hb dX4_play_22 rfl (lv_at hl 0 rfl) ?_
    refine lv_iload_n hx hb dX4_play_23 rfl (lv_at hl 1 rfl) ?_
    refine k_top hc9e ?_
    refine k_Vi (As := [.int (nI c9)]) (r := (MplayQ (ms m9) c9 8)) hF (c_X4_plays l g a (sMsm (sMsv (sMth m9 (nI 0)) (Msv (ms m9) (msv m9) j)) (nI (kSz j))) c9 (by omega)) (cwV 1 hts gX4_play_X4_plays rfl rfl rfl (by decide +kernel) ⟨Nat.le_of_ble_eq_true rfl, Nat.le_of_ble_eq_true rfl⟩) hE hP hD hS hA (k_pall _) ((k_pall _).symm) 0 rfl rfl rfl rfl hl.1 rfl (Nat.le_of_ble_eq_true rfl) dX4_play_24 ⟨Nat.le_of_ble_eq_true rfl, Nat.le_of_ble_eq_true rfl⟩ (fun H locs hP hD hS => ?_)
    have hP : va_P g.1 vwCl (wM g a (sMs (sMsm (sMsv (sMth m9 (nI 0)) (Msv (ms m9) (msv m9) j)) (nI (kSz j))) (MplayN (ms m9) c9 8))) _ := hP
    have hD : va_D A (wM g a (sMs (sMsm (sMsv (sMth m9 (nI 0)) (Msv (ms m9) (msv m9) j)) (nI (kSz j))) (MplayN (ms m9) c9 8))) := hD
    have e2 : (MplayS j con m9) = (sMs (sMsm (sMsv (sMth m9 (nI 0)) (Msv (ms m9) (msv m9) j)) (nI (kSz j))) (MplayN (ms m9) c9 8)) := (by first | (simp only [MplayS, MplayR, if_pos c1, if_neg (not_not_intro c1), hc9c]; done) | (simp only [MplayS, MplayR, if_pos c1, if_neg (not_not_intro c1), hc9c]; rfl) | rfl | (simp [MplayS, MplayR, if_pos c1, if_neg (not_not_intro c1), hc9c]; done))
    have hP : va_P g.1 vwCl (wM g a (MplayS j con m9)) H := by rw [e2]; exact hP
    have hD : va_D A (wM g a (MplayS j con m9)) := by rw [e2]; exact hD
    exact k_iret hx hb hr hlocks rfl (by first | (simp only [MplayS, MplayR, bI, if_pos c1, if_neg (not_not_intro c1), hc9c]; done) | (simp only [MplayS, MplayR, bI, if_pos c1, if_neg (not_not_intro c1), hc9c]; rfl) | rfl | (simp [MplayS, MplayR, bI, if_pos c1, if_neg (not_not_intro c1), hc9c]; done)) hP hD hS (Nat.le_of_ble_eq_true rfl) (Nat.le_of_ble_eq_true rfl) dX4_play_27
  ·
    refine lv_aload_n hx hb dX4_play_12 rfl (lv_at hl 0 rfl) ?_
    refine lv_iconst (v := (nI 1)) hx hb dX4_play_13 (by decide) ?_
    refine k_Vi (As := [.int (nI 1)]) (r := (nI 0)) hF (c_X4_fails l g a (sMth m9 (nI 0)) (nI 1)) (cwV 1 hts gX4_play_X4_fails rfl rfl rfl (by decide +kernel) ⟨Nat.le_of_ble_eq_true rfl, Nat.le_of_ble_eq_true rfl⟩) hE hP hD hS hA (k_pall _) ((k_pall _).symm) 0 rfl rfl rfl rfl hl.1 rfl (Nat.le_of_ble_eq_true rfl) dX4_play_14 ⟨Nat.le_of_ble_eq_true rfl, Nat.le_of_ble_eq_true rfl⟩ (fun H locs hP hD hS => ?_)
    have hP : va_P g.1 vwCl (wM g a (sMth m9 (nI 1))) _ := hP
    have hD : va_D A (wM g a (sMth m9 (nI 1))) := hD
    have e3 : (MplayS j con m9) = (sMth m9 (nI 1)) := (by first | (simp only [MplayS, MplayR, if_neg c1, if_pos c1]; done) | (simp only [MplayS, MplayR, if_neg c1, if_pos c1]; rfl) | rfl | (simp [MplayS, MplayR, if_neg c1, if_pos c1]; done))
    have hP : va_P g.1 vwCl (wM g a (MplayS j con m9)) H := by rw [e3]; exact hP
    have hD : va_D A (wM g a (MplayS j con m9)) := by rw [e3]; exact hD
    exact k_iret hx hb hr hlocks rfl (by first | (simp only [MplayS, MplayR, bI, if_neg c1, if_pos c1]; done) | (simp only [MplayS, MplayR, bI, if_neg c1, if_pos c1]; rfl) | rfl | (simp [MplayS, MplayR, bI, if_neg c1, if_pos c1]; done)) hP hD hS (Nat.le_of_ble_eq_true rfl) (Nat.le_of_ble_eq_true rfl) dX4_play_17
set_option maxHeartbeats 4000000 in
set_option maxRecDepth 100000 in
theorem c_X4_minutes (l : Launch) (g : kG) (a : Nat → Nat) (m9 : MSt) (j : Nat) (hj : j ≤ 6) (hjm : msm m9 = nI j) : KI l yX4_minutes wsX4_minutes ({ frames := 0, cells := 0, slots := 0, locals := 0 }) g [.ref (a 0)] (wM g a m9) ((ms m9) 5) (wM g a (sMth m9 (nI 0))) 0 0 := by
  refine k_begin (cc := cX4_minutes) (maxL := 1) (ret := (some .int)) (Qc := fun A => kQi g ((ms m9) 5) (wM g a (sMth m9 (nI 0))) A) (by decide) rfl (Nat.le_of_ble_eq_true rfl) ?_
  intro p e s m below meth c A ls hF hr hlocks hin hE hP hD hS hA hl
  obtain ⟨hx, hb, hml, hown, hts⟩ := id hF
  have hown : s.vm.findClass RX4 = some m.cls := hown
  have hl : lv_has ls 1 [(0, .ref (a 0))] := hl
  have hiX4 : ∀ w ∈ wsX40, w ∈ wsX4_minutes := fun _ h => List.mem_cons_of_mem _ (List.mem_append_right _ (h))
  have f25 : (Cond.fieldLink RX4 25 "ConcertUsherModel" "thrown" "I").before _ s = true := hts _ (List.mem_of_getElem? (i := 1) rfl)
  have f7 : (Cond.fieldLink RX4 7 "ConcertUsherModel" "s" "[I").before _ s = true := hts _ (List.mem_of_getElem? (i := 2) rfl)
  refine lv_aload_n hx hb dX4_minutes_0 rfl (lv_at hl 0 rfl) ?_
  refine lv_iconst (v := (nI 0)) hx hb dX4_minutes_1 (by decide) ?_
  refine va_put (D := g.1) (ci := 4) (v := .int (nI 0)) (ty := .int) (C := RX4) (T := TX4) (N := 12) hx hb hts hiX4 tyX4 tyX4_ok nmX4 hown hE.1 hP hD hS 0 rfl rfl 0 (by decide) f25 (fun _ h9 => h9) rfl (tyX4_ok 0 (by decide)) rfl rfl (Nat.le_of_ble_eq_true rfl) dX4_minutes_2 (fun H locs hP hD hS => ?_)
  have hP : va_P g.1 vwCl (wM g a (sMth m9 (nI 0))) _ := hP
  have hD : va_D A (wM g a (sMth m9 (nI 0))) := hD
  refine lv_aload_n hx hb dX4_minutes_5 rfl (lv_at hl 0 rfl) ?_
  refine va_get (D := g.1) (ci := 4) (v := .ref (a 1)) (C := RX4) (T := TX4) (N := 12) hx hb hts hiX4 hown hE.1 hP 0 rfl rfl 1 (by decide) f7 (fun _ h9 => h9) rfl dX4_minutes_6 ?_
  refine lv_iconst (v := (nI 5)) hx hb dX4_minutes_9 (by decide) ?_
  refine k_iald (f := (ms m9)) hx hb hE hP 1 rfl 5 rfl (by decide) (by decide) dX4_minutes_10 ?_
  have hP : va_P g.1 vwCl (wM g a (sMth m9 (nI 0))) _ := hP
  have hD : va_D A (wM g a (sMth m9 (nI 0))) := hD
  exact k_iret hx hb hr hlocks rfl rfl hP hD hS (Nat.le_of_ble_eq_true rfl) (Nat.le_of_ble_eq_true rfl) dX4_minutes_11
set_option maxHeartbeats 4000000 in
set_option maxRecDepth 100000 in
theorem c_X4_sinceQuestion (l : Launch) (g : kG) (a : Nat → Nat) (m9 : MSt) (j : Nat) (hj : j ≤ 6) (hjm : msm m9 = nI j) : KI l yX4_sinceQuestion wsX4_sinceQuestion ({ frames := 0, cells := 0, slots := 0, locals := 0 }) g [.ref (a 0)] (wM g a m9) ((ms m9) 6) (wM g a (sMth m9 (nI 0))) 0 0 := by
  refine k_begin (cc := cX4_sinceQuestion) (maxL := 1) (ret := (some .int)) (Qc := fun A => kQi g ((ms m9) 6) (wM g a (sMth m9 (nI 0))) A) (by decide) rfl (Nat.le_of_ble_eq_true rfl) ?_
  intro p e s m below meth c A ls hF hr hlocks hin hE hP hD hS hA hl
  obtain ⟨hx, hb, hml, hown, hts⟩ := id hF
  have hown : s.vm.findClass RX4 = some m.cls := hown
  have hl : lv_has ls 1 [(0, .ref (a 0))] := hl
  have hiX4 : ∀ w ∈ wsX40, w ∈ wsX4_sinceQuestion := fun _ h => List.mem_cons_of_mem _ (List.mem_append_right _ (h))
  have f25 : (Cond.fieldLink RX4 25 "ConcertUsherModel" "thrown" "I").before _ s = true := hts _ (List.mem_of_getElem? (i := 1) rfl)
  have f7 : (Cond.fieldLink RX4 7 "ConcertUsherModel" "s" "[I").before _ s = true := hts _ (List.mem_of_getElem? (i := 2) rfl)
  refine lv_aload_n hx hb dX4_sinceQuestion_0 rfl (lv_at hl 0 rfl) ?_
  refine lv_iconst (v := (nI 0)) hx hb dX4_sinceQuestion_1 (by decide) ?_
  refine va_put (D := g.1) (ci := 4) (v := .int (nI 0)) (ty := .int) (C := RX4) (T := TX4) (N := 12) hx hb hts hiX4 tyX4 tyX4_ok nmX4 hown hE.1 hP hD hS 0 rfl rfl 0 (by decide) f25 (fun _ h9 => h9) rfl (tyX4_ok 0 (by decide)) rfl rfl (Nat.le_of_ble_eq_true rfl) dX4_sinceQuestion_2 (fun H locs hP hD hS => ?_)
  have hP : va_P g.1 vwCl (wM g a (sMth m9 (nI 0))) _ := hP
  have hD : va_D A (wM g a (sMth m9 (nI 0))) := hD
  refine lv_aload_n hx hb dX4_sinceQuestion_5 rfl (lv_at hl 0 rfl) ?_
  refine va_get (D := g.1) (ci := 4) (v := .ref (a 1)) (C := RX4) (T := TX4) (N := 12) hx hb hts hiX4 hown hE.1 hP 0 rfl rfl 1 (by decide) f7 (fun _ h9 => h9) rfl dX4_sinceQuestion_6 ?_
  refine lv_bipush (v := (nI 6)) hx hb dX4_sinceQuestion_9 (by decide) ?_
  refine k_iald (f := (ms m9)) hx hb hE hP 1 rfl 6 rfl (by decide) (by decide) dX4_sinceQuestion_11 ?_
  have hP : va_P g.1 vwCl (wM g a (sMth m9 (nI 0))) _ := hP
  have hD : va_D A (wM g a (sMth m9 (nI 0))) := hD
  exact k_iret hx hb hr hlocks rfl rfl hP hD hS (Nat.le_of_ble_eq_true rfl) (Nat.le_of_ble_eq_true rfl) dX4_sinceQuestion_12
set_option maxHeartbeats 4000000 in
set_option maxRecDepth 100000 in
theorem c_X4_count (l : Launch) (g : kG) (a : Nat → Nat) (m9 : MSt) (j : Nat) (hj : j ≤ 6) (hjm : msm m9 = nI j) (what : Int32) : KI l yX4_count wsX4_count ({ frames := 1, cells := 0, slots := 0, locals := 22 }) g [.ref (a 0), .int what] (wM g a m9) (McntR what m9) (wM g a (McntS what m9)) 0 0 := by
  refine k_begin (cc := cX4_count) (maxL := 2) (ret := (some .int)) (Qc := fun A => kQi g (McntR what m9) (wM g a (McntS what m9)) A) (by decide) rfl (Nat.le_of_ble_eq_true rfl) ?_
  intro p e s m below meth c A ls hF hr hlocks hin hE hP hD hS hA hl
  obtain ⟨hx, hb, hml, hown, hts⟩ := id hF
  have hown : s.vm.findClass RX4 = some m.cls := hown
  have hl : lv_has ls 2 [(0, .ref (a 0)), (1, .int what)] := hl
  have hiX4 : ∀ w ∈ wsX40, w ∈ wsX4_count := fun _ h => List.mem_cons_of_mem _ (List.mem_append_right _ (h))
  have f25 : (Cond.fieldLink RX4 25 "ConcertUsherModel" "thrown" "I").before _ s = true := hts _ (List.mem_of_getElem? (i := 1) rfl)
  have f7 : (Cond.fieldLink RX4 7 "ConcertUsherModel" "s" "[I").before _ s = true := hts _ (List.mem_of_getElem? (i := 2) rfl)
  refine lv_aload_n hx hb dX4_count_0 rfl (lv_at hl 0 rfl) ?_
  refine lv_iconst (v := (nI 0)) hx hb dX4_count_1 (by decide) ?_
  refine va_put (D := g.1) (ci := 4) (v := .int (nI 0)) (ty := .int) (C := RX4) (T := TX4) (N := 12) hx hb hts hiX4 tyX4 tyX4_ok nmX4 hown hE.1 hP hD hS 0 rfl rfl 0 (by decide) f25 (fun _ h9 => h9) rfl (tyX4_ok 0 (by decide)) rfl rfl (Nat.le_of_ble_eq_true rfl) dX4_count_2 (fun H locs hP hD hS => ?_)
  have hP : va_P g.1 vwCl (wM g a (sMth m9 (nI 0))) _ := hP
  have hD : va_D A (wM g a (sMth m9 (nI 0))) := hD
  refine lv_iload_n hx hb dX4_count_5 rfl (lv_at hl 1 rfl) ?_
  refine lv_iconst (v := (nI 0)) hx hb dX4_count_6 (by decide) ?_
  refine lv_iconst (v := (nI 5)) hx hb dX4_count_7 (by decide) ?_
  refine k_Si (w0 := []) (w1 := []) (As := [.int what, .int (nI 0), .int (nI 5)]) (r := (bI ((nI 0) ≤ what ∧ what ≤ (nI 5)))) hF (c_X4_in l g what (nI 0) (nI 5)) (va_cwS 3 hts gX4_count_X4_in rfl rfl rfl (by decide +kernel) ⟨Nat.le_of_ble_eq_true rfl, Nat.le_of_ble_eq_true rfl⟩) hE hP hD hS hA (List.Perm.refl _) (List.Perm.refl _) rfl hl.1 rfl (Nat.le_of_ble_eq_true rfl) dX4_count_8 ⟨Nat.le_of_ble_eq_true rfl, Nat.le_of_ble_eq_true rfl⟩ (fun H locs hP hD hS => ?_)
  have hP : va_P g.1 vwCl (wM g a (sMth m9 (nI 0))) _ := hP
  have hD : va_D A (wM g a (sMth m9 (nI 0))) := hD
  refine k_ifeqB (tgt := 26) hx hb dX4_count_11 (by decide) (fun c1 => ?_) (fun c1 => ?_)
  ·
    refine lv_aload_n hx hb dX4_count_26 rfl (lv_at hl 0 rfl) ?_
    refine lv_iconst (v := (nI 1)) hx hb dX4_count_27 (by decide) ?_
    refine k_Vi (As := [.int (nI 1)]) (r := (nI 0)) hF (c_X4_fails l g a (sMth m9 (nI 0)) (nI 1)) (cwV 1 hts gX4_count_X4_fails rfl rfl rfl (by decide +kernel) ⟨Nat.le_of_ble_eq_true rfl, Nat.le_of_ble_eq_true rfl⟩) hE hP hD hS hA (k_pall _) ((k_pall _).symm) 0 rfl rfl rfl rfl hl.1 rfl (Nat.le_of_ble_eq_true rfl) dX4_count_28 ⟨Nat.le_of_ble_eq_true rfl, Nat.le_of_ble_eq_true rfl⟩ (fun H locs hP hD hS => ?_)
    have hP : va_P g.1 vwCl (wM g a (sMth m9 (nI 1))) _ := hP
    have hD : va_D A (wM g a (sMth m9 (nI 1))) := hD
    have e2 : (McntS what m9) = (sMth m9 (nI 1)) := (by first | (simp only [McntS, McntR, if_neg c1, if_pos c1]; done) | (simp only [McntS, McntR, if_neg c1, if_pos c1]; rfl) | rfl | (simp [McntS, McntR, if_neg c1, if_pos c1]; done))
    have hP : va_P g.1 vwCl (wM g a (McntS what m9)) H := by rw [e2]; exact hP
    have hD : va_D A (wM g a (McntS what m9)) := by rw [e2]; exact hD
    exact k_iret hx hb hr hlocks rfl (by first | (simp only [McntS, McntR, bI, if_neg c1, if_pos c1]; done) | (simp only [McntS, McntR, bI, if_neg c1, if_pos c1]; rfl) | rfl | (simp [McntS, McntR, bI, if_neg c1, if_pos c1]; done)) hP hD hS (Nat.le_of_ble_eq_true rfl) (Nat.le_of_ble_eq_true rfl) dX4_count_31
  ·
    obtain ⟨k9, hk9, hk9e⟩ := in_nat (by decide) (by decide) c1
    have hk9c : what.toNatClampNeg = k9 := cl_eq hk9e (by omega)
    refine lv_aload_n hx hb dX4_count_14 rfl (lv_at hl 0 rfl) ?_
    refine va_get (D := g.1) (ci := 4) (v := .ref (a 1)) (C := RX4) (T := TX4) (N := 12) hx hb hts hiX4 hown hE.1 hP 0 rfl rfl 1 (by decide) f7 (fun _ h9 => h9) rfl dX4_count_15 ?_
    refine lv_bipush (v := (nI 7)) hx hb dX4_count_18 (by decide) ?_
    refine lv_iload_n hx hb dX4_count_20 rfl (lv_at hl 1 rfl) ?_
    refine k_top hk9e ?_
    refine lv_iadd hx hb dX4_count_21 ?_
    refine k_top (nI_add _ _) ?_
    refine k_iald (f := (ms m9)) hx hb hE hP 1 rfl (7 + k9) rfl (by omega) (by decide) dX4_count_22 ?_
    refine lv_goto (tgt := 31) hx hb dX4_count_23 (by decide) ?_
    have e3 : (McntS what m9) = (sMth m9 (nI 0)) := (by first | (simp only [McntS, McntR, if_pos c1, if_neg (not_not_intro c1), hk9c]; done) | (simp only [McntS, McntR, if_pos c1, if_neg (not_not_intro c1), hk9c]; rfl) | rfl | (simp [McntS, McntR, if_pos c1, if_neg (not_not_intro c1), hk9c]; done))
    have hP : va_P g.1 vwCl (wM g a (McntS what m9)) H := by rw [e3]; exact hP
    have hD : va_D A (wM g a (McntS what m9)) := by rw [e3]; exact hD
    exact k_iret hx hb hr hlocks rfl (by first | (simp only [McntS, McntR, bI, if_pos c1, if_neg (not_not_intro c1), hk9c]; done) | (simp only [McntS, McntR, bI, if_pos c1, if_neg (not_not_intro c1), hk9c]; rfl) | rfl | (simp [McntS, McntR, bI, if_pos c1, if_neg (not_not_intro c1), hk9c]; done)) hP hD hS (Nat.le_of_ble_eq_true rfl) (Nat.le_of_ble_eq_true rfl) dX4_count_31
set_option maxHeartbeats 4000000 in
set_option maxRecDepth 100000 in
theorem c_X4_fadesIn (l : Launch) (g : kG) (a : Nat → Nat) (m9 : MSt) (k : Nat) (hk : k < 48) : KI l yX4_fadesIn wsX4_fadesIn ({ frames := 3, cells := 0, slots := 0, locals := 62 }) g [.ref (a 0), .int (nI k)] (wM g a m9) (Mfd (ms m9) k) (wM g a (sMas m9 (ms m9))) 0 0 := by
  refine k_begin (cc := cX4_fadesIn) (maxL := 4) (ret := (some .int)) (Qc := fun A => kQi g (Mfd (ms m9) k) (wM g a (sMas m9 (ms m9))) A) (by decide) rfl (Nat.le_of_ble_eq_true rfl) ?_
  intro p e s m below meth c A ls hF hr hlocks hin hE hP hD hS hA hl
  obtain ⟨hx, hb, hml, hown, hts⟩ := id hF
  have hown : s.vm.findClass RX4 = some m.cls := hown
  have hl : lv_has ls 4 [(0, .ref (a 0)), (1, .int (nI k))] := hl
  have hiX4 : ∀ w ∈ wsX40, w ∈ wsX4_fadesIn := fun _ h => List.mem_cons_of_mem _ (List.mem_append_right _ (h))
  have f7 : (Cond.fieldLink RX4 7 "ConcertUsherModel" "s" "[I").before _ s = true := hts _ (List.mem_of_getElem? (i := 1) rfl)
  refine lv_aload_n hx hb dX4_fadesIn_0 rfl (lv_at hl 0 rfl) ?_
  refine k_Vv (As := []) hF (c_X4_putAside l g a m9) (cwV 0 hts gX4_fadesIn_X4_putAside rfl rfl rfl (by decide +kernel) ⟨Nat.le_of_ble_eq_true rfl, Nat.le_of_ble_eq_true rfl⟩) hE hP hD hS hA (k_pall _) ((k_pall _).symm) 0 rfl rfl rfl rfl hl.1 rfl (Nat.le_of_ble_eq_true rfl) dX4_fadesIn_1 ⟨Nat.le_of_ble_eq_true rfl, Nat.le_of_ble_eq_true rfl⟩ (fun H locs hP hD hS => ?_)
  have hP : va_P g.1 vwCl (wM g a (sMas m9 (ms m9))) _ := hP
  have hD : va_D A (wM g a (sMas m9 (ms m9))) := hD
  refine lv_iconst (v := (nI 0)) hx hb dX4_fadesIn_4 (by decide) ?_
  refine lv_istore_n (lv' := [(2, .int (nI 0)), (0, .ref (a 0)), (1, .int (nI k))]) hx hb dX4_fadesIn_5 rfl hl (by decide) rfl (fun ls hl => ?_)
  refine k_loop (N := 150) (Inv := fun (i : Nat) (H : Heap) (locs : List Loc) (ls : Array Slot) => va_P g.1 vwCl (wM g a (sMs (sMas m9 (ms m9)) (MgoN (ms m9) i))) H ∧ va_D A (wM g a (sMs (sMas m9 (ms m9)) (MgoN (ms m9) i))) ∧ va_S A s.heap H locs ∧ lv_has ls 4 [(2, .int (nI i)), (0, .ref (a 0)), (1, .int (nI k))] ∧ Mst (ms m9) k 0 150 = Mst (ms m9) k i (150 - i)) 0 (Nat.zero_le _) ⟨hP, hD, hS, lv_sub hl [0, 1, 2] rfl, rfl⟩ (fun i hle2 ih1 H locs ls hinv => ?_)
  obtain ⟨hP, hD, hS, hl, hMs⟩ := hinv
  refine lv_iload_n hx hb dX4_fadesIn_6 rfl (lv_at hl 0 rfl) ?_
  refine lv_sipush (v := (nI 150)) hx hb dX4_fadesIn_7 (by decide) ?_
  refine k_geN (tgt := 36) hx hb (by omega) (by decide) dX4_fadesIn_10 (by decide) (fun c3 => ?_) (fun c3 => ?_)
  ·
    obtain rfl : 150 = i := by omega
    have hMe : Mst (ms m9) k 0 150 = 150 := hMs
    refine lv_aload_n hx hb dX4_fadesIn_36 rfl (lv_at hl 1 rfl) ?_
    refine va_get (D := g.1) (ci := 4) (v := .ref (a 1)) (C := RX4) (T := TX4) (N := 12) hx hb hts hiX4 hown hE.1 hP 0 rfl rfl 1 (by decide) f7 (fun _ h9 => h9) rfl dX4_fadesIn_37 ?_
    refine lv_bipush (v := (nI 69)) hx hb dX4_fadesIn_40 (by decide) ?_
    refine lv_iload_n hx hb dX4_fadesIn_42 rfl (lv_at hl 2 rfl) ?_
    refine lv_iadd hx hb dX4_fadesIn_43 ?_
    refine k_top (nI_add _ _) ?_
    refine k_iald (f := (MgoN (ms m9) 150)) hx hb hE hP 1 rfl (69 + k) rfl (by omega) (by decide) dX4_fadesIn_44 ?_
    refine lv_if_le (tgt := 52) hx hb dX4_fadesIn_45 (by decide) (fun c4 => ?_) (fun c4 => ?_)
    ·
      refine lv_iload_n hx hb dX4_fadesIn_52 rfl (lv_at hl 0 rfl) ?_
      refine lv_istore_n (lv' := [(3, .int (nI 150)), (2, .int (nI 150)), (0, .ref (a 0)), (1, .int (nI k))]) hx hb dX4_fadesIn_53 rfl hl (by decide) rfl (fun ls hl => ?_)
      refine lv_aload_n hx hb dX4_fadesIn_54 rfl (lv_at hl 2 rfl) ?_
      refine k_Vv (As := []) hF (c_X4_takeBack l g a (sMs (sMas m9 (ms m9)) (MgoN (ms m9) 150))) (cwV 0 hts gX4_fadesIn_X4_takeBack rfl rfl rfl (by decide +kernel) ⟨Nat.le_of_ble_eq_true rfl, Nat.le_of_ble_eq_true rfl⟩) hE hP hD hS hA (k_pall _) ((k_pall _).symm) 0 rfl rfl rfl rfl hl.1 rfl (Nat.le_of_ble_eq_true rfl) dX4_fadesIn_55 ⟨Nat.le_of_ble_eq_true rfl, Nat.le_of_ble_eq_true rfl⟩ (fun H locs hP hD hS => ?_)
      have hP : va_P g.1 vwCl (wM g a (sMs (sMas m9 (ms m9)) (ms m9))) _ := hP
      have hD : va_D A (wM g a (sMs (sMas m9 (ms m9)) (ms m9))) := hD
      refine lv_iload_n hx hb dX4_fadesIn_58 rfl (lv_at hl 0 rfl) ?_
      have e5 : (sMas m9 (ms m9)) = (sMs (sMas m9 (ms m9)) (ms m9)) := (by first | (simp only [Mfd, if_pos c3, if_neg (not_not_intro c3), if_pos c4, if_neg (not_not_intro c4), hMe]; done) | (simp only [Mfd, if_pos c3, if_neg (not_not_intro c3), if_pos c4, if_neg (not_not_intro c4), hMe]; rfl) | rfl | (simp [Mfd, if_pos c3, if_neg (not_not_intro c3), if_pos c4, if_neg (not_not_intro c4), hMe]; done))
      have hP : va_P g.1 vwCl (wM g a (sMas m9 (ms m9))) H := by rw [e5]; exact hP
      have hD : va_D A (wM g a (sMas m9 (ms m9))) := by rw [e5]; exact hD
      exact k_iret hx hb hr hlocks rfl (by first | (simp only [Mfd, bI, if_pos c3, if_neg (not_not_intro c3), if_pos c4, if_neg (not_not_intro c4), hMe]; done) | (simp only [Mfd, bI, if_pos c3, if_neg (not_not_intro c3), if_pos c4, if_neg (not_not_intro c4), hMe]; rfl) | rfl | (simp [Mfd, bI, if_pos c3, if_neg (not_not_intro c3), if_pos c4, if_neg (not_not_intro c4), hMe]; done)) hP hD hS (Nat.le_of_ble_eq_true rfl) (Nat.le_of_ble_eq_true rfl) dX4_fadesIn_59
    ·
      refine lv_iconst (v := (-1)) hx hb dX4_fadesIn_48 (by decide) ?_
      refine lv_goto (tgt := 53) hx hb dX4_fadesIn_49 (by decide) ?_
      refine lv_istore_n (lv' := [(3, .int (-1)), (2, .int (nI 150)), (0, .ref (a 0)), (1, .int (nI k))]) hx hb dX4_fadesIn_53 rfl hl (by decide) rfl (fun ls hl => ?_)
      refine lv_aload_n hx hb dX4_fadesIn_54 rfl (lv_at hl 2 rfl) ?_
      refine k_Vv (As := []) hF (c_X4_takeBack l g a (sMs (sMas m9 (ms m9)) (MgoN (ms m9) 150))) (cwV 0 hts gX4_fadesIn_X4_takeBack rfl rfl rfl (by decide +kernel) ⟨Nat.le_of_ble_eq_true rfl, Nat.le_of_ble_eq_true rfl⟩) hE hP hD hS hA (k_pall _) ((k_pall _).symm) 0 rfl rfl rfl rfl hl.1 rfl (Nat.le_of_ble_eq_true rfl) dX4_fadesIn_55 ⟨Nat.le_of_ble_eq_true rfl, Nat.le_of_ble_eq_true rfl⟩ (fun H locs hP hD hS => ?_)
      have hP : va_P g.1 vwCl (wM g a (sMs (sMas m9 (ms m9)) (ms m9))) _ := hP
      have hD : va_D A (wM g a (sMs (sMas m9 (ms m9)) (ms m9))) := hD
      refine lv_iload_n hx hb dX4_fadesIn_58 rfl (lv_at hl 0 rfl) ?_
      have e6 : (sMas m9 (ms m9)) = (sMs (sMas m9 (ms m9)) (ms m9)) := (by first | (simp only [Mfd, if_pos c3, if_neg (not_not_intro c3), if_neg c4, if_pos c4, hMe]; done) | (simp only [Mfd, if_pos c3, if_neg (not_not_intro c3), if_neg c4, if_pos c4, hMe]; rfl) | rfl | (simp [Mfd, if_pos c3, if_neg (not_not_intro c3), if_neg c4, if_pos c4, hMe]; done))
      have hP : va_P g.1 vwCl (wM g a (sMas m9 (ms m9))) H := by rw [e6]; exact hP
      have hD : va_D A (wM g a (sMas m9 (ms m9))) := by rw [e6]; exact hD
      exact k_iret hx hb hr hlocks rfl (by first | (simp only [Mfd, bI, if_pos c3, if_neg (not_not_intro c3), if_neg c4, if_pos c4, hMe]; done) | (simp only [Mfd, bI, if_pos c3, if_neg (not_not_intro c3), if_neg c4, if_pos c4, hMe]; rfl) | rfl | (simp [Mfd, bI, if_pos c3, if_neg (not_not_intro c3), if_neg c4, if_pos c4, hMe]; done)) hP hD hS (Nat.le_of_ble_eq_true rfl) (Nat.le_of_ble_eq_true rfl) dX4_fadesIn_59
  ·
    refine lv_aload_n hx hb dX4_fadesIn_13 rfl (lv_at hl 1 rfl) ?_
    refine va_get (D := g.1) (ci := 4) (v := .ref (a 1)) (C := RX4) (T := TX4) (N := 12) hx hb hts hiX4 hown hE.1 hP 0 rfl rfl 1 (by decide) f7 (fun _ h9 => h9) rfl dX4_fadesIn_14 ?_
    refine lv_bipush (v := (nI 69)) hx hb dX4_fadesIn_17 (by decide) ?_
    refine lv_iload_n hx hb dX4_fadesIn_19 rfl (lv_at hl 2 rfl) ?_
    refine lv_iadd hx hb dX4_fadesIn_20 ?_
    refine k_top (nI_add _ _) ?_
    refine k_iald (f := (MgoN (ms m9) i)) hx hb hE hP 1 rfl (69 + k) rfl (by omega) (by decide) dX4_fadesIn_21 ?_
    refine lv_if_le (tgt := 36) hx hb dX4_fadesIn_22 (by decide) (fun c7 => ?_) (fun c7 => ?_)
    ·
      have hMf : Mst (ms m9) k 0 150 = i := by rw [hMs, Mst_go ‹_›, if_pos c7]
      refine lv_aload_n hx hb dX4_fadesIn_36 rfl (lv_at hl 1 rfl) ?_
      refine va_get (D := g.1) (ci := 4) (v := .ref (a 1)) (C := RX4) (T := TX4) (N := 12) hx hb hts hiX4 hown hE.1 hP 0 rfl rfl 1 (by decide) f7 (fun _ h9 => h9) rfl dX4_fadesIn_37 ?_
      refine lv_bipush (v := (nI 69)) hx hb dX4_fadesIn_40 (by decide) ?_
      refine lv_iload_n hx hb dX4_fadesIn_42 rfl (lv_at hl 2 rfl) ?_
      refine lv_iadd hx hb dX4_fadesIn_43 ?_
      refine k_top (nI_add _ _) ?_
      refine k_iald (f := (MgoN (ms m9) i)) hx hb hE hP 1 rfl (69 + k) rfl (by omega) (by decide) dX4_fadesIn_44 ?_
      refine lv_if_le (tgt := 52) hx hb dX4_fadesIn_45 (by decide) (fun c8 => ?_) (fun c8 => ?_)
      ·
        refine lv_iload_n hx hb dX4_fadesIn_52 rfl (lv_at hl 0 rfl) ?_
        refine lv_istore_n (lv' := [(3, .int (nI i)), (2, .int (nI i)), (0, .ref (a 0)), (1, .int (nI k))]) hx hb dX4_fadesIn_53 rfl hl (by decide) rfl (fun ls hl => ?_)
        refine lv_aload_n hx hb dX4_fadesIn_54 rfl (lv_at hl 2 rfl) ?_
        refine k_Vv (As := []) hF (c_X4_takeBack l g a (sMs (sMas m9 (ms m9)) (MgoN (ms m9) i))) (cwV 0 hts gX4_fadesIn_X4_takeBack rfl rfl rfl (by decide +kernel) ⟨Nat.le_of_ble_eq_true rfl, Nat.le_of_ble_eq_true rfl⟩) hE hP hD hS hA (k_pall _) ((k_pall _).symm) 0 rfl rfl rfl rfl hl.1 rfl (Nat.le_of_ble_eq_true rfl) dX4_fadesIn_55 ⟨Nat.le_of_ble_eq_true rfl, Nat.le_of_ble_eq_true rfl⟩ (fun H locs hP hD hS => ?_)
        have hP : va_P g.1 vwCl (wM g a (sMs (sMas m9 (ms m9)) (ms m9))) _ := hP
        have hD : va_D A (wM g a (sMs (sMas m9 (ms m9)) (ms m9))) := hD
        refine lv_iload_n hx hb dX4_fadesIn_58 rfl (lv_at hl 0 rfl) ?_
        have e9 : (sMas m9 (ms m9)) = (sMs (sMas m9 (ms m9)) (ms m9)) := (by first | (simp only [Mfd, if_neg (Nat.not_le.mpr c3), if_pos (Nat.not_le.mpr c3), if_pos c7, if_neg (not_not_intro c7), if_pos c8, if_neg (not_not_intro c8), hMf]; done) | (simp only [Mfd, if_neg (Nat.not_le.mpr c3), if_pos (Nat.not_le.mpr c3), if_pos c7, if_neg (not_not_intro c7), if_pos c8, if_neg (not_not_intro c8), hMf]; rfl) | rfl | (simp [Mfd, if_neg (Nat.not_le.mpr c3), if_pos (Nat.not_le.mpr c3), if_pos c7, if_neg (not_not_intro c7), if_pos c8, if_neg (not_not_intro c8), hMf]; done))
        have hP : va_P g.1 vwCl (wM g a (sMas m9 (ms m9))) H := by rw [e9]; exact hP
        have hD : va_D A (wM g a (sMas m9 (ms m9))) := by rw [e9]; exact hD
        exact k_iret hx hb hr hlocks rfl (by first | (simp only [Mfd, bI, if_neg (Nat.not_le.mpr c3), if_pos (Nat.not_le.mpr c3), if_pos c7, if_neg (not_not_intro c7), if_pos c8, if_neg (not_not_intro c8), hMf]; done) | (simp only [Mfd, bI, if_neg (Nat.not_le.mpr c3), if_pos (Nat.not_le.mpr c3), if_pos c7, if_neg (not_not_intro c7), if_pos c8, if_neg (not_not_intro c8), hMf]; rfl) | rfl | (simp [Mfd, bI, if_neg (Nat.not_le.mpr c3), if_pos (Nat.not_le.mpr c3), if_pos c7, if_neg (not_not_intro c7), if_pos c8, if_neg (not_not_intro c8), hMf]; done)) hP hD hS (Nat.le_of_ble_eq_true rfl) (Nat.le_of_ble_eq_true rfl) dX4_fadesIn_59
      ·
        refine lv_iconst (v := (-1)) hx hb dX4_fadesIn_48 (by decide) ?_
        refine lv_goto (tgt := 53) hx hb dX4_fadesIn_49 (by decide) ?_
        refine lv_istore_n (lv' := [(3, .int (-1)), (2, .int (nI i)), (0, .ref (a 0)), (1, .int (nI k))]) hx hb dX4_fadesIn_53 rfl hl (by decide) rfl (fun ls hl => ?_)
        refine lv_aload_n hx hb dX4_fadesIn_54 rfl (lv_at hl 2 rfl) ?_
        refine k_Vv (As := []) hF (c_X4_takeBack l g a (sMs (sMas m9 (ms m9)) (MgoN (ms m9) i))) (cwV 0 hts gX4_fadesIn_X4_takeBack rfl rfl rfl (by decide +kernel) ⟨Nat.le_of_ble_eq_true rfl, Nat.le_of_ble_eq_true rfl⟩) hE hP hD hS hA (k_pall _) ((k_pall _).symm) 0 rfl rfl rfl rfl hl.1 rfl (Nat.le_of_ble_eq_true rfl) dX4_fadesIn_55 ⟨Nat.le_of_ble_eq_true rfl, Nat.le_of_ble_eq_true rfl⟩ (fun H locs hP hD hS => ?_)
        have hP : va_P g.1 vwCl (wM g a (sMs (sMas m9 (ms m9)) (ms m9))) _ := hP
        have hD : va_D A (wM g a (sMs (sMas m9 (ms m9)) (ms m9))) := hD
        refine lv_iload_n hx hb dX4_fadesIn_58 rfl (lv_at hl 0 rfl) ?_
        have e10 : (sMas m9 (ms m9)) = (sMs (sMas m9 (ms m9)) (ms m9)) := (by first | (simp only [Mfd, if_neg (Nat.not_le.mpr c3), if_pos (Nat.not_le.mpr c3), if_pos c7, if_neg (not_not_intro c7), if_neg c8, if_pos c8, hMf]; done) | (simp only [Mfd, if_neg (Nat.not_le.mpr c3), if_pos (Nat.not_le.mpr c3), if_pos c7, if_neg (not_not_intro c7), if_neg c8, if_pos c8, hMf]; rfl) | rfl | (simp [Mfd, if_neg (Nat.not_le.mpr c3), if_pos (Nat.not_le.mpr c3), if_pos c7, if_neg (not_not_intro c7), if_neg c8, if_pos c8, hMf]; done))
        have hP : va_P g.1 vwCl (wM g a (sMas m9 (ms m9))) H := by rw [e10]; exact hP
        have hD : va_D A (wM g a (sMas m9 (ms m9))) := by rw [e10]; exact hD
        exact k_iret hx hb hr hlocks rfl (by first | (simp only [Mfd, bI, if_neg (Nat.not_le.mpr c3), if_pos (Nat.not_le.mpr c3), if_pos c7, if_neg (not_not_intro c7), if_neg c8, if_pos c8, hMf]; done) | (simp only [Mfd, bI, if_neg (Nat.not_le.mpr c3), if_pos (Nat.not_le.mpr c3), if_pos c7, if_neg (not_not_intro c7), if_neg c8, if_pos c8, hMf]; rfl) | rfl | (simp [Mfd, bI, if_neg (Nat.not_le.mpr c3), if_pos (Nat.not_le.mpr c3), if_pos c7, if_neg (not_not_intro c7), if_neg c8, if_pos c8, hMf]; done)) hP hD hS (Nat.le_of_ble_eq_true rfl) (Nat.le_of_ble_eq_true rfl) dX4_fadesIn_59
    ·
      refine lv_aload_n hx hb dX4_fadesIn_25 rfl (lv_at hl 1 rfl) ?_
      refine k_Vi (As := []) (r := (bI (Masks (MgoN (ms m9) i)))) hF (c_X4_goesBy l g a (sMs (sMas m9 (ms m9)) (MgoN (ms m9) i))) (cwV 0 hts gX4_fadesIn_X4_goesBy rfl rfl rfl (by decide +kernel) ⟨Nat.le_of_ble_eq_true rfl, Nat.le_of_ble_eq_true rfl⟩) hE hP hD hS hA (k_pall _) ((k_pall _).symm) 0 rfl rfl rfl rfl hl.1 rfl (Nat.le_of_ble_eq_true rfl) dX4_fadesIn_26 ⟨Nat.le_of_ble_eq_true rfl, Nat.le_of_ble_eq_true rfl⟩ (fun H locs hP hD hS => ?_)
      have hP : va_P g.1 vwCl (wM g a (sMs (sMas m9 (ms m9)) (Mgo (MgoN (ms m9) i)))) _ := hP
      have hD : va_D A (wM g a (sMs (sMas m9 (ms m9)) (Mgo (MgoN (ms m9) i)))) := hD
      refine lv_pop hx hb dX4_fadesIn_29 rfl ?_
      refine lv_iinc (v := (nI (i + 1))) (lv' := [(2, .int (nI (i + 1))), (0, .ref (a 0)), (1, .int (nI k))]) hx hb dX4_fadesIn_30 hl (k := 0) rfl (k_inc1 _) (by decide) rfl (fun ls hl => ?_)
      refine lv_goto (tgt := 6) hx hb dX4_fadesIn_33 (by decide) ?_
      have e11 : (sMs (sMas m9 (ms m9)) (MgoN (ms m9) (i + 1))) = (sMs (sMas m9 (ms m9)) (Mgo (MgoN (ms m9) i))) := (by first | (simp only [Mfd, MgoN, if_neg (Nat.not_le.mpr c3), if_pos (Nat.not_le.mpr c3), if_neg c7, if_pos c7]; done) | (simp only [Mfd, MgoN, if_neg (Nat.not_le.mpr c3), if_pos (Nat.not_le.mpr c3), if_neg c7, if_pos c7]; rfl) | rfl | (simp [Mfd, MgoN, if_neg (Nat.not_le.mpr c3), if_pos (Nat.not_le.mpr c3), if_neg c7, if_pos c7]; done))
      exact ih1 _ _ _ (by omega) ⟨(by rw [e11]; exact hP), (by rw [e11]; exact hD), hS, lv_sub hl [0, 1, 2] rfl, (by rw [hMs, Mst_go ‹_›, if_neg ‹_›])⟩
set_option maxHeartbeats 4000000 in
set_option maxRecDepth 100000 in
theorem c_X4_minutesToFade (l : Launch) (g : kG) (a : Nat → Nat) (m9 : MSt) (j : Nat) (hj : j ≤ 6) (hjm : msm m9 = nI j) (row con : Int32) : KI l yX4_minutesToFade wsX4_minutesToFade ({ frames := 4, cells := 0, slots := 0, locals := 85 }) g [.ref (a 0), .int row, .int con] (wM g a m9) (MfadeR row con m9) (wM g a (MfadeS row con m9)) 0 0 := by
  refine k_begin (cc := cX4_minutesToFade) (maxL := 3) (ret := (some .int)) (Qc := fun A => kQi g (MfadeR row con m9) (wM g a (MfadeS row con m9)) A) (by decide) rfl (Nat.le_of_ble_eq_true rfl) ?_
  intro p e s m below meth c A ls hF hr hlocks hin hE hP hD hS hA hl
  obtain ⟨hx, hb, hml, hown, hts⟩ := id hF
  have hown : s.vm.findClass RX4 = some m.cls := hown
  have hl : lv_has ls 3 [(0, .ref (a 0)), (1, .int row), (2, .int con)] := hl
  have hiX4 : ∀ w ∈ wsX40, w ∈ wsX4_minutesToFade := fun _ h => List.mem_cons_of_mem _ (List.mem_append_right _ (h))
  have f25 : (Cond.fieldLink RX4 25 "ConcertUsherModel" "thrown" "I").before _ s = true := hts _ (List.mem_of_getElem? (i := 1) rfl)
  refine lv_aload_n hx hb dX4_minutesToFade_0 rfl (lv_at hl 0 rfl) ?_
  refine lv_iconst (v := (nI 0)) hx hb dX4_minutesToFade_1 (by decide) ?_
  refine va_put (D := g.1) (ci := 4) (v := .int (nI 0)) (ty := .int) (C := RX4) (T := TX4) (N := 12) hx hb hts hiX4 tyX4 tyX4_ok nmX4 hown hE.1 hP hD hS 0 rfl rfl 0 (by decide) f25 (fun _ h9 => h9) rfl (tyX4_ok 0 (by decide)) rfl rfl (Nat.le_of_ble_eq_true rfl) dX4_minutesToFade_2 (fun H locs hP hD hS => ?_)
  have hP : va_P g.1 vwCl (wM g a (sMth m9 (nI 0))) _ := hP
  have hD : va_D A (wM g a (sMth m9 (nI 0))) := hD
  refine lv_iload_n hx hb dX4_minutesToFade_5 rfl (lv_at hl 1 rfl) ?_
  refine lv_iload_n hx hb dX4_minutesToFade_6 rfl (lv_at hl 2 rfl) ?_
  refine k_Si (w0 := []) (w1 := []) (As := [.int row, .int con]) (r := (bI (pairOK row con))) hF (c_X4_isPair l g row con) (va_cwS 2 hts gX4_minutesToFade_X4_isPair rfl rfl rfl (by decide +kernel) ⟨Nat.le_of_ble_eq_true rfl, Nat.le_of_ble_eq_true rfl⟩) hE hP hD hS hA (List.Perm.refl _) (List.Perm.refl _) rfl hl.1 rfl (Nat.le_of_ble_eq_true rfl) dX4_minutesToFade_7 ⟨Nat.le_of_ble_eq_true rfl, Nat.le_of_ble_eq_true rfl⟩ (fun H locs hP hD hS => ?_)
  have hP : va_P g.1 vwCl (wM g a (sMth m9 (nI 0))) _ := hP
  have hD : va_D A (wM g a (sMth m9 (nI 0))) := hD
  refine k_ifeqB (tgt := 25) hx hb dX4_minutesToFade_10 (by decide) (fun c1 => ?_) (fun c1 => ?_)
  ·
    refine lv_aload_n hx hb dX4_minutesToFade_25 rfl (lv_at hl 0 rfl) ?_
    refine lv_iconst (v := (nI 1)) hx hb dX4_minutesToFade_26 (by decide) ?_
    refine k_Vi (As := [.int (nI 1)]) (r := (nI 0)) hF (c_X4_fails l g a (sMth m9 (nI 0)) (nI 1)) (cwV 1 hts gX4_minutesToFade_X4_fails rfl rfl rfl (by decide +kernel) ⟨Nat.le_of_ble_eq_true rfl, Nat.le_of_ble_eq_true rfl⟩) hE hP hD hS hA (k_pall _) ((k_pall _).symm) 0 rfl rfl rfl rfl hl.1 rfl (Nat.le_of_ble_eq_true rfl) dX4_minutesToFade_27 ⟨Nat.le_of_ble_eq_true rfl, Nat.le_of_ble_eq_true rfl⟩ (fun H locs hP hD hS => ?_)
    have hP : va_P g.1 vwCl (wM g a (sMth m9 (nI 1))) _ := hP
    have hD : va_D A (wM g a (sMth m9 (nI 1))) := hD
    have e2 : (MfadeS row con m9) = (sMth m9 (nI 1)) := (by first | (simp only [MfadeS, MfadeR, if_neg c1, if_pos c1]; done) | (simp only [MfadeS, MfadeR, if_neg c1, if_pos c1]; rfl) | rfl | (simp [MfadeS, MfadeR, if_neg c1, if_pos c1]; done))
    have hP : va_P g.1 vwCl (wM g a (MfadeS row con m9)) H := by rw [e2]; exact hP
    have hD : va_D A (wM g a (MfadeS row con m9)) := by rw [e2]; exact hD
    exact k_iret hx hb hr hlocks rfl (by first | (simp only [MfadeS, MfadeR, bI, if_neg c1, if_pos c1]; done) | (simp only [MfadeS, MfadeR, bI, if_neg c1, if_pos c1]; rfl) | rfl | (simp [MfadeS, MfadeR, bI, if_neg c1, if_pos c1]; done)) hP hD hS (Nat.le_of_ble_eq_true rfl) (Nat.le_of_ble_eq_true rfl) dX4_minutesToFade_30
  ·
    obtain ⟨r9, hr9, hre⟩ := in_nat (by decide) (by decide) c1.1
    obtain ⟨c9, hc9, hce⟩ := in_nat (by decide) (by decide) c1.2
    have hpl : plM row con = 6 * r9 + c9 := plM_eq hr9.2 hc9.2 hre hce
    refine lv_aload_n hx hb dX4_minutesToFade_13 rfl (lv_at hl 0 rfl) ?_
    refine lv_iload_n hx hb dX4_minutesToFade_14 rfl (lv_at hl 1 rfl) ?_
    refine k_top hre ?_
    refine lv_iload_n hx hb dX4_minutesToFade_15 rfl (lv_at hl 2 rfl) ?_
    refine k_top hce ?_
    refine k_Si (w0 := []) (w1 := []) (As := [.int (nI r9), .int (nI c9)]) (r := (nI (6 * r9 + c9))) hF (c_X4_cellOf l g r9 c9) (va_cwS 2 hts gX4_minutesToFade_X4_cellOf rfl rfl rfl (by decide +kernel) ⟨Nat.le_of_ble_eq_true rfl, Nat.le_of_ble_eq_true rfl⟩) hE hP hD hS hA (List.Perm.refl _) (List.Perm.refl _) rfl hl.1 rfl (Nat.le_of_ble_eq_true rfl) dX4_minutesToFade_16 ⟨Nat.le_of_ble_eq_true rfl, Nat.le_of_ble_eq_true rfl⟩ (fun H locs hP hD hS => ?_)
    have hP : va_P g.1 vwCl (wM g a (sMth m9 (nI 0))) _ := hP
    have hD : va_D A (wM g a (sMth m9 (nI 0))) := hD
    refine k_Vi (As := [.int (nI (6 * r9 + c9))]) (r := (Mfd (ms m9) (6 * r9 + c9))) hF (c_X4_fadesIn l g a (sMth m9 (nI 0)) (6 * r9 + c9) (by omega)) (cwV 1 hts gX4_minutesToFade_X4_fadesIn rfl rfl rfl (by decide +kernel) ⟨Nat.le_of_ble_eq_true rfl, Nat.le_of_ble_eq_true rfl⟩) hE hP hD hS hA (k_pall _) ((k_pall _).symm) 0 rfl rfl rfl rfl hl.1 rfl (Nat.le_of_ble_eq_true rfl) dX4_minutesToFade_19 ⟨Nat.le_of_ble_eq_true rfl, Nat.le_of_ble_eq_true rfl⟩ (fun H locs hP hD hS => ?_)
    have hP : va_P g.1 vwCl (wM g a (sMas (sMth m9 (nI 0)) (ms m9))) _ := hP
    have hD : va_D A (wM g a (sMas (sMth m9 (nI 0)) (ms m9))) := hD
    refine lv_goto (tgt := 30) hx hb dX4_minutesToFade_22 (by decide) ?_
    have e3 : (MfadeS row con m9) = (sMas (sMth m9 (nI 0)) (ms m9)) := (by first | (simp only [MfadeS, MfadeR, if_pos c1, if_neg (not_not_intro c1), hpl]; done) | (simp only [MfadeS, MfadeR, if_pos c1, if_neg (not_not_intro c1), hpl]; rfl) | rfl | (simp [MfadeS, MfadeR, if_pos c1, if_neg (not_not_intro c1), hpl]; done))
    have hP : va_P g.1 vwCl (wM g a (MfadeS row con m9)) H := by rw [e3]; exact hP
    have hD : va_D A (wM g a (MfadeS row con m9)) := by rw [e3]; exact hD
    exact k_iret hx hb hr hlocks rfl (by first | (simp only [MfadeS, MfadeR, bI, if_pos c1, if_neg (not_not_intro c1), hpl]; done) | (simp only [MfadeS, MfadeR, bI, if_pos c1, if_neg (not_not_intro c1), hpl]; rfl) | rfl | (simp [MfadeS, MfadeR, bI, if_pos c1, if_neg (not_not_intro c1), hpl]; done)) hP hD hS (Nat.le_of_ble_eq_true rfl) (Nat.le_of_ble_eq_true rfl) dX4_minutesToFade_30
set_option maxHeartbeats 4000000 in
set_option maxRecDepth 100000 in
theorem c_X4_asksIn (l : Launch) (g : kG) (a : Nat → Nat) (m9 : MSt) : KI l yX4_asksIn wsX4_asksIn ({ frames := 2, cells := 0, slots := 0, locals := 40 }) g [.ref (a 0)] (wM g a m9) (MasksIn (ms m9)) (wM g a m9) 0 0 := by
  refine k_begin (cc := cX4_asksIn) (maxL := 2) (ret := (some .int)) (Qc := fun A => kQi g (MasksIn (ms m9)) (wM g a m9) A) (by decide) rfl (Nat.le_of_ble_eq_true rfl) ?_
  intro p e s m below meth c A ls hF hr hlocks hin hE hP hD hS hA hl
  obtain ⟨hx, hb, hml, hown, hts⟩ := id hF
  have hown : s.vm.findClass RX4 = some m.cls := hown
  have hl : lv_has ls 2 [(0, .ref (a 0))] := hl
  have hiX4 : ∀ w ∈ wsX40, w ∈ wsX4_asksIn := fun _ h => List.mem_cons_of_mem _ (List.mem_append_right _ (h))
  have f7 : (Cond.fieldLink RX4 7 "ConcertUsherModel" "s" "[I").before _ s = true := hts _ (List.mem_of_getElem? (i := 1) rfl)
  refine lv_aload_n hx hb dX4_asksIn_0 rfl (lv_at hl 0 rfl) ?_
  refine k_Vi (As := []) (r := (Mdue (ms m9))) hF (c_X4_due l g a m9) (cwV 0 hts gX4_asksIn_X4_due rfl rfl rfl (by decide +kernel) ⟨Nat.le_of_ble_eq_true rfl, Nat.le_of_ble_eq_true rfl⟩) hE hP hD hS hA (k_pall _) ((k_pall _).symm) 0 rfl rfl rfl rfl hl.1 rfl (Nat.le_of_ble_eq_true rfl) dX4_asksIn_1 ⟨Nat.le_of_ble_eq_true rfl, Nat.le_of_ble_eq_true rfl⟩ (fun H locs hP hD hS => ?_)
  have hP : va_P g.1 vwCl (wM g a m9) _ := hP
  have hD : va_D A (wM g a m9) := hD
  refine lv_aload_n hx hb dX4_asksIn_4 rfl (lv_at hl 0 rfl) ?_
  refine va_get (D := g.1) (ci := 4) (v := .ref (a 1)) (C := RX4) (T := TX4) (N := 12) hx hb hts hiX4 hown hE.1 hP 0 rfl rfl 1 (by decide) f7 (fun _ h9 => h9) rfl dX4_asksIn_5 ?_
  refine lv_bipush (v := (nI 6)) hx hb dX4_asksIn_8 (by decide) ?_
  refine k_iald (f := (ms m9)) hx hb hE hP 1 rfl 6 rfl (by decide) (by decide) dX4_asksIn_10 ?_
  refine lv_isub hx hb dX4_asksIn_11 ?_
  refine lv_istore_n (lv' := [(1, .int ((Mdue (ms m9)) - ((ms m9) 6))), (0, .ref (a 0))]) hx hb dX4_asksIn_12 rfl hl (by decide) rfl (fun ls hl => ?_)
  refine lv_iload_n hx hb dX4_asksIn_13 rfl (lv_at hl 0 rfl) ?_
  refine lv_iconst (v := (nI 1)) hx hb dX4_asksIn_14 (by decide) ?_
  refine lv_icmp_ge (tgt := 22) hx hb dX4_asksIn_15 (by decide) (fun c1 => ?_) (fun c1 => ?_)
  ·
    refine lv_iload_n hx hb dX4_asksIn_22 rfl (lv_at hl 0 rfl) ?_
    have hP : va_P g.1 vwCl (wM g a m9) _ := hP
    have hD : va_D A (wM g a m9) := hD
    exact k_iret hx hb hr hlocks rfl (by first | (simp only [MasksIn, bI, if_pos c1, if_neg (not_not_intro c1)]; done) | (simp only [MasksIn, bI, if_pos c1, if_neg (not_not_intro c1)]; rfl) | rfl | (simp [MasksIn, bI, if_pos c1, if_neg (not_not_intro c1)]; done)) hP hD hS (Nat.le_of_ble_eq_true rfl) (Nat.le_of_ble_eq_true rfl) dX4_asksIn_23
  ·
    refine lv_iconst (v := (nI 1)) hx hb dX4_asksIn_18 (by decide) ?_
    refine lv_goto (tgt := 23) hx hb dX4_asksIn_19 (by decide) ?_
    have hP : va_P g.1 vwCl (wM g a m9) _ := hP
    have hD : va_D A (wM g a m9) := hD
    exact k_iret hx hb hr hlocks rfl (by first | (simp only [MasksIn, bI, if_neg c1, if_pos c1]; done) | (simp only [MasksIn, bI, if_neg c1, if_pos c1]; rfl) | rfl | (simp [MasksIn, bI, if_neg c1, if_pos c1]; done)) hP hD hS (Nat.le_of_ble_eq_true rfl) (Nat.le_of_ble_eq_true rfl) dX4_asksIn_23
set_option maxHeartbeats 4000000 in
set_option maxRecDepth 100000 in
theorem c_X4_minutesToQuestion (l : Launch) (g : kG) (a : Nat → Nat) (m9 : MSt) (j : Nat) (hj : j ≤ 6) (hjm : msm m9 = nI j) : KI l yX4_minutesToQuestion wsX4_minutesToQuestion ({ frames := 3, cells := 0, slots := 0, locals := 61 }) g [.ref (a 0)] (wM g a m9) (MasksIn (ms m9)) (wM g a (sMth m9 (nI 0))) 0 0 := by
  refine k_begin (cc := cX4_minutesToQuestion) (maxL := 1) (ret := (some .int)) (Qc := fun A => kQi g (MasksIn (ms m9)) (wM g a (sMth m9 (nI 0))) A) (by decide) rfl (Nat.le_of_ble_eq_true rfl) ?_
  intro p e s m below meth c A ls hF hr hlocks hin hE hP hD hS hA hl
  obtain ⟨hx, hb, hml, hown, hts⟩ := id hF
  have hown : s.vm.findClass RX4 = some m.cls := hown
  have hl : lv_has ls 1 [(0, .ref (a 0))] := hl
  have hiX4 : ∀ w ∈ wsX40, w ∈ wsX4_minutesToQuestion := fun _ h => List.mem_cons_of_mem _ (List.mem_append_right _ (h))
  have f25 : (Cond.fieldLink RX4 25 "ConcertUsherModel" "thrown" "I").before _ s = true := hts _ (List.mem_of_getElem? (i := 1) rfl)
  refine lv_aload_n hx hb dX4_minutesToQuestion_0 rfl (lv_at hl 0 rfl) ?_
  refine lv_iconst (v := (nI 0)) hx hb dX4_minutesToQuestion_1 (by decide) ?_
  refine va_put (D := g.1) (ci := 4) (v := .int (nI 0)) (ty := .int) (C := RX4) (T := TX4) (N := 12) hx hb hts hiX4 tyX4 tyX4_ok nmX4 hown hE.1 hP hD hS 0 rfl rfl 0 (by decide) f25 (fun _ h9 => h9) rfl (tyX4_ok 0 (by decide)) rfl rfl (Nat.le_of_ble_eq_true rfl) dX4_minutesToQuestion_2 (fun H locs hP hD hS => ?_)
  have hP : va_P g.1 vwCl (wM g a (sMth m9 (nI 0))) _ := hP
  have hD : va_D A (wM g a (sMth m9 (nI 0))) := hD
  refine lv_aload_n hx hb dX4_minutesToQuestion_5 rfl (lv_at hl 0 rfl) ?_
  refine k_Vi (As := []) (r := (MasksIn (ms m9))) hF (c_X4_asksIn l g a (sMth m9 (nI 0))) (cwV 0 hts gX4_minutesToQuestion_X4_asksIn rfl rfl rfl (by decide +kernel) ⟨Nat.le_of_ble_eq_true rfl, Nat.le_of_ble_eq_true rfl⟩) hE hP hD hS hA (k_pall _) ((k_pall _).symm) 0 rfl rfl rfl rfl hl.1 rfl (Nat.le_of_ble_eq_true rfl) dX4_minutesToQuestion_6 ⟨Nat.le_of_ble_eq_true rfl, Nat.le_of_ble_eq_true rfl⟩ (fun H locs hP hD hS => ?_)
  have hP : va_P g.1 vwCl (wM g a (sMth m9 (nI 0))) _ := hP
  have hD : va_D A (wM g a (sMth m9 (nI 0))) := hD
  have hP : va_P g.1 vwCl (wM g a (sMth m9 (nI 0))) _ := hP
  have hD : va_D A (wM g a (sMth m9 (nI 0))) := hD
  exact k_iret hx hb hr hlocks rfl rfl hP hD hS (Nat.le_of_ble_eq_true rfl) (Nat.le_of_ble_eq_true rfl) dX4_minutesToQuestion_9
set_option maxHeartbeats 4000000 in
set_option maxRecDepth 100000 in
theorem c_X4_disturbedAfter (l : Launch) (g : kG) (a : Nat → Nat) (m9 : MSt) (j : Nat) (hj : j ≤ 6) (hjm : msm m9 = nI j) (con mins : Int32) : KI l yX4_disturbedAfter wsX4_disturbedAfter ({ frames := 4, cells := 0, slots := 0, locals := 85 }) g [.ref (a 0), .int con, .int mins] (wM g a m9) (MdistR con mins m9) (wM g a (MdistS con mins m9)) 0 0 := by
  refine k_begin (cc := cX4_disturbedAfter) (maxL := 5) (ret := (some .int)) (Qc := fun A => kQi g (MdistR con mins m9) (wM g a (MdistS con mins m9)) A) (by decide) rfl (Nat.le_of_ble_eq_true rfl) ?_
  intro p e s m below meth c A ls hF hr hlocks hin hE hP hD hS hA hl
  obtain ⟨hx, hb, hml, hown, hts⟩ := id hF
  have hown : s.vm.findClass RX4 = some m.cls := hown
  have hl : lv_has ls 5 [(0, .ref (a 0)), (1, .int con), (2, .int mins)] := hl
  have hiX4 : ∀ w ∈ wsX40, w ∈ wsX4_disturbedAfter := fun _ h => List.mem_cons_of_mem _ (List.mem_append_right _ (h))
  have f25 : (Cond.fieldLink RX4 25 "ConcertUsherModel" "thrown" "I").before _ s = true := hts _ (List.mem_of_getElem? (i := 1) rfl)
  refine lv_aload_n hx hb dX4_disturbedAfter_0 rfl (lv_at hl 0 rfl) ?_
  refine lv_iconst (v := (nI 0)) hx hb dX4_disturbedAfter_1 (by decide) ?_
  refine va_put (D := g.1) (ci := 4) (v := .int (nI 0)) (ty := .int) (C := RX4) (T := TX4) (N := 12) hx hb hts hiX4 tyX4 tyX4_ok nmX4 hown hE.1 hP hD hS 0 rfl rfl 0 (by decide) f25 (fun _ h9 => h9) rfl (tyX4_ok 0 (by decide)) rfl rfl (Nat.le_of_ble_eq_true rfl) dX4_disturbedAfter_2 (fun H locs hP hD hS => ?_)
  have hP : va_P g.1 vwCl (wM g a (sMth m9 (nI 0))) _ := hP
  have hD : va_D A (wM g a (sMth m9 (nI 0))) := hD
  refine lv_iload_n hx hb dX4_disturbedAfter_5 rfl (lv_at hl 1 rfl) ?_
  refine k_Si (w0 := []) (w1 := []) (As := [.int con]) (r := (bI (nI 0 ≤ con ∧ con ≤ nI 5))) hF (c_X4_isConcert l g con) (va_cwS 1 hts gX4_disturbedAfter_X4_isConcert rfl rfl rfl (by decide +kernel) ⟨Nat.le_of_ble_eq_true rfl, Nat.le_of_ble_eq_true rfl⟩) hE hP hD hS hA (List.Perm.refl _) (List.Perm.refl _) rfl hl.1 rfl (Nat.le_of_ble_eq_true rfl) dX4_disturbedAfter_6 ⟨Nat.le_of_ble_eq_true rfl, Nat.le_of_ble_eq_true rfl⟩ (fun H locs hP hD hS => ?_)
  have hP : va_P g.1 vwCl (wM g a (sMth m9 (nI 0))) _ := hP
  have hD : va_D A (wM g a (sMth m9 (nI 0))) := hD
  refine k_ifneB (tgt := 18) hx hb dX4_disturbedAfter_9 (by decide) (fun c1 => ?_) (fun c1 => ?_)
  ·
    obtain ⟨c9, hc9, hc9e⟩ := in_nat (by decide) (by decide) c1
    have hc9c : con.toNatClampNeg = c9 := cl_eq hc9e (by omega)
    refine lv_iload_n hx hb dX4_disturbedAfter_18 rfl (lv_at hl 2 rfl) ?_
    refine lv_iconst (v := (nI 1)) hx hb dX4_disturbedAfter_19 (by decide) ?_
    refine lv_bipush (v := (nI 60)) hx hb dX4_disturbedAfter_20 (by decide) ?_
    refine k_Si (w0 := []) (w1 := []) (As := [.int mins, .int (nI 1), .int (nI 60)]) (r := (bI ((nI 1) ≤ mins ∧ mins ≤ (nI 60)))) hF (c_X4_in l g mins (nI 1) (nI 60)) (va_cwS 3 hts gX4_disturbedAfter_X4_in rfl rfl rfl (by decide +kernel) ⟨Nat.le_of_ble_eq_true rfl, Nat.le_of_ble_eq_true rfl⟩) hE hP hD hS hA (List.Perm.refl _) (List.Perm.refl _) rfl hl.1 rfl (Nat.le_of_ble_eq_true rfl) dX4_disturbedAfter_22 ⟨Nat.le_of_ble_eq_true rfl, Nat.le_of_ble_eq_true rfl⟩ (fun H locs hP hD hS => ?_)
    have hP : va_P g.1 vwCl (wM g a (sMth m9 (nI 0))) _ := hP
    have hD : va_D A (wM g a (sMth m9 (nI 0))) := hD
    refine k_ifneB (tgt := 34) hx hb dX4_disturbedAfter_25 (by decide) (fun c2 => ?_) (fun c2 => ?_)
    ·
      obtain ⟨k9, hk9, hk9e⟩ := in_nat (by decide) (by decide) c2
      have hk9c : mins.toNatClampNeg = k9 := cl_eq hk9e (by omega)
      refine lv_aload_n hx hb dX4_disturbedAfter_34 rfl (lv_at hl 0 rfl) ?_
      refine k_Vv (As := []) hF (c_X4_putAside l g a (sMth m9 (nI 0))) (cwV 0 hts gX4_disturbedAfter_X4_putAside rfl rfl rfl (by decide +kernel) ⟨Nat.le_of_ble_eq_true rfl, Nat.le_of_ble_eq_true rfl⟩) hE hP hD hS hA (k_pall _) ((k_pall _).symm) 0 rfl rfl rfl rfl hl.1 rfl (Nat.le_of_ble_eq_true rfl) dX4_disturbedAfter_35 ⟨Nat.le_of_ble_eq_true rfl, Nat.le_of_ble_eq_true rfl⟩ (fun H locs hP hD hS => ?_)
      have hP : va_P g.1 vwCl (wM g a (sMas (sMth m9 (nI 0)) (ms m9))) _ := hP
      have hD : va_D A (wM g a (sMas (sMth m9 (nI 0)) (ms m9))) := hD
      refine lv_aload_n hx hb dX4_disturbedAfter_38 rfl (lv_at hl 0 rfl) ?_
      refine lv_iload_n hx hb dX4_disturbedAfter_39 rfl (lv_at hl 2 rfl) ?_
      refine k_top hk9e ?_
      refine k_Vi (As := [.int (nI k9)]) (r := (MgoQ (ms m9) k9)) hF (c_X4_passes l g a (sMas (sMth m9 (nI 0)) (ms m9)) k9 (by omega)) (cwV 1 hts gX4_disturbedAfter_X4_passes rfl rfl rfl (by decide +kernel) ⟨Nat.le_of_ble_eq_true rfl, Nat.le_of_ble_eq_true rfl⟩) hE hP hD hS hA (k_pall _) ((k_pall _).symm) 0 rfl rfl rfl rfl hl.1 rfl (Nat.le_of_ble_eq_true rfl) dX4_disturbedAfter_40 ⟨Nat.le_of_ble_eq_true rfl, Nat.le_of_ble_eq_true rfl⟩ (fun H locs hP hD hS => ?_)
      have hP : va_P g.1 vwCl (wM g a (sMs (sMas (sMth m9 (nI 0)) (ms m9)) (MgoN (ms m9) k9))) _ := hP
      have hD : va_D A (wM g a (sMs (sMas (sMth m9 (nI 0)) (ms m9)) (MgoN (ms m9) k9))) := hD
      refine lv_pop hx hb dX4_disturbedAfter_43 rfl ?_
      refine lv_iconst (v := (nI 0)) hx hb dX4_disturbedAfter_44 (by decide) ?_
      refine lv_istore_n (lv' := [(3, .int (nI 0)), (0, .ref (a 0)), (1, .int con), (2, .int mins)]) hx hb dX4_disturbedAfter_45 rfl hl (by decide) rfl (fun ls hl => ?_)
      refine lv_iconst (v := (nI 0)) hx hb dX4_disturbedAfter_46 (by decide) ?_
      refine lv_istore (lv' := [(4, .int (nI 0)), (3, .int (nI 0)), (0, .ref (a 0)), (1, .int con), (2, .int mins)]) hx hb dX4_disturbedAfter_47 hl (by decide) rfl (fun ls hl => ?_)
      refine k_loop (N := 8) (Inv := fun (i : Nat) (H : Heap) (locs : List Loc) (ls : Array Slot) => va_P g.1 vwCl (wM g a (sMs (sMas (sMth m9 (nI 0)) (ms m9)) (MgoN (ms m9) k9))) H ∧ va_D A (wM g a (sMs (sMas (sMth m9 (nI 0)) (ms m9)) (MgoN (ms m9) k9))) ∧ va_S A s.heap H locs ∧ lv_has ls 5 [(4, .int (nI i)), (3, .int (Mdist (MgoN (ms m9) k9) c9 i)), (0, .ref (a 0)), (1, .int con), (2, .int mins)]) 0 (Nat.zero_le _) ⟨hP, hD, hS, lv_sub hl [0, 1, 2, 3, 4] rfl⟩ (fun i hle4 ih3 H locs ls hinv => ?_)
      obtain ⟨hP, hD, hS, hl⟩ := hinv
      refine lv_iload hx hb dX4_disturbedAfter_49 (lv_at hl 0 rfl) ?_
      refine lv_bipush (v := (nI 8)) hx hb dX4_disturbedAfter_51 (by decide) ?_
      refine k_geN (tgt := 90) hx hb (by omega) (by decide) dX4_disturbedAfter_53 (by decide) (fun c5 => ?_) (fun c5 => ?_)
      ·
        obtain rfl : 8 = i := by omega
        refine lv_aload_n hx hb dX4_disturbedAfter_90 rfl (lv_at hl 2 rfl) ?_
        refine k_Vv (As := []) hF (c_X4_takeBack l g a (sMs (sMas (sMth m9 (nI 0)) (ms m9)) (MgoN (ms m9) k9))) (cwV 0 hts gX4_disturbedAfter_X4_takeBack rfl rfl rfl (by decide +kernel) ⟨Nat.le_of_ble_eq_true rfl, Nat.le_of_ble_eq_true rfl⟩) hE hP hD hS hA (k_pall _) ((k_pall _).symm) 0 rfl rfl rfl rfl hl.1 rfl (Nat.le_of_ble_eq_true rfl) dX4_disturbedAfter_91 ⟨Nat.le_of_ble_eq_true rfl, Nat.le_of_ble_eq_true rfl⟩ (fun H locs hP hD hS => ?_)
        have hP : va_P g.1 vwCl (wM g a (sMs (sMas (sMth m9 (nI 0)) (ms m9)) (ms m9))) _ := hP
        have hD : va_D A (wM g a (sMs (sMas (sMth m9 (nI 0)) (ms m9)) (ms m9))) := hD
        refine lv_iload_n hx hb dX4_disturbedAfter_94 rfl (lv_at hl 1 rfl) ?_
        have e6 : (MdistS con mins m9) = (sMs (sMas (sMth m9 (nI 0)) (ms m9)) (ms m9)) := (by first | (simp only [MdistS, MdistR, if_pos c1, if_neg (not_not_intro c1), if_pos c2, if_neg (not_not_intro c2), if_pos c5, if_neg (not_not_intro c5), hc9c, hk9c]; done) | (simp only [MdistS, MdistR, if_pos c1, if_neg (not_not_intro c1), if_pos c2, if_neg (not_not_intro c2), if_pos c5, if_neg (not_not_intro c5), hc9c, hk9c]; rfl) | rfl | (simp [MdistS, MdistR, if_pos c1, if_neg (not_not_intro c1), if_pos c2, if_neg (not_not_intro c2), if_pos c5, if_neg (not_not_intro c5), hc9c, hk9c]; done))
        have hP : va_P g.1 vwCl (wM g a (MdistS con mins m9)) H := by rw [e6]; exact hP
        have hD : va_D A (wM g a (MdistS con mins m9)) := by rw [e6]; exact hD
        exact k_iret hx hb hr hlocks rfl (by first | (simp only [MdistS, MdistR, bI, if_pos c1, if_neg (not_not_intro c1), if_pos c2, if_neg (not_not_intro c2), if_pos c5, if_neg (not_not_intro c5), hc9c, hk9c]; done) | (simp only [MdistS, MdistR, bI, if_pos c1, if_neg (not_not_intro c1), if_pos c2, if_neg (not_not_intro c2), if_pos c5, if_neg (not_not_intro c5), hc9c, hk9c]; rfl) | rfl | (simp [MdistS, MdistR, bI, if_pos c1, if_neg (not_not_intro c1), if_pos c2, if_neg (not_not_intro c2), if_pos c5, if_neg (not_not_intro c5), hc9c, hk9c]; done)) hP hD hS (Nat.le_of_ble_eq_true rfl) (Nat.le_of_ble_eq_true rfl) dX4_disturbedAfter_95
      ·
        refine lv_iload_n hx hb dX4_disturbedAfter_56 rfl (lv_at hl 1 rfl) ?_
        refine lv_aload_n hx hb dX4_disturbedAfter_57 rfl (lv_at hl 2 rfl) ?_
        refine lv_iload hx hb dX4_disturbedAfter_58 (lv_at hl 0 rfl) ?_
        refine lv_iload_n hx hb dX4_disturbedAfter_60 rfl (lv_at hl 3 rfl) ?_
        refine k_top hc9e ?_
        refine k_Vi (As := [.int (nI i), .int (nI c9)]) (r := (bI (Mgoes (MgoN (ms m9) k9) i c9))) hF (c_X4_goes l g a (sMs (sMas (sMth m9 (nI 0)) (ms m9)) (MgoN (ms m9) k9)) i c9 (by omega) (by omega)) (cwV 2 hts gX4_disturbedAfter_X4_goes rfl rfl rfl (by decide +kernel) ⟨Nat.le_of_ble_eq_true rfl, Nat.le_of_ble_eq_true rfl⟩) hE hP hD hS hA (k_pall _) ((k_pall _).symm) 0 rfl rfl rfl rfl hl.1 rfl (Nat.le_of_ble_eq_true rfl) dX4_disturbedAfter_61 ⟨Nat.le_of_ble_eq_true rfl, Nat.le_of_ble_eq_true rfl⟩ (fun H locs hP hD hS => ?_)
        have hP : va_P g.1 vwCl (wM g a (sMs (sMas (sMth m9 (nI 0)) (ms m9)) (MgoN (ms m9) k9))) _ := hP
        have hD : va_D A (wM g a (sMs (sMas (sMth m9 (nI 0)) (ms m9)) (MgoN (ms m9) k9))) := hD
        refine k_ifeqB (tgt := 81) hx hb dX4_disturbedAfter_64 (by decide) (fun c7 => ?_) (fun c7 => ?_)
        ·
          refine lv_iconst (v := (nI 0)) hx hb dX4_disturbedAfter_81 (by decide) ?_
          refine lv_iadd hx hb dX4_disturbedAfter_82 ?_
          refine lv_istore_n (lv' := [(3, .int ((Mdist (MgoN (ms m9) k9) c9 i) + (nI 0))), (4, .int (nI i)), (0, .ref (a 0)), (1, .int con), (2, .int mins)]) hx hb dX4_disturbedAfter_83 rfl hl (by decide) rfl (fun ls hl => ?_)
          refine lv_iinc (v := (nI (i + 1))) (lv' := [(4, .int (nI (i + 1))), (3, .int ((Mdist (MgoN (ms m9) k9) c9 i) + (nI 0))), (0, .ref (a 0)), (1, .int con), (2, .int mins)]) hx hb dX4_disturbedAfter_84 hl (k := 1) rfl (k_inc1 _) (by decide) rfl (fun ls hl => ?_)
          refine lv_goto (tgt := 49) hx hb dX4_disturbedAfter_87 (by decide) ?_
          have e8 : (Mdist (MgoN (ms m9) k9) c9 (i + 1)) = ((Mdist (MgoN (ms m9) k9) c9 i) + (nI 0)) := (by show Mdist (MgoN (ms m9) k9) c9 i + bI (Mgoes (MgoN (ms m9) k9) i c9 ∧ ¬ Mwants (MgoN (ms m9) k9) i c9) = _; rw [bI_f (fun h9 => c7 h9.1)])
          exact ih3 _ _ _ (by omega) ⟨hP, hD, hS, (by rw [e8]; exact lv_sub hl [0, 1, 2, 3, 4] rfl)⟩
        ·
          refine lv_aload_n hx hb dX4_disturbedAfter_67 rfl (lv_at hl 2 rfl) ?_
          refine lv_iload hx hb dX4_disturbedAfter_68 (lv_at hl 0 rfl) ?_
          refine lv_iload_n hx hb dX4_disturbedAfter_70 rfl (lv_at hl 3 rfl) ?_
          refine k_top hc9e ?_
          refine k_Vi (As := [.int (nI i), .int (nI c9)]) (r := (bI (Mwants (MgoN (ms m9) k9) i c9))) hF (c_X4_wants l g a (sMs (sMas (sMth m9 (nI 0)) (ms m9)) (MgoN (ms m9) k9)) i c9 (by omega) (by omega)) (cwV 2 hts gX4_disturbedAfter_X4_wants rfl rfl rfl (by decide +kernel) ⟨Nat.le_of_ble_eq_true rfl, Nat.le_of_ble_eq_true rfl⟩) hE hP hD hS hA (k_pall _) ((k_pall _).symm) 0 rfl rfl rfl rfl hl.1 rfl (Nat.le_of_ble_eq_true rfl) dX4_disturbedAfter_71 ⟨Nat.le_of_ble_eq_true rfl, Nat.le_of_ble_eq_true rfl⟩ (fun H locs hP hD hS => ?_)
          have hP : va_P g.1 vwCl (wM g a (sMs (sMas (sMth m9 (nI 0)) (ms m9)) (MgoN (ms m9) k9))) _ := hP
          have hD : va_D A (wM g a (sMs (sMas (sMth m9 (nI 0)) (ms m9)) (MgoN (ms m9) k9))) := hD
          refine k_ifneB (tgt := 81) hx hb dX4_disturbedAfter_74 (by decide) (fun c9 => ?_) (fun c9 => ?_)
          ·
            refine lv_iconst (v := (nI 0)) hx hb dX4_disturbedAfter_81 (by decide) ?_
            refine lv_iadd hx hb dX4_disturbedAfter_82 ?_
            refine lv_istore_n (lv' := [(3, .int ((Mdist (MgoN (ms m9) k9) c9 i) + (nI 0))), (4, .int (nI i)), (0, .ref (a 0)), (1, .int con), (2, .int mins)]) hx hb dX4_disturbedAfter_83 rfl hl (by decide) rfl (fun ls hl => ?_)
            refine lv_iinc (v := (nI (i + 1))) (lv' := [(4, .int (nI (i + 1))), (3, .int ((Mdist (MgoN (ms m9) k9) c9 i) + (nI 0))), (0, .ref (a 0)), (1, .int con), (2, .int mins)]) hx hb dX4_disturbedAfter_84 hl (k := 1) rfl (k_inc1 _) (by decide) rfl (fun ls hl => ?_)
            refine lv_goto (tgt := 49) hx hb dX4_disturbedAfter_87 (by decide) ?_
            have e10 : (Mdist (MgoN (ms m9) k9) c9 (i + 1)) = ((Mdist (MgoN (ms m9) k9) c9 i) + (nI 0)) := (by show Mdist (MgoN (ms m9) k9) c9 i + bI (Mgoes (MgoN (ms m9) k9) i c9 ∧ ¬ Mwants (MgoN (ms m9) k9) i c9) = _; rw [bI_f (fun h9 => h9.2 c9)])
            exact ih3 _ _ _ (by omega) ⟨hP, hD, hS, (by rw [e10]; exact lv_sub hl [0, 1, 2, 3, 4] rfl)⟩
          ·
            refine lv_iconst (v := (nI 1)) hx hb dX4_disturbedAfter_77 (by decide) ?_
            refine lv_goto (tgt := 82) hx hb dX4_disturbedAfter_78 (by decide) ?_
            refine lv_iadd hx hb dX4_disturbedAfter_82 ?_
            refine lv_istore_n (lv' := [(3, .int ((Mdist (MgoN (ms m9) k9) c9 i) + (nI 1))), (4, .int (nI i)), (0, .ref (a 0)), (1, .int con), (2, .int mins)]) hx hb dX4_disturbedAfter_83 rfl hl (by decide) rfl (fun ls hl => ?_)
            refine lv_iinc (v := (nI (i + 1))) (lv' := [(4, .int (nI (i + 1))), (3, .int ((Mdist (MgoN (ms m9) k9) c9 i) + (nI 1))), (0, .ref (a 0)), (1, .int con), (2, .int mins)]) hx hb dX4_disturbedAfter_84 hl (k := 1) rfl (k_inc1 _) (by decide) rfl (fun ls hl => ?_)
            refine lv_goto (tgt := 49) hx hb dX4_disturbedAfter_87 (by decide) ?_
            have e11 : (Mdist (MgoN (ms m9) k9) c9 (i + 1)) = ((Mdist (MgoN (ms m9) k9) c9 i) + (nI 1)) := (by show Mdist (MgoN (ms m9) k9) c9 i + bI (Mgoes (MgoN (ms m9) k9) i c9 ∧ ¬ Mwants (MgoN (ms m9) k9) i c9) = _; rw [bI_t ⟨c7, c9⟩])
            exact ih3 _ _ _ (by omega) ⟨hP, hD, hS, (by rw [e11]; exact lv_sub hl [0, 1, 2, 3, 4] rfl)⟩
    ·
      refine lv_aload_n hx hb dX4_disturbedAfter_28 rfl (lv_at hl 0 rfl) ?_
      refine lv_iconst (v := (nI 2)) hx hb dX4_disturbedAfter_29 (by decide) ?_
      refine k_Vi (As := [.int (nI 2)]) (r := (nI 0)) hF (c_X4_fails l g a (sMth m9 (nI 0)) (nI 2)) (cwV 1 hts gX4_disturbedAfter_X4_fails rfl rfl rfl (by decide +kernel) ⟨Nat.le_of_ble_eq_true rfl, Nat.le_of_ble_eq_true rfl⟩) hE hP hD hS hA (k_pall _) ((k_pall _).symm) 0 rfl rfl rfl rfl hl.1 rfl (Nat.le_of_ble_eq_true rfl) dX4_disturbedAfter_30 ⟨Nat.le_of_ble_eq_true rfl, Nat.le_of_ble_eq_true rfl⟩ (fun H locs hP hD hS => ?_)
      have hP : va_P g.1 vwCl (wM g a (sMth m9 (nI 2))) _ := hP
      have hD : va_D A (wM g a (sMth m9 (nI 2))) := hD
      have e12 : (MdistS con mins m9) = (sMth m9 (nI 2)) := (by first | (simp only [MdistS, MdistR, if_pos c1, if_neg (not_not_intro c1), if_neg c2, if_pos c2, hc9c]; done) | (simp only [MdistS, MdistR, if_pos c1, if_neg (not_not_intro c1), if_neg c2, if_pos c2, hc9c]; rfl) | rfl | (simp [MdistS, MdistR, if_pos c1, if_neg (not_not_intro c1), if_neg c2, if_pos c2, hc9c]; done))
      have hP : va_P g.1 vwCl (wM g a (MdistS con mins m9)) H := by rw [e12]; exact hP
      have hD : va_D A (wM g a (MdistS con mins m9)) := by rw [e12]; exact hD
      exact k_iret hx hb hr hlocks rfl (by first | (simp only [MdistS, MdistR, bI, if_pos c1, if_neg (not_not_intro c1), if_neg c2, if_pos c2, hc9c]; done) | (simp only [MdistS, MdistR, bI, if_pos c1, if_neg (not_not_intro c1), if_neg c2, if_pos c2, hc9c]; rfl) | rfl | (simp [MdistS, MdistR, bI, if_pos c1, if_neg (not_not_intro c1), if_neg c2, if_pos c2, hc9c]; done)) hP hD hS (Nat.le_of_ble_eq_true rfl) (Nat.le_of_ble_eq_true rfl) dX4_disturbedAfter_33
  ·
    refine lv_aload_n hx hb dX4_disturbedAfter_12 rfl (lv_at hl 0 rfl) ?_
    refine lv_iconst (v := (nI 1)) hx hb dX4_disturbedAfter_13 (by decide) ?_
    refine k_Vi (As := [.int (nI 1)]) (r := (nI 0)) hF (c_X4_fails l g a (sMth m9 (nI 0)) (nI 1)) (cwV 1 hts gX4_disturbedAfter_X4_fails rfl rfl rfl (by decide +kernel) ⟨Nat.le_of_ble_eq_true rfl, Nat.le_of_ble_eq_true rfl⟩) hE hP hD hS hA (k_pall _) ((k_pall _).symm) 0 rfl rfl rfl rfl hl.1 rfl (Nat.le_of_ble_eq_true rfl) dX4_disturbedAfter_14 ⟨Nat.le_of_ble_eq_true rfl, Nat.le_of_ble_eq_true rfl⟩ (fun H locs hP hD hS => ?_)
    have hP : va_P g.1 vwCl (wM g a (sMth m9 (nI 1))) _ := hP
    have hD : va_D A (wM g a (sMth m9 (nI 1))) := hD
    have e13 : (MdistS con mins m9) = (sMth m9 (nI 1)) := (by first | (simp only [MdistS, MdistR, if_neg c1, if_pos c1]; done) | (simp only [MdistS, MdistR, if_neg c1, if_pos c1]; rfl) | rfl | (simp [MdistS, MdistR, if_neg c1, if_pos c1]; done))
    have hP : va_P g.1 vwCl (wM g a (MdistS con mins m9)) H := by rw [e13]; exact hP
    have hD : va_D A (wM g a (MdistS con mins m9)) := by rw [e13]; exact hD
    exact k_iret hx hb hr hlocks rfl (by first | (simp only [MdistS, MdistR, bI, if_neg c1, if_pos c1]; done) | (simp only [MdistS, MdistR, bI, if_neg c1, if_pos c1]; rfl) | rfl | (simp [MdistS, MdistR, bI, if_neg c1, if_pos c1]; done)) hP hD hS (Nat.le_of_ble_eq_true rfl) (Nat.le_of_ble_eq_true rfl) dX4_disturbedAfter_17
set_option maxHeartbeats 4000000 in
set_option maxRecDepth 100000 in
theorem c_X4_append (l : Launch) (g : kG) (a : Nat → Nat) (m9 : MSt) (n : Nat) (hn : n ≤ 60) (hln : mln m9 = nI n) (x : Int32) : KI l yX4_append wsX4_append ({ frames := 1, cells := 0, slots := 0, locals := 22 }) g [.ref (a 0), .int x] (wM g a m9) (MappR n x) (wM g a (MappS n x m9)) 0 0 := by
  refine k_begin (cc := cX4_append) (maxL := 2) (ret := (some .int)) (Qc := fun A => kQi g (MappR n x) (wM g a (MappS n x m9)) A) (by decide) rfl (Nat.le_of_ble_eq_true rfl) ?_
  intro p e s m below meth c A ls hF hr hlocks hin hE hP hD hS hA hl
  obtain ⟨hx, hb, hml, hown, hts⟩ := id hF
  have hown : s.vm.findClass RX4 = some m.cls := hown
  have hl : lv_has ls 2 [(0, .ref (a 0)), (1, .int x)] := hl
  have hiX4 : ∀ w ∈ wsX40, w ∈ wsX4_append := fun _ h => List.mem_cons_of_mem _ (List.mem_append_right _ (h))
  have f25 : (Cond.fieldLink RX4 25 "ConcertUsherModel" "thrown" "I").before _ s = true := hts _ (List.mem_of_getElem? (i := 1) rfl)
  have f113 : (Cond.fieldLink RX4 113 "ConcertUsherModel" "length" "I").before _ s = true := hts _ (List.mem_of_getElem? (i := 2) rfl)
  have f19 : (Cond.fieldLink RX4 19 "ConcertUsherModel" "buffer" "[I").before _ s = true := hts _ (List.mem_of_getElem? (i := 3) rfl)
  refine lv_aload_n hx hb dX4_append_0 rfl (lv_at hl 0 rfl) ?_
  refine lv_iconst (v := (nI 0)) hx hb dX4_append_1 (by decide) ?_
  refine va_put (D := g.1) (ci := 4) (v := .int (nI 0)) (ty := .int) (C := RX4) (T := TX4) (N := 12) hx hb hts hiX4 tyX4 tyX4_ok nmX4 hown hE.1 hP hD hS 0 rfl rfl 0 (by decide) f25 (fun _ h9 => h9) rfl (tyX4_ok 0 (by decide)) rfl rfl (Nat.le_of_ble_eq_true rfl) dX4_append_2 (fun H locs hP hD hS => ?_)
  have hP : va_P g.1 vwCl (wM g a (sMth m9 (nI 0))) _ := hP
  have hD : va_D A (wM g a (sMth m9 (nI 0))) := hD
  refine lv_iload_n hx hb dX4_append_5 rfl (lv_at hl 1 rfl) ?_
  refine lv_bipush (v := (nI 33)) hx hb dX4_append_6 (by decide) ?_
  refine lv_bipush (v := (nI 126)) hx hb dX4_append_8 (by decide) ?_
  refine k_Si (w0 := []) (w1 := []) (As := [.int x, .int (nI 33), .int (nI 126)]) (r := (bI ((nI 33) ≤ x ∧ x ≤ (nI 126)))) hF (c_X4_in l g x (nI 33) (nI 126)) (va_cwS 3 hts gX4_append_X4_in rfl rfl rfl (by decide +kernel) ⟨Nat.le_of_ble_eq_true rfl, Nat.le_of_ble_eq_true rfl⟩) hE hP hD hS hA (List.Perm.refl _) (List.Perm.refl _) rfl hl.1 rfl (Nat.le_of_ble_eq_true rfl) dX4_append_10 ⟨Nat.le_of_ble_eq_true rfl, Nat.le_of_ble_eq_true rfl⟩ (fun H locs hP hD hS => ?_)
  have hP : va_P g.1 vwCl (wM g a (sMth m9 (nI 0))) _ := hP
  have hD : va_D A (wM g a (sMth m9 (nI 0))) := hD
  refine k_ifneB (tgt := 22) hx hb dX4_append_13 (by decide) (fun c1 => ?_) (fun c1 => ?_)
  ·
    refine lv_aload_n hx hb dX4_append_22 rfl (lv_at hl 0 rfl) ?_
    refine va_get (D := g.1) (ci := 4) (v := .int (mln m9)) (C := RX4) (T := TX4) (N := 12) hx hb hts hiX4 hown hE.1 hP 0 rfl rfl 6 (by decide) f113 (fun _ h9 => h9) rfl dX4_append_23 ?_
    refine k_top hln ?_
    refine lv_bipush (v := (nI 60)) hx hb dX4_append_26 (by decide) ?_
    refine k_neN (tgt := 37) hx hb (by omega) (by decide) dX4_append_28 (by decide) (fun c2 => ?_) (fun c2 => ?_)
    ·
      refine lv_aload_n hx hb dX4_append_37 rfl (lv_at hl 0 rfl) ?_
      refine va_get (D := g.1) (ci := 4) (v := .ref (a 4)) (C := RX4) (T := TX4) (N := 12) hx hb hts hiX4 hown hE.1 hP 0 rfl rfl 5 (by decide) f19 (fun _ h9 => h9) rfl dX4_append_38 ?_
      refine lv_aload_n hx hb dX4_append_41 rfl (lv_at hl 0 rfl) ?_
      refine va_get (D := g.1) (ci := 4) (v := .int (mln m9)) (C := RX4) (T := TX4) (N := 12) hx hb hts hiX4 hown hE.1 hP 0 rfl rfl 6 (by decide) f113 (fun _ h9 => h9) rfl dX4_append_42 ?_
      refine k_top hln ?_
      refine lv_iload_n hx hb dX4_append_45 rfl (lv_at hl 1 rfl) ?_
      refine k_iast (f := (mbf m9)) (ws1 := (wM g a (sMbf (sMth m9 (nI 0)) (upd (mbf m9) n x)))) hx hb hE hP hD hS 4 rfl n rfl (by omega) (by decide) rfl dX4_append_46 (fun H locs hP hD hS => ?_)
      refine lv_aload_n hx hb dX4_append_47 rfl (lv_at hl 0 rfl) ?_
      refine lv_dup hx hb dX4_append_48 rfl ?_
      refine va_get (D := g.1) (ci := 4) (v := .int (mln m9)) (C := RX4) (T := TX4) (N := 12) hx hb hts hiX4 hown hE.1 hP 0 rfl rfl 6 (by decide) f113 (fun _ h9 => h9) rfl dX4_append_49 ?_
      refine k_top hln ?_
      refine lv_iconst (v := (nI 1)) hx hb dX4_append_52 (by decide) ?_
      refine lv_iadd hx hb dX4_append_53 ?_
      refine k_top (nI_add _ _) ?_
      refine va_put (D := g.1) (ci := 4) (v := .int (nI (n + 1))) (ty := .int) (C := RX4) (T := TX4) (N := 12) hx hb hts hiX4 tyX4 tyX4_ok nmX4 hown hE.1 hP hD hS 0 rfl rfl 6 (by decide) f113 (fun _ h9 => h9) rfl (tyX4_ok 6 (by decide)) rfl rfl (Nat.le_of_ble_eq_true rfl) dX4_append_54 (fun H locs hP hD hS => ?_)
      have hP : va_P g.1 vwCl (wM g a (sMln (sMbf (sMth m9 (nI 0)) (upd (mbf m9) n x)) (nI (n + 1)))) _ := hP
      have hD : va_D A (wM g a (sMln (sMbf (sMth m9 (nI 0)) (upd (mbf m9) n x)) (nI (n + 1)))) := hD
      refine lv_aload_n hx hb dX4_append_57 rfl (lv_at hl 0 rfl) ?_
      refine va_get (D := g.1) (ci := 4) (v := .int (nI (n + 1))) (C := RX4) (T := TX4) (N := 12) hx hb hts hiX4 hown hE.1 hP 0 rfl rfl 6 (by decide) f113 (fun _ h9 => h9) rfl dX4_append_58 ?_
      have e3 : (MappS n x m9) = (sMln (sMbf (sMth m9 (nI 0)) (upd (mbf m9) n x)) (nI (n + 1))) := (by first | (simp only [MappS, MappR, if_pos c1, if_neg (not_not_intro c1), if_neg c2, if_pos c2]; done) | (simp only [MappS, MappR, if_pos c1, if_neg (not_not_intro c1), if_neg c2, if_pos c2]; rfl) | rfl | (simp [MappS, MappR, if_pos c1, if_neg (not_not_intro c1), if_neg c2, if_pos c2]; done))
      have hP : va_P g.1 vwCl (wM g a (MappS n x m9)) H := by rw [e3]; exact hP
      have hD : va_D A (wM g a (MappS n x m9)) := by rw [e3]; exact hD
      exact k_iret hx hb hr hlocks rfl (by first | (simp only [MappS, MappR, bI, if_pos c1, if_neg (not_not_intro c1), if_neg c2, if_pos c2]; done) | (simp only [MappS, MappR, bI, if_pos c1, if_neg (not_not_intro c1), if_neg c2, if_pos c2]; rfl) | rfl | (simp [MappS, MappR, bI, if_pos c1, if_neg (not_not_intro c1), if_neg c2, if_pos c2]; done)) hP hD hS (Nat.le_of_ble_eq_true rfl) (Nat.le_of_ble_eq_true rfl) dX4_append_61
    ·
      refine lv_aload_n hx hb dX4_append_31 rfl (lv_at hl 0 rfl) ?_
      refine lv_iconst (v := (nI 2)) hx hb dX4_append_32 (by decide) ?_
      refine k_Vi (As := [.int (nI 2)]) (r := (nI 0)) hF (c_X4_fails l g a (sMth m9 (nI 0)) (nI 2)) (cwV 1 hts gX4_append_X4_fails rfl rfl rfl (by decide +kernel) ⟨Nat.le_of_ble_eq_true rfl, Nat.le_of_ble_eq_true rfl⟩) hE hP hD hS hA (k_pall _) ((k_pall _).symm) 0 rfl rfl rfl rfl hl.1 rfl (Nat.le_of_ble_eq_true rfl) dX4_append_33 ⟨Nat.le_of_ble_eq_true rfl, Nat.le_of_ble_eq_true rfl⟩ (fun H locs hP hD hS => ?_)
      have hP : va_P g.1 vwCl (wM g a (sMth m9 (nI 2))) _ := hP
      have hD : va_D A (wM g a (sMth m9 (nI 2))) := hD
      have e4 : (MappS n x m9) = (sMth m9 (nI 2)) := (by first | (simp only [MappS, MappR, if_pos c1, if_neg (not_not_intro c1), if_pos c2, if_neg (not_not_intro c2)]; done) | (simp only [MappS, MappR, if_pos c1, if_neg (not_not_intro c1), if_pos c2, if_neg (not_not_intro c2)]; rfl) | rfl | (simp [MappS, MappR, if_pos c1, if_neg (not_not_intro c1), if_pos c2, if_neg (not_not_intro c2)]; done))
      have hP : va_P g.1 vwCl (wM g a (MappS n x m9)) H := by rw [e4]; exact hP
      have hD : va_D A (wM g a (MappS n x m9)) := by rw [e4]; exact hD
      exact k_iret hx hb hr hlocks rfl (by first | (simp only [MappS, MappR, bI, if_pos c1, if_neg (not_not_intro c1), if_pos c2, if_neg (not_not_intro c2)]; done) | (simp only [MappS, MappR, bI, if_pos c1, if_neg (not_not_intro c1), if_pos c2, if_neg (not_not_intro c2)]; rfl) | rfl | (simp [MappS, MappR, bI, if_pos c1, if_neg (not_not_intro c1), if_pos c2, if_neg (not_not_intro c2)]; done)) hP hD hS (Nat.le_of_ble_eq_true rfl) (Nat.le_of_ble_eq_true rfl) dX4_append_36
  ·
    refine lv_aload_n hx hb dX4_append_16 rfl (lv_at hl 0 rfl) ?_
    refine lv_iconst (v := (nI 1)) hx hb dX4_append_17 (by decide) ?_
    refine k_Vi (As := [.int (nI 1)]) (r := (nI 0)) hF (c_X4_fails l g a (sMth m9 (nI 0)) (nI 1)) (cwV 1 hts gX4_append_X4_fails rfl rfl rfl (by decide +kernel) ⟨Nat.le_of_ble_eq_true rfl, Nat.le_of_ble_eq_true rfl⟩) hE hP hD hS hA (k_pall _) ((k_pall _).symm) 0 rfl rfl rfl rfl hl.1 rfl (Nat.le_of_ble_eq_true rfl) dX4_append_18 ⟨Nat.le_of_ble_eq_true rfl, Nat.le_of_ble_eq_true rfl⟩ (fun H locs hP hD hS => ?_)
    have hP : va_P g.1 vwCl (wM g a (sMth m9 (nI 1))) _ := hP
    have hD : va_D A (wM g a (sMth m9 (nI 1))) := hD
    have e5 : (MappS n x m9) = (sMth m9 (nI 1)) := (by first | (simp only [MappS, MappR, if_neg c1, if_pos c1]; done) | (simp only [MappS, MappR, if_neg c1, if_pos c1]; rfl) | rfl | (simp [MappS, MappR, if_neg c1, if_pos c1]; done))
    have hP : va_P g.1 vwCl (wM g a (MappS n x m9)) H := by rw [e5]; exact hP
    have hD : va_D A (wM g a (MappS n x m9)) := by rw [e5]; exact hD
    exact k_iret hx hb hr hlocks rfl (by first | (simp only [MappS, MappR, bI, if_neg c1, if_pos c1]; done) | (simp only [MappS, MappR, bI, if_neg c1, if_pos c1]; rfl) | rfl | (simp [MappS, MappR, bI, if_neg c1, if_pos c1]; done)) hP hD hS (Nat.le_of_ble_eq_true rfl) (Nat.le_of_ble_eq_true rfl) dX4_append_21
set_option maxHeartbeats 4000000 in
set_option maxRecDepth 100000 in
theorem c_X4_clearText (l : Launch) (g : kG) (a : Nat → Nat) (m9 : MSt) (n : Nat) (hn : n ≤ 60) (hln : mln m9 = nI n) : KI l yX4_clearText wsX4_clearText ({ frames := 0, cells := 0, slots := 0, locals := 0 }) g [.ref (a 0)] (wM g a m9) (nI n) (wM g a (sMln (sMth m9 (nI 0)) (nI 0))) 0 0 := by
  refine k_begin (cc := cX4_clearText) (maxL := 2) (ret := (some .int)) (Qc := fun A => kQi g (nI n) (wM g a (sMln (sMth m9 (nI 0)) (nI 0))) A) (by decide) rfl (Nat.le_of_ble_eq_true rfl) ?_
  intro p e s m below meth c A ls hF hr hlocks hin hE hP hD hS hA hl
  obtain ⟨hx, hb, hml, hown, hts⟩ := id hF
  have hown : s.vm.findClass RX4 = some m.cls := hown
  have hl : lv_has ls 2 [(0, .ref (a 0))] := hl
  have hiX4 : ∀ w ∈ wsX40, w ∈ wsX4_clearText := fun _ h => List.mem_cons_of_mem _ (List.mem_append_right _ (h))
  have f25 : (Cond.fieldLink RX4 25 "ConcertUsherModel" "thrown" "I").before _ s = true := hts _ (List.mem_of_getElem? (i := 1) rfl)
  have f113 : (Cond.fieldLink RX4 113 "ConcertUsherModel" "length" "I").before _ s = true := hts _ (List.mem_of_getElem? (i := 2) rfl)
  refine lv_aload_n hx hb dX4_clearText_0 rfl (lv_at hl 0 rfl) ?_
  refine lv_iconst (v := (nI 0)) hx hb dX4_clearText_1 (by decide) ?_
  refine va_put (D := g.1) (ci := 4) (v := .int (nI 0)) (ty := .int) (C := RX4) (T := TX4) (N := 12) hx hb hts hiX4 tyX4 tyX4_ok nmX4 hown hE.1 hP hD hS 0 rfl rfl 0 (by decide) f25 (fun _ h9 => h9) rfl (tyX4_ok 0 (by decide)) rfl rfl (Nat.le_of_ble_eq_true rfl) dX4_clearText_2 (fun H locs hP hD hS => ?_)
  have hP : va_P g.1 vwCl (wM g a (sMth m9 (nI 0))) _ := hP
  have hD : va_D A (wM g a (sMth m9 (nI 0))) := hD
  refine lv_aload_n hx hb dX4_clearText_5 rfl (lv_at hl 0 rfl) ?_
  refine va_get (D := g.1) (ci := 4) (v := .int (mln m9)) (C := RX4) (T := TX4) (N := 12) hx hb hts hiX4 hown hE.1 hP 0 rfl rfl 6 (by decide) f113 (fun _ h9 => h9) rfl dX4_clearText_6 ?_
  refine k_top hln ?_
  refine lv_istore_n (lv' := [(1, .int (nI n)), (0, .ref (a 0))]) hx hb dX4_clearText_9 rfl hl (by decide) rfl (fun ls hl => ?_)
  refine lv_aload_n hx hb dX4_clearText_10 rfl (lv_at hl 1 rfl) ?_
  refine lv_iconst (v := (nI 0)) hx hb dX4_clearText_11 (by decide) ?_
  refine va_put (D := g.1) (ci := 4) (v := .int (nI 0)) (ty := .int) (C := RX4) (T := TX4) (N := 12) hx hb hts hiX4 tyX4 tyX4_ok nmX4 hown hE.1 hP hD hS 0 rfl rfl 6 (by decide) f113 (fun _ h9 => h9) rfl (tyX4_ok 6 (by decide)) rfl rfl (Nat.le_of_ble_eq_true rfl) dX4_clearText_12 (fun H locs hP hD hS => ?_)
  have hP : va_P g.1 vwCl (wM g a (sMln (sMth m9 (nI 0)) (nI 0))) _ := hP
  have hD : va_D A (wM g a (sMln (sMth m9 (nI 0)) (nI 0))) := hD
  refine lv_iload_n hx hb dX4_clearText_15 rfl (lv_at hl 0 rfl) ?_
  have hP : va_P g.1 vwCl (wM g a (sMln (sMth m9 (nI 0)) (nI 0))) _ := hP
  have hD : va_D A (wM g a (sMln (sMth m9 (nI 0)) (nI 0))) := hD
  exact k_iret hx hb hr hlocks rfl rfl hP hD hS (Nat.le_of_ble_eq_true rfl) (Nat.le_of_ble_eq_true rfl) dX4_clearText_16
set_option maxHeartbeats 4000000 in
set_option maxRecDepth 100000 in
theorem c_X4_savedStates (l : Launch) (g : kG) (a : Nat → Nat) (m9 : MSt) (j : Nat) (hj : j ≤ 6) (hjm : msm m9 = nI j) : KI l yX4_savedStates wsX4_savedStates ({ frames := 0, cells := 0, slots := 0, locals := 0 }) g [.ref (a 0)] (wM g a m9) (nI j) (wM g a (sMth m9 (nI 0))) 0 0 := by
  refine k_begin (cc := cX4_savedStates) (maxL := 1) (ret := (some .int)) (Qc := fun A => kQi g (nI j) (wM g a (sMth m9 (nI 0))) A) (by decide) rfl (Nat.le_of_ble_eq_true rfl) ?_
  intro p e s m below meth c A ls hF hr hlocks hin hE hP hD hS hA hl
  obtain ⟨hx, hb, hml, hown, hts⟩ := id hF
  have hown : s.vm.findClass RX4 = some m.cls := hown
  have hl : lv_has ls 1 [(0, .ref (a 0))] := hl
  have hiX4 : ∀ w ∈ wsX40, w ∈ wsX4_savedStates := fun _ h => List.mem_cons_of_mem _ (List.mem_append_right _ (h))
  have f25 : (Cond.fieldLink RX4 25 "ConcertUsherModel" "thrown" "I").before _ s = true := hts _ (List.mem_of_getElem? (i := 1) rfl)
  have f33 : (Cond.fieldLink RX4 33 "ConcertUsherModel" "savedMany" "I").before _ s = true := hts _ (List.mem_of_getElem? (i := 2) rfl)
  refine lv_aload_n hx hb dX4_savedStates_0 rfl (lv_at hl 0 rfl) ?_
  refine lv_iconst (v := (nI 0)) hx hb dX4_savedStates_1 (by decide) ?_
  refine va_put (D := g.1) (ci := 4) (v := .int (nI 0)) (ty := .int) (C := RX4) (T := TX4) (N := 12) hx hb hts hiX4 tyX4 tyX4_ok nmX4 hown hE.1 hP hD hS 0 rfl rfl 0 (by decide) f25 (fun _ h9 => h9) rfl (tyX4_ok 0 (by decide)) rfl rfl (Nat.le_of_ble_eq_true rfl) dX4_savedStates_2 (fun H locs hP hD hS => ?_)
  have hP : va_P g.1 vwCl (wM g a (sMth m9 (nI 0))) _ := hP
  have hD : va_D A (wM g a (sMth m9 (nI 0))) := hD
  refine lv_aload_n hx hb dX4_savedStates_5 rfl (lv_at hl 0 rfl) ?_
  refine va_get (D := g.1) (ci := 4) (v := .int (msm m9)) (C := RX4) (T := TX4) (N := 12) hx hb hts hiX4 hown hE.1 hP 0 rfl rfl 4 (by decide) f33 (fun _ h9 => h9) rfl dX4_savedStates_6 ?_
  refine k_top hjm ?_
  have hP : va_P g.1 vwCl (wM g a (sMth m9 (nI 0))) _ := hP
  have hD : va_D A (wM g a (sMth m9 (nI 0))) := hD
  exact k_iret hx hb hr hlocks rfl rfl hP hD hS (Nat.le_of_ble_eq_true rfl) (Nat.le_of_ble_eq_true rfl) dX4_savedStates_9
set_option maxHeartbeats 4000000 in
set_option maxRecDepth 100000 in
theorem c_X4_undo (l : Launch) (g : kG) (a : Nat → Nat) (m9 : MSt) (j : Nat) (hj : j ≤ 6) (hjm : msm m9 = nI j) : KI l yX4_undo wsX4_undo ({ frames := 1, cells := 0, slots := 0, locals := 21 }) g [.ref (a 0)] (wM g a m9) (MundoR j) (wM g a (MundoS j m9)) 0 0 := by
  refine k_begin (cc := cX4_undo) (maxL := 2) (ret := (some .int)) (Qc := fun A => kQi g (MundoR j) (wM g a (MundoS j m9)) A) (by decide) rfl (Nat.le_of_ble_eq_true rfl) ?_
  intro p e s m below meth c A ls hF hr hlocks hin hE hP hD hS hA hl
  obtain ⟨hx, hb, hml, hown, hts⟩ := id hF
  have hown : s.vm.findClass RX4 = some m.cls := hown
  have hl : lv_has ls 2 [(0, .ref (a 0))] := hl
  have hiX4 : ∀ w ∈ wsX40, w ∈ wsX4_undo := fun _ h => List.mem_cons_of_mem _ (List.mem_append_right _ (h))
  have f25 : (Cond.fieldLink RX4 25 "ConcertUsherModel" "thrown" "I").before _ s = true := hts _ (List.mem_of_getElem? (i := 1) rfl)
  have f33 : (Cond.fieldLink RX4 33 "ConcertUsherModel" "savedMany" "I").before _ s = true := hts _ (List.mem_of_getElem? (i := 2) rfl)
  have f7 : (Cond.fieldLink RX4 7 "ConcertUsherModel" "s" "[I").before _ s = true := hts _ (List.mem_of_getElem? (i := 3) rfl)
  have f16 : (Cond.fieldLink RX4 16 "ConcertUsherModel" "saved" "[I").before _ s = true := hts _ (List.mem_of_getElem? (i := 4) rfl)
  refine lv_aload_n hx hb dX4_undo_0 rfl (lv_at hl 0 rfl) ?_
  refine lv_iconst (v := (nI 0)) hx hb dX4_undo_1 (by decide) ?_
  refine va_put (D := g.1) (ci := 4) (v := .int (nI 0)) (ty := .int) (C := RX4) (T := TX4) (N := 12) hx hb hts hiX4 tyX4 tyX4_ok nmX4 hown hE.1 hP hD hS 0 rfl rfl 0 (by decide) f25 (fun _ h9 => h9) rfl (tyX4_ok 0 (by decide)) rfl rfl (Nat.le_of_ble_eq_true rfl) dX4_undo_2 (fun H locs hP hD hS => ?_)
  have hP : va_P g.1 vwCl (wM g a (sMth m9 (nI 0))) _ := hP
  have hD : va_D A (wM g a (sMth m9 (nI 0))) := hD
  refine lv_aload_n hx hb dX4_undo_5 rfl (lv_at hl 0 rfl) ?_
  refine va_get (D := g.1) (ci := 4) (v := .int (msm m9)) (C := RX4) (T := TX4) (N := 12) hx hb hts hiX4 hown hE.1 hP 0 rfl rfl 4 (by decide) f33 (fun _ h9 => h9) rfl dX4_undo_6 ?_
  refine k_top hjm ?_
  refine k_ifn0 (tgt := 18) hx hb (by omega) dX4_undo_9 (by decide) (fun c1 => ?_) (fun c1 => ?_)
  ·
    refine lv_aload_n hx hb dX4_undo_18 rfl (lv_at hl 0 rfl) ?_
    refine lv_dup hx hb dX4_undo_19 rfl ?_
    refine va_get (D := g.1) (ci := 4) (v := .int (msm m9)) (C := RX4) (T := TX4) (N := 12) hx hb hts hiX4 hown hE.1 hP 0 rfl rfl 4 (by decide) f33 (fun _ h9 => h9) rfl dX4_undo_20 ?_
    refine k_top hjm ?_
    refine lv_iconst (v := (nI 1)) hx hb dX4_undo_23 (by decide) ?_
    refine lv_isub hx hb dX4_undo_24 ?_
    refine k_top (pk_sub (by omega)) ?_
    refine va_put (D := g.1) (ci := 4) (v := .int (nI (j - 1))) (ty := .int) (C := RX4) (T := TX4) (N := 12) hx hb hts hiX4 tyX4 tyX4_ok nmX4 hown hE.1 hP hD hS 0 rfl rfl 4 (by decide) f33 (fun _ h9 => h9) rfl (tyX4_ok 4 (by decide)) rfl rfl (Nat.le_of_ble_eq_true rfl) dX4_undo_25 (fun H locs hP hD hS => ?_)
    have hP : va_P g.1 vwCl (wM g a (sMsm (sMth m9 (nI 0)) (nI (j - 1)))) _ := hP
    have hD : va_D A (wM g a (sMsm (sMth m9 (nI 0)) (nI (j - 1)))) := hD
    refine lv_iconst (v := (nI 0)) hx hb dX4_undo_28 (by decide) ?_
    refine lv_istore_n (lv' := [(1, .int (nI 0)), (0, .ref (a 0))]) hx hb dX4_undo_29 rfl hl (by decide) rfl (fun ls hl => ?_)
    refine k_loop (N := 120) (Inv := fun (i : Nat) (H : Heap) (locs : List Loc) (ls : Array Slot) => va_P g.1 vwCl (wM g a (sMs (sMsm (sMth m9 (nI 0)) (nI (j - 1))) (cpN (fun k => msv m9 (120 * (j - 1) + k)) (ms m9) i))) H ∧ va_D A (wM g a (sMs (sMsm (sMth m9 (nI 0)) (nI (j - 1))) (cpN (fun k => msv m9 (120 * (j - 1) + k)) (ms m9) i))) ∧ va_S A s.heap H locs ∧ lv_has ls 2 [(1, .int (nI i)), (0, .ref (a 0))]) 0 (Nat.zero_le _) ⟨hP, hD, hS, lv_sub hl [0, 1] rfl⟩ (fun i hle3 ih2 H locs ls hinv => ?_)
    obtain ⟨hP, hD, hS, hl⟩ := hinv
    refine lv_iload_n hx hb dX4_undo_30 rfl (lv_at hl 0 rfl) ?_
    refine lv_bipush (v := (nI 120)) hx hb dX4_undo_31 (by decide) ?_
    refine k_geN (tgt := 62) hx hb (by omega) (by decide) dX4_undo_33 (by decide) (fun c4 => ?_) (fun c4 => ?_)
    ·
      obtain rfl : 120 = i := by omega
      refine lv_aload_n hx hb dX4_undo_62 rfl (lv_at hl 1 rfl) ?_
      refine va_get (D := g.1) (ci := 4) (v := .int (nI (j - 1))) (C := RX4) (T := TX4) (N := 12) hx hb hts hiX4 hown hE.1 hP 0 rfl rfl 4 (by decide) f33 (fun _ h9 => h9) rfl dX4_undo_63 ?_
      have e5 : (MundoS j m9) = (sMs (sMsm (sMth m9 (nI 0)) (nI (j - 1))) (cpN (fun k => msv m9 (120 * (j - 1) + k)) (ms m9) 120)) := (by first | (simp only [MundoS, MundoR, if_neg c1, if_pos c1, if_pos c4, if_neg (not_not_intro c4)]; done) | (simp only [MundoS, MundoR, if_neg c1, if_pos c1, if_pos c4, if_neg (not_not_intro c4)]; rfl) | rfl | (simp [MundoS, MundoR, if_neg c1, if_pos c1, if_pos c4, if_neg (not_not_intro c4)]; done))
      have hP : va_P g.1 vwCl (wM g a (MundoS j m9)) H := by rw [e5]; exact hP
      have hD : va_D A (wM g a (MundoS j m9)) := by rw [e5]; exact hD
      exact k_iret hx hb hr hlocks rfl (by first | (simp only [MundoS, MundoR, bI, if_neg c1, if_pos c1, if_pos c4, if_neg (not_not_intro c4)]; done) | (simp only [MundoS, MundoR, bI, if_neg c1, if_pos c1, if_pos c4, if_neg (not_not_intro c4)]; rfl) | rfl | (simp [MundoS, MundoR, bI, if_neg c1, if_pos c1, if_pos c4, if_neg (not_not_intro c4)]; done)) hP hD hS (Nat.le_of_ble_eq_true rfl) (Nat.le_of_ble_eq_true rfl) dX4_undo_66
    ·
      refine lv_aload_n hx hb dX4_undo_36 rfl (lv_at hl 1 rfl) ?_
      refine va_get (D := g.1) (ci := 4) (v := .ref (a 1)) (C := RX4) (T := TX4) (N := 12) hx hb hts hiX4 hown hE.1 hP 0 rfl rfl 1 (by decide) f7 (fun _ h9 => h9) rfl dX4_undo_37 ?_
      refine lv_iload_n hx hb dX4_undo_40 rfl (lv_at hl 0 rfl) ?_
      refine lv_aload_n hx hb dX4_undo_41 rfl (lv_at hl 1 rfl) ?_
      refine va_get (D := g.1) (ci := 4) (v := .ref (a 3)) (C := RX4) (T := TX4) (N := 12) hx hb hts hiX4 hown hE.1 hP 0 rfl rfl 3 (by decide) f16 (fun _ h9 => h9) rfl dX4_undo_42 ?_
      refine lv_bipush (v := (nI 120)) hx hb dX4_undo_45 (by decide) ?_
      refine lv_aload_n hx hb dX4_undo_47 rfl (lv_at hl 1 rfl) ?_
      refine va_get (D := g.1) (ci := 4) (v := .int (nI (j - 1))) (C := RX4) (T := TX4) (N := 12) hx hb hts hiX4 hown hE.1 hP 0 rfl rfl 4 (by decide) f33 (fun _ h9 => h9) rfl dX4_undo_48 ?_
      refine lv_imul hx hb dX4_undo_51 ?_
      refine k_top (pk_mul _ _) ?_
      refine lv_iload_n hx hb dX4_undo_52 rfl (lv_at hl 0 rfl) ?_
      refine lv_iadd hx hb dX4_undo_53 ?_
      refine k_top (nI_add _ _) ?_
      refine k_iald (f := (msv m9)) hx hb hE hP 3 rfl ((120 * (j - 1)) + i) rfl (by omega) (by decide) dX4_undo_54 ?_
      refine k_iast (f := (cpN (fun k => msv m9 (120 * (j - 1) + k)) (ms m9) i)) (ws1 := (wM g a (sMs (sMsm (sMth m9 (nI 0)) (nI (j - 1))) (upd (cpN (fun k => msv m9 (120 * (j - 1) + k)) (ms m9) i) i ((msv m9) ((120 * (j - 1)) + i)))))) hx hb hE hP hD hS 1 rfl i rfl (by omega) (by decide) rfl dX4_undo_55 (fun H locs hP hD hS => ?_)
      refine lv_iinc (v := (nI (i + 1))) (lv' := [(1, .int (nI (i + 1))), (0, .ref (a 0))]) hx hb dX4_undo_56 hl (k := 0) rfl (k_inc1 _) (by decide) rfl (fun ls hl => ?_)
      refine lv_goto (tgt := 30) hx hb dX4_undo_59 (by decide) ?_
      have e6 : (sMs (sMsm (sMth m9 (nI 0)) (nI (j - 1))) (cpN (fun k => msv m9 (120 * (j - 1) + k)) (ms m9) (i + 1))) = (sMs (sMsm (sMth m9 (nI 0)) (nI (j - 1))) (upd (cpN (fun k => msv m9 (120 * (j - 1) + k)) (ms m9) i) i ((msv m9) ((120 * (j - 1)) + i)))) := (by first | (simp only [MundoS, MundoR, cpN, if_neg c1, if_pos c1, if_neg (Nat.not_le.mpr c4), if_pos (Nat.not_le.mpr c4)]; done) | (simp only [MundoS, MundoR, cpN, if_neg c1, if_pos c1, if_neg (Nat.not_le.mpr c4), if_pos (Nat.not_le.mpr c4)]; rfl) | rfl | (simp [MundoS, MundoR, cpN, if_neg c1, if_pos c1, if_neg (Nat.not_le.mpr c4), if_pos (Nat.not_le.mpr c4)]; done))
      exact ih2 _ _ _ (by omega) ⟨(by rw [e6]; exact hP), (by rw [e6]; exact hD), hS, lv_sub hl [0, 1] rfl⟩
  ·
    refine lv_aload_n hx hb dX4_undo_12 rfl (lv_at hl 0 rfl) ?_
    refine lv_iconst (v := (nI 1)) hx hb dX4_undo_13 (by decide) ?_
    refine k_Vi (As := [.int (nI 1)]) (r := (nI 0)) hF (c_X4_fails l g a (sMth m9 (nI 0)) (nI 1)) (cwV 1 hts gX4_undo_X4_fails rfl rfl rfl (by decide +kernel) ⟨Nat.le_of_ble_eq_true rfl, Nat.le_of_ble_eq_true rfl⟩) hE hP hD hS hA (k_pall _) ((k_pall _).symm) 0 rfl rfl rfl rfl hl.1 rfl (Nat.le_of_ble_eq_true rfl) dX4_undo_14 ⟨Nat.le_of_ble_eq_true rfl, Nat.le_of_ble_eq_true rfl⟩ (fun H locs hP hD hS => ?_)
    have hP : va_P g.1 vwCl (wM g a (sMth m9 (nI 1))) _ := hP
    have hD : va_D A (wM g a (sMth m9 (nI 1))) := hD
    have e7 : (MundoS j m9) = (sMth m9 (nI 1)) := (by first | (simp only [MundoS, MundoR, if_pos c1, if_neg (not_not_intro c1)]; done) | (simp only [MundoS, MundoR, if_pos c1, if_neg (not_not_intro c1)]; rfl) | rfl | (simp [MundoS, MundoR, if_pos c1, if_neg (not_not_intro c1)]; done))
    have hP : va_P g.1 vwCl (wM g a (MundoS j m9)) H := by rw [e7]; exact hP
    have hD : va_D A (wM g a (MundoS j m9)) := by rw [e7]; exact hD
    exact k_iret hx hb hr hlocks rfl (by first | (simp only [MundoS, MundoR, bI, if_pos c1, if_neg (not_not_intro c1)]; done) | (simp only [MundoS, MundoR, bI, if_pos c1, if_neg (not_not_intro c1)]; rfl) | rfl | (simp [MundoS, MundoR, bI, if_pos c1, if_neg (not_not_intro c1)]; done)) hP hD hS (Nat.le_of_ble_eq_true rfl) (Nat.le_of_ble_eq_true rfl) dX4_undo_17
set_option maxHeartbeats 4000000 in
set_option maxRecDepth 100000 in
theorem c_X4_hashes (l : Launch) (g : kG) (a : Nat → Nat) (m9 : MSt) (v : Int32) : KV l yX4_hashes wsX4_hashes ({ frames := 0, cells := 0, slots := 0, locals := 0 }) g [.ref (a 0), .int v] (wM g a m9) (wM g a (sMhs m9 (mixI (mhs m9) v))) 0 0 := by
  refine k_begin (cc := cX4_hashes) (maxL := 2) (ret := none) (Qc := fun A => kQv g (wM g a (sMhs m9 (mixI (mhs m9) v))) A) (by decide) rfl (Nat.le_of_ble_eq_true rfl) ?_
  intro p e s m below meth c A ls hF hr hlocks hin hE hP hD hS hA hl
  obtain ⟨hx, hb, hml, hown, hts⟩ := id hF
  have hown : s.vm.findClass RX4 = some m.cls := hown
  have hl : lv_has ls 2 [(0, .ref (a 0)), (1, .int v)] := hl
  have hiX4 : ∀ w ∈ wsX40, w ∈ wsX4_hashes := fun _ h => List.mem_cons_of_mem _ (List.mem_append_right _ (h))
  have cst144 : (Cond.constantLong RX4 144 (31)).before _ s = true := hts _ (List.mem_of_getElem? (i := 1) rfl)
  have f146 : (Cond.fieldLink RX4 146 "ConcertUsherModel" "hash" "J").before _ s = true := hts _ (List.mem_of_getElem? (i := 2) rfl)
  refine lv_aload_n hx hb dX4_hashes_0 rfl (lv_at hl 0 rfl) ?_
  refine lv_ldc2 hx hb hown cst144 dX4_hashes_1 ?_
  refine lv_aload_n hx hb dX4_hashes_4 rfl (lv_at hl 0 rfl) ?_
  refine va_get (D := g.1) (ci := 4) (v := .long (mhs m9)) (C := RX4) (T := TX4) (N := 12) hx hb hts hiX4 hown hE.1 hP 0 rfl rfl 11 (by decide) f146 (fun _ h9 => h9) rfl dX4_hashes_5 ?_
  refine lv_lmul hx hb dX4_hashes_8 ?_
  refine lv_iload_n hx hb dX4_hashes_9 rfl (lv_at hl 1 rfl) ?_
  refine lv_i2l (v := (Int32.toInt64 v)) hx hb dX4_hashes_10 rfl ?_
  refine lv_ladd hx hb dX4_hashes_11 ?_
  refine va_put (D := g.1) (ci := 4) (v := .long ((31 * (mhs m9)) + (Int32.toInt64 v))) (ty := .long) (C := RX4) (T := TX4) (N := 12) hx hb hts hiX4 tyX4 tyX4_ok nmX4 hown hE.1 hP hD hS 0 rfl rfl 11 (by decide) f146 (fun _ h9 => h9) rfl (tyX4_ok 11 (by decide)) rfl rfl (Nat.le_of_ble_eq_true rfl) dX4_hashes_12 (fun H locs hP hD hS => ?_)
  have hP : va_P g.1 vwCl (wM g a (sMhs m9 ((31 * (mhs m9)) + (Int32.toInt64 v)))) _ := hP
  have hD : va_D A (wM g a (sMhs m9 ((31 * (mhs m9)) + (Int32.toInt64 v)))) := hD
  have hP : va_P g.1 vwCl (wM g a (sMhs m9 (mixI (mhs m9) v))) _ := hP
  have hD : va_D A (wM g a (sMhs m9 (mixI (mhs m9) v))) := hD
  exact k_vret hx hb hr hlocks hP hD hS (Nat.le_of_ble_eq_true rfl) (Nat.le_of_ble_eq_true rfl) dX4_hashes_15
set_option maxHeartbeats 4000000 in
set_option maxRecDepth 100000 in
theorem c_X4_digest (l : Launch) (g : kG) (a : Nat → Nat) (m9 : MSt) (j : Nat) (hj : j ≤ 6) (hjm : msm m9 = nI j) : KL l yX4_digest wsX4_digest ({ frames := 4, cells := 0, slots := 0, locals := 85 }) g [.ref (a 0)] (wM g a m9) (Mdig (ms m9)) (wM g a (MdigS m9)) 0 0 := by
  refine k_begin (cc := cX4_digest) (maxL := 2) (ret := (some .long)) (Qc := fun A => kQl g (Mdig (ms m9)) (wM g a (MdigS m9)) A) (by decide) rfl (Nat.le_of_ble_eq_true rfl) ?_
  intro p e s m below meth c A ls hF hr hlocks hin hE hP hD hS hA hl
  obtain ⟨hx, hb, hml, hown, hts⟩ := id hF
  have hown : s.vm.findClass RX4 = some m.cls := hown
  have hl : lv_has ls 2 [(0, .ref (a 0))] := hl
  have hiX4 : ∀ w ∈ wsX40, w ∈ wsX4_digest := fun _ h => List.mem_cons_of_mem _ (List.mem_append_right _ (h))
  have f25 : (Cond.fieldLink RX4 25 "ConcertUsherModel" "thrown" "I").before _ s = true := hts _ (List.mem_of_getElem? (i := 1) rfl)
  have cst150 : (Cond.constantLong RX4 150 (4701)).before _ s = true := hts _ (List.mem_of_getElem? (i := 2) rfl)
  have f146 : (Cond.fieldLink RX4 146 "ConcertUsherModel" "hash" "J").before _ s = true := hts _ (List.mem_of_getElem? (i := 3) rfl)
  have f7 : (Cond.fieldLink RX4 7 "ConcertUsherModel" "s" "[I").before _ s = true := hts _ (List.mem_of_getElem? (i := 4) rfl)
  refine lv_aload_n hx hb dX4_digest_0 rfl (lv_at hl 0 rfl) ?_
  refine lv_iconst (v := (nI 0)) hx hb dX4_digest_1 (by decide) ?_
  refine va_put (D := g.1) (ci := 4) (v := .int (nI 0)) (ty := .int) (C := RX4) (T := TX4) (N := 12) hx hb hts hiX4 tyX4 tyX4_ok nmX4 hown hE.1 hP hD hS 0 rfl rfl 0 (by decide) f25 (fun _ h9 => h9) rfl (tyX4_ok 0 (by decide)) rfl rfl (Nat.le_of_ble_eq_true rfl) dX4_digest_2 (fun H locs hP hD hS => ?_)
  have hP : va_P g.1 vwCl (wM g a (sMth m9 (nI 0))) _ := hP
  have hD : va_D A (wM g a (sMth m9 (nI 0))) := hD
  refine lv_aload_n hx hb dX4_digest_5 rfl (lv_at hl 0 rfl) ?_
  refine lv_ldc2 hx hb hown cst150 dX4_digest_6 ?_
  refine va_put (D := g.1) (ci := 4) (v := .long 4701) (ty := .long) (C := RX4) (T := TX4) (N := 12) hx hb hts hiX4 tyX4 tyX4_ok nmX4 hown hE.1 hP hD hS 0 rfl rfl 11 (by decide) f146 (fun _ h9 => h9) rfl (tyX4_ok 11 (by decide)) rfl rfl (Nat.le_of_ble_eq_true rfl) dX4_digest_9 (fun H locs hP hD hS => ?_)
  have hP : va_P g.1 vwCl (wM g a (sMhs (sMth m9 (nI 0)) 4701)) _ := hP
  have hD : va_D A (wM g a (sMhs (sMth m9 (nI 0)) 4701)) := hD
  refine lv_aload_n hx hb dX4_digest_12 rfl (lv_at hl 0 rfl) ?_
  refine lv_aload_n hx hb dX4_digest_13 rfl (lv_at hl 0 rfl) ?_
  refine va_get (D := g.1) (ci := 4) (v := .ref (a 1)) (C := RX4) (T := TX4) (N := 12) hx hb hts hiX4 hown hE.1 hP 0 rfl rfl 1 (by decide) f7 (fun _ h9 => h9) rfl dX4_digest_14 ?_
  refine lv_iconst (v := (nI 5)) hx hb dX4_digest_17 (by decide) ?_
  refine k_iald (f := (ms m9)) hx hb hE hP 1 rfl 5 rfl (by decide) (by decide) dX4_digest_18 ?_
  refine k_Vv (As := [.int ((ms m9) 5)]) hF (c_X4_hashes l g a (sMhs (sMth m9 (nI 0)) 4701) ((ms m9) 5)) (cwV 1 hts gX4_digest_X4_hashes rfl rfl rfl (by decide +kernel) ⟨Nat.le_of_ble_eq_true rfl, Nat.le_of_ble_eq_true rfl⟩) hE hP hD hS hA (k_pall _) ((k_pall _).symm) 0 rfl rfl rfl rfl hl.1 rfl (Nat.le_of_ble_eq_true rfl) dX4_digest_19 ⟨Nat.le_of_ble_eq_true rfl, Nat.le_of_ble_eq_true rfl⟩ (fun H locs hP hD hS => ?_)
  have hP : va_P g.1 vwCl (wM g a (sMhs (sMth m9 (nI 0)) (mixI 4701 ((ms m9) 5)))) _ := hP
  have hD : va_D A (wM g a (sMhs (sMth m9 (nI 0)) (mixI 4701 ((ms m9) 5)))) := hD
  refine lv_aload_n hx hb dX4_digest_22 rfl (lv_at hl 0 rfl) ?_
  refine lv_aload_n hx hb dX4_digest_23 rfl (lv_at hl 0 rfl) ?_
  refine va_get (D := g.1) (ci := 4) (v := .ref (a 1)) (C := RX4) (T := TX4) (N := 12) hx hb hts hiX4 hown hE.1 hP 0 rfl rfl 1 (by decide) f7 (fun _ h9 => h9) rfl dX4_digest_24 ?_
  refine lv_bipush (v := (nI 6)) hx hb dX4_digest_27 (by decide) ?_
  refine k_iald (f := (ms m9)) hx hb hE hP 1 rfl 6 rfl (by decide) (by decide) dX4_digest_29 ?_
  refine k_Vv (As := [.int ((ms m9) 6)]) hF (c_X4_hashes l g a (sMhs (sMth m9 (nI 0)) (mixI 4701 ((ms m9) 5))) ((ms m9) 6)) (cwV 1 hts gX4_digest_X4_hashes rfl rfl rfl (by decide +kernel) ⟨Nat.le_of_ble_eq_true rfl, Nat.le_of_ble_eq_true rfl⟩) hE hP hD hS hA (k_pall _) ((k_pall _).symm) 0 rfl rfl rfl rfl hl.1 rfl (Nat.le_of_ble_eq_true rfl) dX4_digest_30 ⟨Nat.le_of_ble_eq_true rfl, Nat.le_of_ble_eq_true rfl⟩ (fun H locs hP hD hS => ?_)
  have hP : va_P g.1 vwCl (wM g a (sMhs (sMth m9 (nI 0)) (mixI (mixI 4701 ((ms m9) 5)) ((ms m9) 6)))) _ := hP
  have hD : va_D A (wM g a (sMhs (sMth m9 (nI 0)) (mixI (mixI 4701 ((ms m9) 5)) ((ms m9) 6)))) := hD
  refine lv_aload_n hx hb dX4_digest_33 rfl (lv_at hl 0 rfl) ?_
  refine lv_aload_n hx hb dX4_digest_34 rfl (lv_at hl 0 rfl) ?_
  refine k_Vi (As := []) (r := (Mchief (ms m9))) hF (c_X4_chiefNow l g a (sMhs (sMth m9 (nI 0)) (mixI (mixI 4701 ((ms m9) 5)) ((ms m9) 6)))) (cwV 0 hts gX4_digest_X4_chiefNow rfl rfl rfl (by decide +kernel) ⟨Nat.le_of_ble_eq_true rfl, Nat.le_of_ble_eq_true rfl⟩) hE hP hD hS hA (k_pall _) ((k_pall _).symm) 0 rfl rfl rfl rfl hl.1 rfl (Nat.le_of_ble_eq_true rfl) dX4_digest_35 ⟨Nat.le_of_ble_eq_true rfl, Nat.le_of_ble_eq_true rfl⟩ (fun H locs hP hD hS => ?_)
  have hP : va_P g.1 vwCl (wM g a (sMhs (sMth m9 (nI 0)) (mixI (mixI 4701 ((ms m9) 5)) ((ms m9) 6)))) _ := hP
  have hD : va_D A (wM g a (sMhs (sMth m9 (nI 0)) (mixI (mixI 4701 ((ms m9) 5)) ((ms m9) 6)))) := hD
  refine k_Vv (As := [.int (Mchief (ms m9))]) hF (c_X4_hashes l g a (sMhs (sMth m9 (nI 0)) (mixI (mixI 4701 ((ms m9) 5)) ((ms m9) 6))) (Mchief (ms m9))) (cwV 1 hts gX4_digest_X4_hashes rfl rfl rfl (by decide +kernel) ⟨Nat.le_of_ble_eq_true rfl, Nat.le_of_ble_eq_true rfl⟩) hE hP hD hS hA (k_pall _) ((k_pall _).symm) 0 rfl rfl rfl rfl hl.1 rfl (Nat.le_of_ble_eq_true rfl) dX4_digest_38 ⟨Nat.le_of_ble_eq_true rfl, Nat.le_of_ble_eq_true rfl⟩ (fun H locs hP hD hS => ?_)
  have hP : va_P g.1 vwCl (wM g a (sMhs (sMth m9 (nI 0)) (mixI (mixI (mixI 4701 ((ms m9) 5)) ((ms m9) 6)) (Mchief (ms m9))))) _ := hP
  have hD : va_D A (wM g a (sMhs (sMth m9 (nI 0)) (mixI (mixI (mixI 4701 ((ms m9) 5)) ((ms m9) 6)) (Mchief (ms m9))))) := hD
  refine lv_aload_n hx hb dX4_digest_41 rfl (lv_at hl 0 rfl) ?_
  refine lv_aload_n hx hb dX4_digest_42 rfl (lv_at hl 0 rfl) ?_
  refine k_Vi (As := []) (r := (Ment (ms m9) 48)) hF (c_X4_entriesNow l g a (sMhs (sMth m9 (nI 0)) (mixI (mixI (mixI 4701 ((ms m9) 5)) ((ms m9) 6)) (Mchief (ms m9))))) (cwV 0 hts gX4_digest_X4_entriesNow rfl rfl rfl (by decide +kernel) ⟨Nat.le_of_ble_eq_true rfl, Nat.le_of_ble_eq_true rfl⟩) hE hP hD hS hA (k_pall _) ((k_pall _).symm) 0 rfl rfl rfl rfl hl.1 rfl (Nat.le_of_ble_eq_true rfl) dX4_digest_43 ⟨Nat.le_of_ble_eq_true rfl, Nat.le_of_ble_eq_true rfl⟩ (fun H locs hP hD hS => ?_)
  have hP : va_P g.1 vwCl (wM g a (sMhs (sMth m9 (nI 0)) (mixI (mixI (mixI 4701 ((ms m9) 5)) ((ms m9) 6)) (Mchief (ms m9))))) _ := hP
  have hD : va_D A (wM g a (sMhs (sMth m9 (nI 0)) (mixI (mixI (mixI 4701 ((ms m9) 5)) ((ms m9) 6)) (Mchief (ms m9))))) := hD
  refine k_Vv (As := [.int (Ment (ms m9) 48)]) hF (c_X4_hashes l g a (sMhs (sMth m9 (nI 0)) (mixI (mixI (mixI 4701 ((ms m9) 5)) ((ms m9) 6)) (Mchief (ms m9)))) (Ment (ms m9) 48)) (cwV 1 hts gX4_digest_X4_hashes rfl rfl rfl (by decide +kernel) ⟨Nat.le_of_ble_eq_true rfl, Nat.le_of_ble_eq_true rfl⟩) hE hP hD hS hA (k_pall _) ((k_pall _).symm) 0 rfl rfl rfl rfl hl.1 rfl (Nat.le_of_ble_eq_true rfl) dX4_digest_46 ⟨Nat.le_of_ble_eq_true rfl, Nat.le_of_ble_eq_true rfl⟩ (fun H locs hP hD hS => ?_)
  have hP : va_P g.1 vwCl (wM g a (sMhs (sMth m9 (nI 0)) (mixI (mixI (mixI (mixI 4701 ((ms m9) 5)) ((ms m9) 6)) (Mchief (ms m9))) (Ment (ms m9) 48)))) _ := hP
  have hD : va_D A (wM g a (sMhs (sMth m9 (nI 0)) (mixI (mixI (mixI (mixI 4701 ((ms m9) 5)) ((ms m9) 6)) (Mchief (ms m9))) (Ment (ms m9) 48)))) := hD
  refine lv_aload_n hx hb dX4_digest_49 rfl (lv_at hl 0 rfl) ?_
  refine lv_aload_n hx hb dX4_digest_50 rfl (lv_at hl 0 rfl) ?_
  refine k_Vi (As := []) (r := (MasksIn (ms m9))) hF (c_X4_asksIn l g a (sMhs (sMth m9 (nI 0)) (mixI (mixI (mixI (mixI 4701 ((ms m9) 5)) ((ms m9) 6)) (Mchief (ms m9))) (Ment (ms m9) 48)))) (cwV 0 hts gX4_digest_X4_asksIn rfl rfl rfl (by decide +kernel) ⟨Nat.le_of_ble_eq_true rfl, Nat.le_of_ble_eq_true rfl⟩) hE hP hD hS hA (k_pall _) ((k_pall _).symm) 0 rfl rfl rfl rfl hl.1 rfl (Nat.le_of_ble_eq_true rfl) dX4_digest_51 ⟨Nat.le_of_ble_eq_true rfl, Nat.le_of_ble_eq_true rfl⟩ (fun H locs hP hD hS => ?_)
  have hP : va_P g.1 vwCl (wM g a (sMhs (sMth m9 (nI 0)) (mixI (mixI (mixI (mixI 4701 ((ms m9) 5)) ((ms m9) 6)) (Mchief (ms m9))) (Ment (ms m9) 48)))) _ := hP
  have hD : va_D A (wM g a (sMhs (sMth m9 (nI 0)) (mixI (mixI (mixI (mixI 4701 ((ms m9) 5)) ((ms m9) 6)) (Mchief (ms m9))) (Ment (ms m9) 48)))) := hD
  refine k_Vv (As := [.int (MasksIn (ms m9))]) hF (c_X4_hashes l g a (sMhs (sMth m9 (nI 0)) (mixI (mixI (mixI (mixI 4701 ((ms m9) 5)) ((ms m9) 6)) (Mchief (ms m9))) (Ment (ms m9) 48))) (MasksIn (ms m9))) (cwV 1 hts gX4_digest_X4_hashes rfl rfl rfl (by decide +kernel) ⟨Nat.le_of_ble_eq_true rfl, Nat.le_of_ble_eq_true rfl⟩) hE hP hD hS hA (k_pall _) ((k_pall _).symm) 0 rfl rfl rfl rfl hl.1 rfl (Nat.le_of_ble_eq_true rfl) dX4_digest_54 ⟨Nat.le_of_ble_eq_true rfl, Nat.le_of_ble_eq_true rfl⟩ (fun H locs hP hD hS => ?_)
  have hP : va_P g.1 vwCl (wM g a (sMhs (sMth m9 (nI 0)) (mixI (mixI (mixI (mixI (mixI 4701 ((ms m9) 5)) ((ms m9) 6)) (Mchief (ms m9))) (Ment (ms m9) 48)) (MasksIn (ms m9))))) _ := hP
  have hD : va_D A (wM g a (sMhs (sMth m9 (nI 0)) (mixI (mixI (mixI (mixI (mixI 4701 ((ms m9) 5)) ((ms m9) 6)) (Mchief (ms m9))) (Ment (ms m9) 48)) (MasksIn (ms m9))))) := hD
  refine lv_iconst (v := (nI 0)) hx hb dX4_digest_57 (by decide) ?_
  refine lv_istore_n (lv' := [(1, .int (nI 0)), (0, .ref (a 0))]) hx hb dX4_digest_58 rfl hl (by decide) rfl (fun ls hl => ?_)
  refine k_loop (N := 6) (Inv := fun (i : Nat) (H : Heap) (locs : List Loc) (ls : Array Slot) => va_P g.1 vwCl (wM g a (sMhs (sMth m9 (nI 0)) (MdgC (ms m9) (mixI (mixI (mixI (mixI (mixI 4701 (ms m9 5)) (ms m9 6)) (Mchief (ms m9))) (Ment (ms m9) 48)) (MasksIn (ms m9))) i))) H ∧ va_D A (wM g a (sMhs (sMth m9 (nI 0)) (MdgC (ms m9) (mixI (mixI (mixI (mixI (mixI 4701 (ms m9 5)) (ms m9 6)) (Mchief (ms m9))) (Ment (ms m9) 48)) (MasksIn (ms m9))) i))) ∧ va_S A s.heap H locs ∧ lv_has ls 2 [(1, .int (nI i)), (0, .ref (a 0))]) 0 (Nat.zero_le _) ⟨hP, hD, hS, lv_sub hl [0, 1] rfl⟩ (fun i hle2 ih1 H locs ls hinv => ?_)
  obtain ⟨hP, hD, hS, hl⟩ := hinv
  refine lv_iload_n hx hb dX4_digest_59 rfl (lv_at hl 0 rfl) ?_
  refine lv_bipush (v := (nI 6)) hx hb dX4_digest_60 (by decide) ?_
  refine k_geN (tgt := 84) hx hb (by omega) (by decide) dX4_digest_62 (by decide) (fun c3 => ?_) (fun c3 => ?_)
  ·
    obtain rfl : 6 = i := by omega
    refine lv_iconst (v := (nI 0)) hx hb dX4_digest_84 (by decide) ?_
    refine lv_istore_n (lv' := [(1, .int (nI 0)), (0, .ref (a 0))]) hx hb dX4_digest_85 rfl hl (by decide) rfl (fun ls hl => ?_)
    refine k_loop (N := 6) (Inv := fun (i2 : Nat) (H : Heap) (locs : List Loc) (ls : Array Slot) => va_P g.1 vwCl (wM g a (sMhs (sMth m9 (nI 0)) (MdgM (ms m9) (MdgC (ms m9) (mixI (mixI (mixI (mixI (mixI 4701 (ms m9 5)) (ms m9 6)) (Mchief (ms m9))) (Ment (ms m9) 48)) (MasksIn (ms m9))) 6) i2))) H ∧ va_D A (wM g a (sMhs (sMth m9 (nI 0)) (MdgM (ms m9) (MdgC (ms m9) (mixI (mixI (mixI (mixI (mixI 4701 (ms m9 5)) (ms m9 6)) (Mchief (ms m9))) (Ment (ms m9) 48)) (MasksIn (ms m9))) 6) i2))) ∧ va_S A s.heap H locs ∧ lv_has ls 2 [(1, .int (nI i2)), (0, .ref (a 0))]) 0 (Nat.zero_le _) ⟨hP, hD, hS, lv_sub hl [0, 1] rfl⟩ (fun i2 hle5 ih4 H locs ls hinv => ?_)
    obtain ⟨hP, hD, hS, hl⟩ := hinv
    refine lv_iload_n hx hb dX4_digest_86 rfl (lv_at hl 0 rfl) ?_
    refine lv_bipush (v := (nI 6)) hx hb dX4_digest_87 (by decide) ?_
    refine k_geN (tgt := 116) hx hb (by omega) (by decide) dX4_digest_89 (by decide) (fun c6 => ?_) (fun c6 => ?_)
    ·
      obtain rfl : 6 = i2 := by omega
      refine lv_iconst (v := (nI 0)) hx hb dX4_digest_116 (by decide) ?_
      refine lv_istore_n (lv' := [(1, .int (nI 0)), (0, .ref (a 0))]) hx hb dX4_digest_117 rfl hl (by decide) rfl (fun ls hl => ?_)
      refine k_loop (N := 48) (Inv := fun (i3 : Nat) (H : Heap) (locs : List Loc) (ls : Array Slot) => va_P g.1 vwCl (wM g a (sMas (sMhs (sMth m9 (nI 0)) (MdgK (ms m9) (MdgM (ms m9) (MdgC (ms m9) (mixI (mixI (mixI (mixI (mixI 4701 (ms m9 5)) (ms m9 6)) (Mchief (ms m9))) (Ment (ms m9) 48)) (MasksIn (ms m9))) 6) 6) i3)) (if i3 = 0 then (mas m9) else (ms m9)))) H ∧ va_D A (wM g a (sMas (sMhs (sMth m9 (nI 0)) (MdgK (ms m9) (MdgM (ms m9) (MdgC (ms m9) (mixI (mixI (mixI (mixI (mixI 4701 (ms m9 5)) (ms m9 6)) (Mchief (ms m9))) (Ment (ms m9) 48)) (MasksIn (ms m9))) 6) 6) i3)) (if i3 = 0 then (mas m9) else (ms m9)))) ∧ va_S A s.heap H locs ∧ lv_has ls 2 [(1, .int (nI i3)), (0, .ref (a 0))]) 0 (Nat.zero_le _) ⟨hP, hD, hS, lv_sub hl [0, 1] rfl⟩ (fun i3 hle8 ih7 H locs ls hinv => ?_)
      obtain ⟨hP, hD, hS, hl⟩ := hinv
      refine lv_iload_n hx hb dX4_digest_118 rfl (lv_at hl 0 rfl) ?_
      refine lv_bipush (v := (nI 48)) hx hb dX4_digest_119 (by decide) ?_
      refine k_geN (tgt := 188) hx hb (by omega) (by decide) dX4_digest_121 (by decide) (fun c9 => ?_) (fun c9 => ?_)
      ·
        obtain rfl : 48 = i3 := by omega
        refine lv_aload_n hx hb dX4_digest_188 rfl (lv_at hl 1 rfl) ?_
        refine va_get (D := g.1) (ci := 4) (v := .long (MdgK (ms m9) (MdgM (ms m9) (MdgC (ms m9) (mixI (mixI (mixI (mixI (mixI 4701 (ms m9 5)) (ms m9 6)) (Mchief (ms m9))) (Ment (ms m9) 48)) (MasksIn (ms m9))) 6) 6) 48)) (C := RX4) (T := TX4) (N := 12) hx hb hts hiX4 hown hE.1 hP 0 rfl rfl 11 (by decide) f146 (fun _ h9 => h9) rfl dX4_digest_189 ?_
        have e10 : (MdigS m9) = (sMas (sMhs (sMth m9 (nI 0)) (MdgK (ms m9) (MdgM (ms m9) (MdgC (ms m9) (mixI (mixI (mixI (mixI (mixI 4701 (ms m9 5)) (ms m9 6)) (Mchief (ms m9))) (Ment (ms m9) 48)) (MasksIn (ms m9))) 6) 6) 48)) (if 48 = 0 then (mas m9) else (ms m9))) := (by first | (simp only [Mdig, MdigS, if_pos c3, if_neg (not_not_intro c3), if_pos c6, if_neg (not_not_intro c6), if_pos c9, if_neg (not_not_intro c9)]; done) | (simp only [Mdig, MdigS, if_pos c3, if_neg (not_not_intro c3), if_pos c6, if_neg (not_not_intro c6), if_pos c9, if_neg (not_not_intro c9)]; rfl) | rfl | (simp [Mdig, MdigS, if_pos c3, if_neg (not_not_intro c3), if_pos c6, if_neg (not_not_intro c6), if_pos c9, if_neg (not_not_intro c9)]; done))
        have hP : va_P g.1 vwCl (wM g a (MdigS m9)) H := by rw [e10]; exact hP
        have hD : va_D A (wM g a (MdigS m9)) := by rw [e10]; exact hD
        exact k_lret hx hb hr hlocks (by first | (simp only [Mdig, MdigS, bI, if_pos c3, if_neg (not_not_intro c3), if_pos c6, if_neg (not_not_intro c6), if_pos c9, if_neg (not_not_intro c9)]; done) | (simp only [Mdig, MdigS, bI, if_pos c3, if_neg (not_not_intro c3), if_pos c6, if_neg (not_not_intro c6), if_pos c9, if_neg (not_not_intro c9)]; rfl) | rfl | (simp [Mdig, MdigS, bI, if_pos c3, if_neg (not_not_intro c3), if_pos c6, if_neg (not_not_intro c6), if_pos c9, if_neg (not_not_intro c9)]; done)) hP hD hS (Nat.le_of_ble_eq_true rfl) (Nat.le_of_ble_eq_true rfl) dX4_digest_192
      ·
        refine lv_iload_n hx hb dX4_digest_124 rfl (lv_at hl 0 rfl) ?_
        refine lv_bipush (v := (nI 6)) hx hb dX4_digest_125 (by decide) ?_
        refine lv_irem hx hb dX4_digest_127 (by decide) ?_
        refine k_top (pk_rem (by omega) (by decide) (by decide)) ?_
        refine k_ifn0 (tgt := 147) hx hb (by omega) dX4_digest_128 (by decide) (fun c11 => ?_) (fun c11 => ?_)
        ·
          refine lv_aload_n hx hb dX4_digest_147 rfl (lv_at hl 1 rfl) ?_
          refine lv_aload_n hx hb dX4_digest_148 rfl (lv_at hl 1 rfl) ?_
          refine va_get (D := g.1) (ci := 4) (v := .ref (a 1)) (C := RX4) (T := TX4) (N := 12) hx hb hts hiX4 hown hE.1 hP 0 rfl rfl 1 (by decide) f7 (fun _ h9 => h9) rfl dX4_digest_149 ?_
          refine lv_bipush (v := (nI 21)) hx hb dX4_digest_152 (by decide) ?_
          refine lv_iload_n hx hb dX4_digest_154 rfl (lv_at hl 0 rfl) ?_
          refine lv_iadd hx hb dX4_digest_155 ?_
          refine k_top (nI_add _ _) ?_
          refine k_iald (f := (ms m9)) hx hb hE hP 1 rfl (21 + i3) rfl (by omega) (by decide) dX4_digest_156 ?_
          refine k_Vv (As := [.int ((ms m9) (21 + i3))]) hF (c_X4_hashes l g a (sMas (sMhs (sMth m9 (nI 0)) (MdgK (ms m9) (MdgM (ms m9) (MdgC (ms m9) (mixI (mixI (mixI (mixI (mixI 4701 (ms m9 5)) (ms m9 6)) (Mchief (ms m9))) (Ment (ms m9) 48)) (MasksIn (ms m9))) 6) 6) i3)) (if i3 = 0 then (mas m9) else (ms m9))) ((ms m9) (21 + i3))) (cwV 1 hts gX4_digest_X4_hashes rfl rfl rfl (by decide +kernel) ⟨Nat.le_of_ble_eq_true rfl, Nat.le_of_ble_eq_true rfl⟩) hE hP hD hS hA (k_pall _) ((k_pall _).symm) 0 rfl rfl rfl rfl hl.1 rfl (Nat.le_of_ble_eq_true rfl) dX4_digest_157 ⟨Nat.le_of_ble_eq_true rfl, Nat.le_of_ble_eq_true rfl⟩ (fun H locs hP hD hS => ?_)
          have hP : va_P g.1 vwCl (wM g a (sMhs (sMas (sMth m9 (nI 0)) (if i3 = 0 then (mas m9) else (ms m9))) (mixI (MdgK (ms m9) (MdgM (ms m9) (MdgC (ms m9) (mixI (mixI (mixI (mixI (mixI 4701 (ms m9 5)) (ms m9 6)) (Mchief (ms m9))) (Ment (ms m9) 48)) (MasksIn (ms m9))) 6) 6) i3) ((ms m9) (21 + i3))))) _ := hP
          have hD : va_D A (wM g a (sMhs (sMas (sMth m9 (nI 0)) (if i3 = 0 then (mas m9) else (ms m9))) (mixI (MdgK (ms m9) (MdgM (ms m9) (MdgC (ms m9) (mixI (mixI (mixI (mixI (mixI 4701 (ms m9 5)) (ms m9 6)) (Mchief (ms m9))) (Ment (ms m9) 48)) (MasksIn (ms m9))) 6) 6) i3) ((ms m9) (21 + i3))))) := hD
          refine lv_aload_n hx hb dX4_digest_160 rfl (lv_at hl 1 rfl) ?_
          refine lv_aload_n hx hb dX4_digest_161 rfl (lv_at hl 1 rfl) ?_
          refine va_get (D := g.1) (ci := 4) (v := .ref (a 1)) (C := RX4) (T := TX4) (N := 12) hx hb hts hiX4 hown hE.1 hP 0 rfl rfl 1 (by decide) f7 (fun _ h9 => h9) rfl dX4_digest_162 ?_
          refine lv_bipush (v := (nI 69)) hx hb dX4_digest_165 (by decide) ?_
          refine lv_iload_n hx hb dX4_digest_167 rfl (lv_at hl 0 rfl) ?_
          refine lv_iadd hx hb dX4_digest_168 ?_
          refine k_top (nI_add _ _) ?_
          refine k_iald (f := (ms m9)) hx hb hE hP 1 rfl (69 + i3) rfl (by omega) (by decide) dX4_digest_169 ?_
          refine k_Vv (As := [.int ((ms m9) (69 + i3))]) hF (c_X4_hashes l g a (sMhs (sMas (sMth m9 (nI 0)) (if i3 = 0 then (mas m9) else (ms m9))) (mixI (MdgK (ms m9) (MdgM (ms m9) (MdgC (ms m9) (mixI (mixI (mixI (mixI (mixI 4701 (ms m9 5)) (ms m9 6)) (Mchief (ms m9))) (Ment (ms m9) 48)) (MasksIn (ms m9))) 6) 6) i3) ((ms m9) (21 + i3)))) ((ms m9) (69 + i3))) (cwV 1 hts gX4_digest_X4_hashes rfl rfl rfl (by decide +kernel) ⟨Nat.le_of_ble_eq_true rfl, Nat.le_of_ble_eq_true rfl⟩) hE hP hD hS hA (k_pall _) ((k_pall _).symm) 0 rfl rfl rfl rfl hl.1 rfl (Nat.le_of_ble_eq_true rfl) dX4_digest_170 ⟨Nat.le_of_ble_eq_true rfl, Nat.le_of_ble_eq_true rfl⟩ (fun H locs hP hD hS => ?_)
          have hP : va_P g.1 vwCl (wM g a (sMhs (sMas (sMth m9 (nI 0)) (if i3 = 0 then (mas m9) else (ms m9))) (mixI (mixI (MdgK (ms m9) (MdgM (ms m9) (MdgC (ms m9) (mixI (mixI (mixI (mixI (mixI 4701 (ms m9 5)) (ms m9 6)) (Mchief (ms m9))) (Ment (ms m9) 48)) (MasksIn (ms m9))) 6) 6) i3) ((ms m9) (21 + i3))) ((ms m9) (69 + i3))))) _ := hP
          have hD : va_D A (wM g a (sMhs (sMas (sMth m9 (nI 0)) (if i3 = 0 then (mas m9) else (ms m9))) (mixI (mixI (MdgK (ms m9) (MdgM (ms m9) (MdgC (ms m9) (mixI (mixI (mixI (mixI (mixI 4701 (ms m9 5)) (ms m9 6)) (Mchief (ms m9))) (Ment (ms m9) 48)) (MasksIn (ms m9))) 6) 6) i3) ((ms m9) (21 + i3))) ((ms m9) (69 + i3))))) := hD
          refine lv_aload_n hx hb dX4_digest_173 rfl (lv_at hl 1 rfl) ?_
          refine lv_aload_n hx hb dX4_digest_174 rfl (lv_at hl 1 rfl) ?_
          refine lv_iload_n hx hb dX4_digest_175 rfl (lv_at hl 0 rfl) ?_
          refine k_Vi (As := [.int (nI i3)]) (r := (Mfd (ms m9) i3)) hF (c_X4_fadesIn l g a (sMhs (sMas (sMth m9 (nI 0)) (if i3 = 0 then (mas m9) else (ms m9))) (mixI (mixI (MdgK (ms m9) (MdgM (ms m9) (MdgC (ms m9) (mixI (mixI (mixI (mixI (mixI 4701 (ms m9 5)) (ms m9 6)) (Mchief (ms m9))) (Ment (ms m9) 48)) (MasksIn (ms m9))) 6) 6) i3) ((ms m9) (21 + i3))) ((ms m9) (69 + i3)))) i3 (by omega)) (cwV 1 hts gX4_digest_X4_fadesIn rfl rfl rfl (by decide +kernel) ⟨Nat.le_of_ble_eq_true rfl, Nat.le_of_ble_eq_true rfl⟩) hE hP hD hS hA (k_pall _) ((k_pall _).symm) 0 rfl rfl rfl rfl hl.1 rfl (Nat.le_of_ble_eq_true rfl) dX4_digest_176 ⟨Nat.le_of_ble_eq_true rfl, Nat.le_of_ble_eq_true rfl⟩ (fun H locs hP hD hS => ?_)
          have hP : va_P g.1 vwCl (wM g a (sMas (sMhs (sMth m9 (nI 0)) (mixI (mixI (MdgK (ms m9) (MdgM (ms m9) (MdgC (ms m9) (mixI (mixI (mixI (mixI (mixI 4701 (ms m9 5)) (ms m9 6)) (Mchief (ms m9))) (Ment (ms m9) 48)) (MasksIn (ms m9))) 6) 6) i3) ((ms m9) (21 + i3))) ((ms m9) (69 + i3)))) (ms m9))) _ := hP
          have hD : va_D A (wM g a (sMas (sMhs (sMth m9 (nI 0)) (mixI (mixI (MdgK (ms m9) (MdgM (ms m9) (MdgC (ms m9) (mixI (mixI (mixI (mixI (mixI 4701 (ms m9 5)) (ms m9 6)) (Mchief (ms m9))) (Ment (ms m9) 48)) (MasksIn (ms m9))) 6) 6) i3) ((ms m9) (21 + i3))) ((ms m9) (69 + i3)))) (ms m9))) := hD
          refine k_Vv (As := [.int (Mfd (ms m9) i3)]) hF (c_X4_hashes l g a (sMas (sMhs (sMth m9 (nI 0)) (mixI (mixI (MdgK (ms m9) (MdgM (ms m9) (MdgC (ms m9) (mixI (mixI (mixI (mixI (mixI 4701 (ms m9 5)) (ms m9 6)) (Mchief (ms m9))) (Ment (ms m9) 48)) (MasksIn (ms m9))) 6) 6) i3) ((ms m9) (21 + i3))) ((ms m9) (69 + i3)))) (ms m9)) (Mfd (ms m9) i3)) (cwV 1 hts gX4_digest_X4_hashes rfl rfl rfl (by decide +kernel) ⟨Nat.le_of_ble_eq_true rfl, Nat.le_of_ble_eq_true rfl⟩) hE hP hD hS hA (k_pall _) ((k_pall _).symm) 0 rfl rfl rfl rfl hl.1 rfl (Nat.le_of_ble_eq_true rfl) dX4_digest_179 ⟨Nat.le_of_ble_eq_true rfl, Nat.le_of_ble_eq_true rfl⟩ (fun H locs hP hD hS => ?_)
          have hP : va_P g.1 vwCl (wM g a (sMhs (sMas (sMth m9 (nI 0)) (ms m9)) (mixI (mixI (mixI (MdgK (ms m9) (MdgM (ms m9) (MdgC (ms m9) (mixI (mixI (mixI (mixI (mixI 4701 (ms m9 5)) (ms m9 6)) (Mchief (ms m9))) (Ment (ms m9) 48)) (MasksIn (ms m9))) 6) 6) i3) ((ms m9) (21 + i3))) ((ms m9) (69 + i3))) (Mfd (ms m9) i3)))) _ := hP
          have hD : va_D A (wM g a (sMhs (sMas (sMth m9 (nI 0)) (ms m9)) (mixI (mixI (mixI (MdgK (ms m9) (MdgM (ms m9) (MdgC (ms m9) (mixI (mixI (mixI (mixI (mixI 4701 (ms m9 5)) (ms m9 6)) (Mchief (ms m9))) (Ment (ms m9) 48)) (MasksIn (ms m9))) 6) 6) i3) ((ms m9) (21 + i3))) ((ms m9) (69 + i3))) (Mfd (ms m9) i3)))) := hD
          refine lv_iinc (v := (nI (i3 + 1))) (lv' := [(1, .int (nI (i3 + 1))), (0, .ref (a 0))]) hx hb dX4_digest_182 hl (k := 0) rfl (k_inc1 _) (by decide) rfl (fun ls hl => ?_)
          refine lv_goto (tgt := 118) hx hb dX4_digest_185 (by decide) ?_
          have e12 : (sMas (sMhs (sMth m9 (nI 0)) (MdgK (ms m9) (MdgM (ms m9) (MdgC (ms m9) (mixI (mixI (mixI (mixI (mixI 4701 (ms m9 5)) (ms m9 6)) (Mchief (ms m9))) (Ment (ms m9) 48)) (MasksIn (ms m9))) 6) 6) (i3 + 1))) (if (i3 + 1) = 0 then (mas m9) else (ms m9))) = (sMhs (sMas (sMth m9 (nI 0)) (ms m9)) (mixI (mixI (mixI (MdgK (ms m9) (MdgM (ms m9) (MdgC (ms m9) (mixI (mixI (mixI (mixI (mixI 4701 (ms m9 5)) (ms m9 6)) (Mchief (ms m9))) (Ment (ms m9) 48)) (MasksIn (ms m9))) 6) 6) i3) ((ms m9) (21 + i3))) ((ms m9) (69 + i3))) (Mfd (ms m9) i3))) := (by first | (simp only [Mdig, MdigS, MdgK, MdgK1, if_neg (Nat.succ_ne_zero i3), if_pos c3, if_neg (not_not_intro c3), if_pos c6, if_neg (not_not_intro c6), if_neg (Nat.not_le.mpr c9), if_pos (Nat.not_le.mpr c9), if_neg c11, if_pos c11]; done) | (simp only [Mdig, MdigS, MdgK, MdgK1, if_neg (Nat.succ_ne_zero i3), if_pos c3, if_neg (not_not_intro c3), if_pos c6, if_neg (not_not_intro c6), if_neg (Nat.not_le.mpr c9), if_pos (Nat.not_le.mpr c9), if_neg c11, if_pos c11]; rfl) | rfl | (simp [Mdig, MdigS, MdgK, MdgK1, if_neg (Nat.succ_ne_zero i3), if_pos c3, if_neg (not_not_intro c3), if_pos c6, if_neg (not_not_intro c6), if_neg (Nat.not_le.mpr c9), if_pos (Nat.not_le.mpr c9), if_neg c11, if_pos c11]; done))
          exact ih7 _ _ _ (by omega) ⟨(by rw [e12]; exact hP), (by rw [e12]; exact hD), hS, lv_sub hl [0, 1] rfl⟩
        ·
          refine lv_aload_n hx hb dX4_digest_131 rfl (lv_at hl 1 rfl) ?_
          refine lv_aload_n hx hb dX4_digest_132 rfl (lv_at hl 1 rfl) ?_
          refine va_get (D := g.1) (ci := 4) (v := .ref (a 1)) (C := RX4) (T := TX4) (N := 12) hx hb hts hiX4 hown hE.1 hP 0 rfl rfl 1 (by decide) f7 (fun _ h9 => h9) rfl dX4_digest_133 ?_
          refine lv_bipush (v := (nI 13)) hx hb dX4_digest_136 (by decide) ?_
          refine lv_iload_n hx hb dX4_digest_138 rfl (lv_at hl 0 rfl) ?_
          refine lv_bipush (v := (nI 6)) hx hb dX4_digest_139 (by decide) ?_
          refine lv_idiv hx hb dX4_digest_141 (by decide) ?_
          refine k_top (pk_div (by omega) (by decide) (by decide)) ?_
          refine lv_iadd hx hb dX4_digest_142 ?_
          refine k_top (nI_add _ _) ?_
          refine k_iald (f := (ms m9)) hx hb hE hP 1 rfl (13 + (i3 / 6)) rfl (by omega) (by decide) dX4_digest_143 ?_
          refine k_Vv (As := [.int ((ms m9) (13 + (i3 / 6)))]) hF (c_X4_hashes l g a (sMas (sMhs (sMth m9 (nI 0)) (MdgK (ms m9) (MdgM (ms m9) (MdgC (ms m9) (mixI (mixI (mixI (mixI (mixI 4701 (ms m9 5)) (ms m9 6)) (Mchief (ms m9))) (Ment (ms m9) 48)) (MasksIn (ms m9))) 6) 6) i3)) (if i3 = 0 then (mas m9) else (ms m9))) ((ms m9) (13 + (i3 / 6)))) (cwV 1 hts gX4_digest_X4_hashes rfl rfl rfl (by decide +kernel) ⟨Nat.le_of_ble_eq_true rfl, Nat.le_of_ble_eq_true rfl⟩) hE hP hD hS hA (k_pall _) ((k_pall _).symm) 0 rfl rfl rfl rfl hl.1 rfl (Nat.le_of_ble_eq_true rfl) dX4_digest_144 ⟨Nat.le_of_ble_eq_true rfl, Nat.le_of_ble_eq_true rfl⟩ (fun H locs hP hD hS => ?_)
          have hP : va_P g.1 vwCl (wM g a (sMhs (sMas (sMth m9 (nI 0)) (if i3 = 0 then (mas m9) else (ms m9))) (mixI (MdgK (ms m9) (MdgM (ms m9) (MdgC (ms m9) (mixI (mixI (mixI (mixI (mixI 4701 (ms m9 5)) (ms m9 6)) (Mchief (ms m9))) (Ment (ms m9) 48)) (MasksIn (ms m9))) 6) 6) i3) ((ms m9) (13 + (i3 / 6)))))) _ := hP
          have hD : va_D A (wM g a (sMhs (sMas (sMth m9 (nI 0)) (if i3 = 0 then (mas m9) else (ms m9))) (mixI (MdgK (ms m9) (MdgM (ms m9) (MdgC (ms m9) (mixI (mixI (mixI (mixI (mixI 4701 (ms m9 5)) (ms m9 6)) (Mchief (ms m9))) (Ment (ms m9) 48)) (MasksIn (ms m9))) 6) 6) i3) ((ms m9) (13 + (i3 / 6)))))) := hD
          refine lv_aload_n hx hb dX4_digest_147 rfl (lv_at hl 1 rfl) ?_
          refine lv_aload_n hx hb dX4_digest_148 rfl (lv_at hl 1 rfl) ?_
          refine va_get (D := g.1) (ci := 4) (v := .ref (a 1)) (C := RX4) (T := TX4) (N := 12) hx hb hts hiX4 hown hE.1 hP 0 rfl rfl 1 (by decide) f7 (fun _ h9 => h9) rfl dX4_digest_149 ?_
          refine lv_bipush (v := (nI 21)) hx hb dX4_digest_152 (by decide) ?_
          refine lv_iload_n hx hb dX4_digest_154 rfl (lv_at hl 0 rfl) ?_
          refine lv_iadd hx hb dX4_digest_155 ?_
          refine k_top (nI_add _ _) ?_
          refine k_iald (f := (ms m9)) hx hb hE hP 1 rfl (21 + i3) rfl (by omega) (by decide) dX4_digest_156 ?_
          refine k_Vv (As := [.int ((ms m9) (21 + i3))]) hF (c_X4_hashes l g a (sMhs (sMas (sMth m9 (nI 0)) (if i3 = 0 then (mas m9) else (ms m9))) (mixI (MdgK (ms m9) (MdgM (ms m9) (MdgC (ms m9) (mixI (mixI (mixI (mixI (mixI 4701 (ms m9 5)) (ms m9 6)) (Mchief (ms m9))) (Ment (ms m9) 48)) (MasksIn (ms m9))) 6) 6) i3) ((ms m9) (13 + (i3 / 6))))) ((ms m9) (21 + i3))) (cwV 1 hts gX4_digest_X4_hashes rfl rfl rfl (by decide +kernel) ⟨Nat.le_of_ble_eq_true rfl, Nat.le_of_ble_eq_true rfl⟩) hE hP hD hS hA (k_pall _) ((k_pall _).symm) 0 rfl rfl rfl rfl hl.1 rfl (Nat.le_of_ble_eq_true rfl) dX4_digest_157 ⟨Nat.le_of_ble_eq_true rfl, Nat.le_of_ble_eq_true rfl⟩ (fun H locs hP hD hS => ?_)
          have hP : va_P g.1 vwCl (wM g a (sMhs (sMas (sMth m9 (nI 0)) (if i3 = 0 then (mas m9) else (ms m9))) (mixI (mixI (MdgK (ms m9) (MdgM (ms m9) (MdgC (ms m9) (mixI (mixI (mixI (mixI (mixI 4701 (ms m9 5)) (ms m9 6)) (Mchief (ms m9))) (Ment (ms m9) 48)) (MasksIn (ms m9))) 6) 6) i3) ((ms m9) (13 + (i3 / 6)))) ((ms m9) (21 + i3))))) _ := hP
          have hD : va_D A (wM g a (sMhs (sMas (sMth m9 (nI 0)) (if i3 = 0 then (mas m9) else (ms m9))) (mixI (mixI (MdgK (ms m9) (MdgM (ms m9) (MdgC (ms m9) (mixI (mixI (mixI (mixI (mixI 4701 (ms m9 5)) (ms m9 6)) (Mchief (ms m9))) (Ment (ms m9) 48)) (MasksIn (ms m9))) 6) 6) i3) ((ms m9) (13 + (i3 / 6)))) ((ms m9) (21 + i3))))) := hD
          refine lv_aload_n hx hb dX4_digest_160 rfl (lv_at hl 1 rfl) ?_
          refine lv_aload_n hx hb dX4_digest_161 rfl (lv_at hl 1 rfl) ?_
          refine va_get (D := g.1) (ci := 4) (v := .ref (a 1)) (C := RX4) (T := TX4) (N := 12) hx hb hts hiX4 hown hE.1 hP 0 rfl rfl 1 (by decide) f7 (fun _ h9 => h9) rfl dX4_digest_162 ?_
          refine lv_bipush (v := (nI 69)) hx hb dX4_digest_165 (by decide) ?_
          refine lv_iload_n hx hb dX4_digest_167 rfl (lv_at hl 0 rfl) ?_
          refine lv_iadd hx hb dX4_digest_168 ?_
          refine k_top (nI_add _ _) ?_
          refine k_iald (f := (ms m9)) hx hb hE hP 1 rfl (69 + i3) rfl (by omega) (by decide) dX4_digest_169 ?_
          refine k_Vv (As := [.int ((ms m9) (69 + i3))]) hF (c_X4_hashes l g a (sMhs (sMas (sMth m9 (nI 0)) (if i3 = 0 then (mas m9) else (ms m9))) (mixI (mixI (MdgK (ms m9) (MdgM (ms m9) (MdgC (ms m9) (mixI (mixI (mixI (mixI (mixI 4701 (ms m9 5)) (ms m9 6)) (Mchief (ms m9))) (Ment (ms m9) 48)) (MasksIn (ms m9))) 6) 6) i3) ((ms m9) (13 + (i3 / 6)))) ((ms m9) (21 + i3)))) ((ms m9) (69 + i3))) (cwV 1 hts gX4_digest_X4_hashes rfl rfl rfl (by decide +kernel) ⟨Nat.le_of_ble_eq_true rfl, Nat.le_of_ble_eq_true rfl⟩) hE hP hD hS hA (k_pall _) ((k_pall _).symm) 0 rfl rfl rfl rfl hl.1 rfl (Nat.le_of_ble_eq_true rfl) dX4_digest_170 ⟨Nat.le_of_ble_eq_true rfl, Nat.le_of_ble_eq_true rfl⟩ (fun H locs hP hD hS => ?_)
          have hP : va_P g.1 vwCl (wM g a (sMhs (sMas (sMth m9 (nI 0)) (if i3 = 0 then (mas m9) else (ms m9))) (mixI (mixI (mixI (MdgK (ms m9) (MdgM (ms m9) (MdgC (ms m9) (mixI (mixI (mixI (mixI (mixI 4701 (ms m9 5)) (ms m9 6)) (Mchief (ms m9))) (Ment (ms m9) 48)) (MasksIn (ms m9))) 6) 6) i3) ((ms m9) (13 + (i3 / 6)))) ((ms m9) (21 + i3))) ((ms m9) (69 + i3))))) _ := hP
          have hD : va_D A (wM g a (sMhs (sMas (sMth m9 (nI 0)) (if i3 = 0 then (mas m9) else (ms m9))) (mixI (mixI (mixI (MdgK (ms m9) (MdgM (ms m9) (MdgC (ms m9) (mixI (mixI (mixI (mixI (mixI 4701 (ms m9 5)) (ms m9 6)) (Mchief (ms m9))) (Ment (ms m9) 48)) (MasksIn (ms m9))) 6) 6) i3) ((ms m9) (13 + (i3 / 6)))) ((ms m9) (21 + i3))) ((ms m9) (69 + i3))))) := hD
          refine lv_aload_n hx hb dX4_digest_173 rfl (lv_at hl 1 rfl) ?_
          refine lv_aload_n hx hb dX4_digest_174 rfl (lv_at hl 1 rfl) ?_
          refine lv_iload_n hx hb dX4_digest_175 rfl (lv_at hl 0 rfl) ?_
          refine k_Vi (As := [.int (nI i3)]) (r := (Mfd (ms m9) i3)) hF (c_X4_fadesIn l g a (sMhs (sMas (sMth m9 (nI 0)) (if i3 = 0 then (mas m9) else (ms m9))) (mixI (mixI (mixI (MdgK (ms m9) (MdgM (ms m9) (MdgC (ms m9) (mixI (mixI (mixI (mixI (mixI 4701 (ms m9 5)) (ms m9 6)) (Mchief (ms m9))) (Ment (ms m9) 48)) (MasksIn (ms m9))) 6) 6) i3) ((ms m9) (13 + (i3 / 6)))) ((ms m9) (21 + i3))) ((ms m9) (69 + i3)))) i3 (by omega)) (cwV 1 hts gX4_digest_X4_fadesIn rfl rfl rfl (by decide +kernel) ⟨Nat.le_of_ble_eq_true rfl, Nat.le_of_ble_eq_true rfl⟩) hE hP hD hS hA (k_pall _) ((k_pall _).symm) 0 rfl rfl rfl rfl hl.1 rfl (Nat.le_of_ble_eq_true rfl) dX4_digest_176 ⟨Nat.le_of_ble_eq_true rfl, Nat.le_of_ble_eq_true rfl⟩ (fun H locs hP hD hS => ?_)
          have hP : va_P g.1 vwCl (wM g a (sMas (sMhs (sMth m9 (nI 0)) (mixI (mixI (mixI (MdgK (ms m9) (MdgM (ms m9) (MdgC (ms m9) (mixI (mixI (mixI (mixI (mixI 4701 (ms m9 5)) (ms m9 6)) (Mchief (ms m9))) (Ment (ms m9) 48)) (MasksIn (ms m9))) 6) 6) i3) ((ms m9) (13 + (i3 / 6)))) ((ms m9) (21 + i3))) ((ms m9) (69 + i3)))) (ms m9))) _ := hP
          have hD : va_D A (wM g a (sMas (sMhs (sMth m9 (nI 0)) (mixI (mixI (mixI (MdgK (ms m9) (MdgM (ms m9) (MdgC (ms m9) (mixI (mixI (mixI (mixI (mixI 4701 (ms m9 5)) (ms m9 6)) (Mchief (ms m9))) (Ment (ms m9) 48)) (MasksIn (ms m9))) 6) 6) i3) ((ms m9) (13 + (i3 / 6)))) ((ms m9) (21 + i3))) ((ms m9) (69 + i3)))) (ms m9))) := hD
          refine k_Vv (As := [.int (Mfd (ms m9) i3)]) hF (c_X4_hashes l g a (sMas (sMhs (sMth m9 (nI 0)) (mixI (mixI (mixI (MdgK (ms m9) (MdgM (ms m9) (MdgC (ms m9) (mixI (mixI (mixI (mixI (mixI 4701 (ms m9 5)) (ms m9 6)) (Mchief (ms m9))) (Ment (ms m9) 48)) (MasksIn (ms m9))) 6) 6) i3) ((ms m9) (13 + (i3 / 6)))) ((ms m9) (21 + i3))) ((ms m9) (69 + i3)))) (ms m9)) (Mfd (ms m9) i3)) (cwV 1 hts gX4_digest_X4_hashes rfl rfl rfl (by decide +kernel) ⟨Nat.le_of_ble_eq_true rfl, Nat.le_of_ble_eq_true rfl⟩) hE hP hD hS hA (k_pall _) ((k_pall _).symm) 0 rfl rfl rfl rfl hl.1 rfl (Nat.le_of_ble_eq_true rfl) dX4_digest_179 ⟨Nat.le_of_ble_eq_true rfl, Nat.le_of_ble_eq_true rfl⟩ (fun H locs hP hD hS => ?_)
          have hP : va_P g.1 vwCl (wM g a (sMhs (sMas (sMth m9 (nI 0)) (ms m9)) (mixI (mixI (mixI (mixI (MdgK (ms m9) (MdgM (ms m9) (MdgC (ms m9) (mixI (mixI (mixI (mixI (mixI 4701 (ms m9 5)) (ms m9 6)) (Mchief (ms m9))) (Ment (ms m9) 48)) (MasksIn (ms m9))) 6) 6) i3) ((ms m9) (13 + (i3 / 6)))) ((ms m9) (21 + i3))) ((ms m9) (69 + i3))) (Mfd (ms m9) i3)))) _ := hP
          have hD : va_D A (wM g a (sMhs (sMas (sMth m9 (nI 0)) (ms m9)) (mixI (mixI (mixI (mixI (MdgK (ms m9) (MdgM (ms m9) (MdgC (ms m9) (mixI (mixI (mixI (mixI (mixI 4701 (ms m9 5)) (ms m9 6)) (Mchief (ms m9))) (Ment (ms m9) 48)) (MasksIn (ms m9))) 6) 6) i3) ((ms m9) (13 + (i3 / 6)))) ((ms m9) (21 + i3))) ((ms m9) (69 + i3))) (Mfd (ms m9) i3)))) := hD
          refine lv_iinc (v := (nI (i3 + 1))) (lv' := [(1, .int (nI (i3 + 1))), (0, .ref (a 0))]) hx hb dX4_digest_182 hl (k := 0) rfl (k_inc1 _) (by decide) rfl (fun ls hl => ?_)
          refine lv_goto (tgt := 118) hx hb dX4_digest_185 (by decide) ?_
          have e13 : (sMas (sMhs (sMth m9 (nI 0)) (MdgK (ms m9) (MdgM (ms m9) (MdgC (ms m9) (mixI (mixI (mixI (mixI (mixI 4701 (ms m9 5)) (ms m9 6)) (Mchief (ms m9))) (Ment (ms m9) 48)) (MasksIn (ms m9))) 6) 6) (i3 + 1))) (if (i3 + 1) = 0 then (mas m9) else (ms m9))) = (sMhs (sMas (sMth m9 (nI 0)) (ms m9)) (mixI (mixI (mixI (mixI (MdgK (ms m9) (MdgM (ms m9) (MdgC (ms m9) (mixI (mixI (mixI (mixI (mixI 4701 (ms m9 5)) (ms m9 6)) (Mchief (ms m9))) (Ment (ms m9) 48)) (MasksIn (ms m9))) 6) 6) i3) ((ms m9) (13 + (i3 / 6)))) ((ms m9) (21 + i3))) ((ms m9) (69 + i3))) (Mfd (ms m9) i3))) := (by first | (simp only [Mdig, MdigS, MdgK, MdgK1, if_neg (Nat.succ_ne_zero i3), if_pos c3, if_neg (not_not_intro c3), if_pos c6, if_neg (not_not_intro c6), if_neg (Nat.not_le.mpr c9), if_pos (Nat.not_le.mpr c9), if_pos c11, if_neg (not_not_intro c11)]; done) | (simp only [Mdig, MdigS, MdgK, MdgK1, if_neg (Nat.succ_ne_zero i3), if_pos c3, if_neg (not_not_intro c3), if_pos c6, if_neg (not_not_intro c6), if_neg (Nat.not_le.mpr c9), if_pos (Nat.not_le.mpr c9), if_pos c11, if_neg (not_not_intro c11)]; rfl) | rfl | (simp [Mdig, MdigS, MdgK, MdgK1, if_neg (Nat.succ_ne_zero i3), if_pos c3, if_neg (not_not_intro c3), if_pos c6, if_neg (not_not_intro c6), if_neg (Nat.not_le.mpr c9), if_pos (Nat.not_le.mpr c9), if_pos c11, if_neg (not_not_intro c11)]; done))
          exact ih7 _ _ _ (by omega) ⟨(by rw [e13]; exact hP), (by rw [e13]; exact hD), hS, lv_sub hl [0, 1] rfl⟩
    ·
      refine lv_aload_n hx hb dX4_digest_92 rfl (lv_at hl 1 rfl) ?_
      refine lv_aload_n hx hb dX4_digest_93 rfl (lv_at hl 1 rfl) ?_
      refine lv_iload_n hx hb dX4_digest_94 rfl (lv_at hl 0 rfl) ?_
      refine k_Vi (As := [.int (nI i2)]) (r := (Mrow (ms m9) i2 8)) hF (c_X4_rowsOf l g a (sMhs (sMth m9 (nI 0)) (MdgM (ms m9) (MdgC (ms m9) (mixI (mixI (mixI (mixI (mixI 4701 (ms m9 5)) (ms m9 6)) (Mchief (ms m9))) (Ment (ms m9) 48)) (MasksIn (ms m9))) 6) i2)) i2 (by omega)) (cwV 1 hts gX4_digest_X4_rowsOf rfl rfl rfl (by decide +kernel) ⟨Nat.le_of_ble_eq_true rfl, Nat.le_of_ble_eq_true rfl⟩) hE hP hD hS hA (k_pall _) ((k_pall _).symm) 0 rfl rfl rfl rfl hl.1 rfl (Nat.le_of_ble_eq_true rfl) dX4_digest_95 ⟨Nat.le_of_ble_eq_true rfl, Nat.le_of_ble_eq_true rfl⟩ (fun H locs hP hD hS => ?_)
      have hP : va_P g.1 vwCl (wM g a (sMhs (sMth m9 (nI 0)) (MdgM (ms m9) (MdgC (ms m9) (mixI (mixI (mixI (mixI (mixI 4701 (ms m9 5)) (ms m9 6)) (Mchief (ms m9))) (Ment (ms m9) 48)) (MasksIn (ms m9))) 6) i2))) _ := hP
      have hD : va_D A (wM g a (sMhs (sMth m9 (nI 0)) (MdgM (ms m9) (MdgC (ms m9) (mixI (mixI (mixI (mixI (mixI 4701 (ms m9 5)) (ms m9 6)) (Mchief (ms m9))) (Ment (ms m9) 48)) (MasksIn (ms m9))) 6) i2))) := hD
      refine k_Vv (As := [.int (Mrow (ms m9) i2 8)]) hF (c_X4_hashes l g a (sMhs (sMth m9 (nI 0)) (MdgM (ms m9) (MdgC (ms m9) (mixI (mixI (mixI (mixI (mixI 4701 (ms m9 5)) (ms m9 6)) (Mchief (ms m9))) (Ment (ms m9) 48)) (MasksIn (ms m9))) 6) i2)) (Mrow (ms m9) i2 8)) (cwV 1 hts gX4_digest_X4_hashes rfl rfl rfl (by decide +kernel) ⟨Nat.le_of_ble_eq_true rfl, Nat.le_of_ble_eq_true rfl⟩) hE hP hD hS hA (k_pall _) ((k_pall _).symm) 0 rfl rfl rfl rfl hl.1 rfl (Nat.le_of_ble_eq_true rfl) dX4_digest_98 ⟨Nat.le_of_ble_eq_true rfl, Nat.le_of_ble_eq_true rfl⟩ (fun H locs hP hD hS => ?_)
      have hP : va_P g.1 vwCl (wM g a (sMhs (sMth m9 (nI 0)) (mixI (MdgM (ms m9) (MdgC (ms m9) (mixI (mixI (mixI (mixI (mixI 4701 (ms m9 5)) (ms m9 6)) (Mchief (ms m9))) (Ment (ms m9) 48)) (MasksIn (ms m9))) 6) i2) (Mrow (ms m9) i2 8)))) _ := hP
      have hD : va_D A (wM g a (sMhs (sMth m9 (nI 0)) (mixI (MdgM (ms m9) (MdgC (ms m9) (mixI (mixI (mixI (mixI (mixI 4701 (ms m9 5)) (ms m9 6)) (Mchief (ms m9))) (Ment (ms m9) 48)) (MasksIn (ms m9))) 6) i2) (Mrow (ms m9) i2 8)))) := hD
      refine lv_aload_n hx hb dX4_digest_101 rfl (lv_at hl 1 rfl) ?_
      refine lv_aload_n hx hb dX4_digest_102 rfl (lv_at hl 1 rfl) ?_
      refine lv_iload_n hx hb dX4_digest_103 rfl (lv_at hl 0 rfl) ?_
      refine k_Vi (As := [.int (nI i2)]) (r := (Mwan (ms m9) i2 8)) hF (c_X4_wantedOf l g a (sMhs (sMth m9 (nI 0)) (mixI (MdgM (ms m9) (MdgC (ms m9) (mixI (mixI (mixI (mixI (mixI 4701 (ms m9 5)) (ms m9 6)) (Mchief (ms m9))) (Ment (ms m9) 48)) (MasksIn (ms m9))) 6) i2) (Mrow (ms m9) i2 8))) i2 (by omega)) (cwV 1 hts gX4_digest_X4_wantedOf rfl rfl rfl (by decide +kernel) ⟨Nat.le_of_ble_eq_true rfl, Nat.le_of_ble_eq_true rfl⟩) hE hP hD hS hA (k_pall _) ((k_pall _).symm) 0 rfl rfl rfl rfl hl.1 rfl (Nat.le_of_ble_eq_true rfl) dX4_digest_104 ⟨Nat.le_of_ble_eq_true rfl, Nat.le_of_ble_eq_true rfl⟩ (fun H locs hP hD hS => ?_)
      have hP : va_P g.1 vwCl (wM g a (sMhs (sMth m9 (nI 0)) (mixI (MdgM (ms m9) (MdgC (ms m9) (mixI (mixI (mixI (mixI (mixI 4701 (ms m9 5)) (ms m9 6)) (Mchief (ms m9))) (Ment (ms m9) 48)) (MasksIn (ms m9))) 6) i2) (Mrow (ms m9) i2 8)))) _ := hP
      have hD : va_D A (wM g a (sMhs (sMth m9 (nI 0)) (mixI (MdgM (ms m9) (MdgC (ms m9) (mixI (mixI (mixI (mixI (mixI 4701 (ms m9 5)) (ms m9 6)) (Mchief (ms m9))) (Ment (ms m9) 48)) (MasksIn (ms m9))) 6) i2) (Mrow (ms m9) i2 8)))) := hD
      refine k_Vv (As := [.int (Mwan (ms m9) i2 8)]) hF (c_X4_hashes l g a (sMhs (sMth m9 (nI 0)) (mixI (MdgM (ms m9) (MdgC (ms m9) (mixI (mixI (mixI (mixI (mixI 4701 (ms m9 5)) (ms m9 6)) (Mchief (ms m9))) (Ment (ms m9) 48)) (MasksIn (ms m9))) 6) i2) (Mrow (ms m9) i2 8))) (Mwan (ms m9) i2 8)) (cwV 1 hts gX4_digest_X4_hashes rfl rfl rfl (by decide +kernel) ⟨Nat.le_of_ble_eq_true rfl, Nat.le_of_ble_eq_true rfl⟩) hE hP hD hS hA (k_pall _) ((k_pall _).symm) 0 rfl rfl rfl rfl hl.1 rfl (Nat.le_of_ble_eq_true rfl) dX4_digest_107 ⟨Nat.le_of_ble_eq_true rfl, Nat.le_of_ble_eq_true rfl⟩ (fun H locs hP hD hS => ?_)
      have hP : va_P g.1 vwCl (wM g a (sMhs (sMth m9 (nI 0)) (mixI (mixI (MdgM (ms m9) (MdgC (ms m9) (mixI (mixI (mixI (mixI (mixI 4701 (ms m9 5)) (ms m9 6)) (Mchief (ms m9))) (Ment (ms m9) 48)) (MasksIn (ms m9))) 6) i2) (Mrow (ms m9) i2 8)) (Mwan (ms m9) i2 8)))) _ := hP
      have hD : va_D A (wM g a (sMhs (sMth m9 (nI 0)) (mixI (mixI (MdgM (ms m9) (MdgC (ms m9) (mixI (mixI (mixI (mixI (mixI 4701 (ms m9 5)) (ms m9 6)) (Mchief (ms m9))) (Ment (ms m9) 48)) (MasksIn (ms m9))) 6) i2) (Mrow (ms m9) i2 8)) (Mwan (ms m9) i2 8)))) := hD
      refine lv_iinc (v := (nI (i2 + 1))) (lv' := [(1, .int (nI (i2 + 1))), (0, .ref (a 0))]) hx hb dX4_digest_110 hl (k := 0) rfl (k_inc1 _) (by decide) rfl (fun ls hl => ?_)
      refine lv_goto (tgt := 86) hx hb dX4_digest_113 (by decide) ?_
      have e14 : (sMhs (sMth m9 (nI 0)) (MdgM (ms m9) (MdgC (ms m9) (mixI (mixI (mixI (mixI (mixI 4701 (ms m9 5)) (ms m9 6)) (Mchief (ms m9))) (Ment (ms m9) 48)) (MasksIn (ms m9))) 6) (i2 + 1))) = (sMhs (sMth m9 (nI 0)) (mixI (mixI (MdgM (ms m9) (MdgC (ms m9) (mixI (mixI (mixI (mixI (mixI 4701 (ms m9 5)) (ms m9 6)) (Mchief (ms m9))) (Ment (ms m9) 48)) (MasksIn (ms m9))) 6) i2) (Mrow (ms m9) i2 8)) (Mwan (ms m9) i2 8))) := (by first | (simp only [Mdig, MdigS, MdgM, if_pos c3, if_neg (not_not_intro c3), if_neg (Nat.not_le.mpr c6), if_pos (Nat.not_le.mpr c6)]; done) | (simp only [Mdig, MdigS, MdgM, if_pos c3, if_neg (not_not_intro c3), if_neg (Nat.not_le.mpr c6), if_pos (Nat.not_le.mpr c6)]; rfl) | rfl | (simp [Mdig, MdigS, MdgM, if_pos c3, if_neg (not_not_intro c3), if_neg (Nat.not_le.mpr c6), if_pos (Nat.not_le.mpr c6)]; done))
      exact ih4 _ _ _ (by omega) ⟨(by rw [e14]; exact hP), (by rw [e14]; exact hD), hS, lv_sub hl [0, 1] rfl⟩
  ·
    refine lv_aload_n hx hb dX4_digest_65 rfl (lv_at hl 1 rfl) ?_
    refine lv_aload_n hx hb dX4_digest_66 rfl (lv_at hl 1 rfl) ?_
    refine va_get (D := g.1) (ci := 4) (v := .ref (a 1)) (C := RX4) (T := TX4) (N := 12) hx hb hts hiX4 hown hE.1 hP 0 rfl rfl 1 (by decide) f7 (fun _ h9 => h9) rfl dX4_digest_67 ?_
    refine lv_bipush (v := (nI 7)) hx hb dX4_digest_70 (by decide) ?_
    refine lv_iload_n hx hb dX4_digest_72 rfl (lv_at hl 0 rfl) ?_
    refine lv_iadd hx hb dX4_digest_73 ?_
    refine k_top (nI_add _ _) ?_
    refine k_iald (f := (ms m9)) hx hb hE hP 1 rfl (7 + i) rfl (by omega) (by decide) dX4_digest_74 ?_
    refine k_Vv (As := [.int ((ms m9) (7 + i))]) hF (c_X4_hashes l g a (sMhs (sMth m9 (nI 0)) (MdgC (ms m9) (mixI (mixI (mixI (mixI (mixI 4701 (ms m9 5)) (ms m9 6)) (Mchief (ms m9))) (Ment (ms m9) 48)) (MasksIn (ms m9))) i)) ((ms m9) (7 + i))) (cwV 1 hts gX4_digest_X4_hashes rfl rfl rfl (by decide +kernel) ⟨Nat.le_of_ble_eq_true rfl, Nat.le_of_ble_eq_true rfl⟩) hE hP hD hS hA (k_pall _) ((k_pall _).symm) 0 rfl rfl rfl rfl hl.1 rfl (Nat.le_of_ble_eq_true rfl) dX4_digest_75 ⟨Nat.le_of_ble_eq_true rfl, Nat.le_of_ble_eq_true rfl⟩ (fun H locs hP hD hS => ?_)
    have hP : va_P g.1 vwCl (wM g a (sMhs (sMth m9 (nI 0)) (mixI (MdgC (ms m9) (mixI (mixI (mixI (mixI (mixI 4701 (ms m9 5)) (ms m9 6)) (Mchief (ms m9))) (Ment (ms m9) 48)) (MasksIn (ms m9))) i) ((ms m9) (7 + i))))) _ := hP
    have hD : va_D A (wM g a (sMhs (sMth m9 (nI 0)) (mixI (MdgC (ms m9) (mixI (mixI (mixI (mixI (mixI 4701 (ms m9 5)) (ms m9 6)) (Mchief (ms m9))) (Ment (ms m9) 48)) (MasksIn (ms m9))) i) ((ms m9) (7 + i))))) := hD
    refine lv_iinc (v := (nI (i + 1))) (lv' := [(1, .int (nI (i + 1))), (0, .ref (a 0))]) hx hb dX4_digest_78 hl (k := 0) rfl (k_inc1 _) (by decide) rfl (fun ls hl => ?_)
    refine lv_goto (tgt := 59) hx hb dX4_digest_81 (by decide) ?_
    have e15 : (sMhs (sMth m9 (nI 0)) (MdgC (ms m9) (mixI (mixI (mixI (mixI (mixI 4701 (ms m9 5)) (ms m9 6)) (Mchief (ms m9))) (Ment (ms m9) 48)) (MasksIn (ms m9))) (i + 1))) = (sMhs (sMth m9 (nI 0)) (mixI (MdgC (ms m9) (mixI (mixI (mixI (mixI (mixI 4701 (ms m9 5)) (ms m9 6)) (Mchief (ms m9))) (Ment (ms m9) 48)) (MasksIn (ms m9))) i) ((ms m9) (7 + i)))) := (by first | (simp only [Mdig, MdigS, MdgC, if_neg (Nat.not_le.mpr c3), if_pos (Nat.not_le.mpr c3)]; done) | (simp only [Mdig, MdigS, MdgC, if_neg (Nat.not_le.mpr c3), if_pos (Nat.not_le.mpr c3)]; rfl) | rfl | (simp [Mdig, MdigS, MdgC, if_neg (Nat.not_le.mpr c3), if_pos (Nat.not_le.mpr c3)]; done))
    exact ih1 _ _ _ (by omega) ⟨(by rw [e15]; exact hP), (by rw [e15]; exact hD), hS, lv_sub hl [0, 1] rfl⟩
