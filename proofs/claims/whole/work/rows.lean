section
/-! states, answers and helpers that stand on the kit alone -/
abbrev HSt : Type := (Nat → Int32) × (Nat → Int32) × (Nat → Int32) × Int32 × Int32 × Int32 × Int32 × Int32 × Int32 × Int32 × Int32 × Int32
abbrev hL (x : HSt) : Nat → Int32 := x.1
abbrev hR (x : HSt) : Nat → Int32 := x.2.1
abbrev hC (x : HSt) : Nat → Int32 := x.2.2.1
abbrev hop (x : HSt) : Int32 := x.2.2.2.1
abbrev hqk (x : HSt) : Int32 := x.2.2.2.2.1
abbrev hf1 (x : HSt) : Int32 := x.2.2.2.2.2.1
abbrev hf2 (x : HSt) : Int32 := x.2.2.2.2.2.2.1
abbrev hfd (x : HSt) : Int32 := x.2.2.2.2.2.2.2.1
abbrev hpt (x : HSt) : Int32 := x.2.2.2.2.2.2.2.2.1
abbrev has (x : HSt) : Int32 := x.2.2.2.2.2.2.2.2.2.1
abbrev hmn (x : HSt) : Int32 := x.2.2.2.2.2.2.2.2.2.2.1
abbrev hsn (x : HSt) : Int32 := x.2.2.2.2.2.2.2.2.2.2.2
abbrev sHL (x : HSt) (v : Nat → Int32) : HSt := (v, x.2)
abbrev sHR (x : HSt) (v : Nat → Int32) : HSt := (x.1, v, x.2.2)
abbrev sHC (x : HSt) (v : Nat → Int32) : HSt := (x.1, x.2.1, v, x.2.2.2)
abbrev sHop (x : HSt) (v : Int32) : HSt := (x.1, x.2.1, x.2.2.1, v, x.2.2.2.2)
abbrev sHqk (x : HSt) (v : Int32) : HSt := (x.1, x.2.1, x.2.2.1, x.2.2.2.1, v, x.2.2.2.2.2)
abbrev sHf1 (x : HSt) (v : Int32) : HSt := (x.1, x.2.1, x.2.2.1, x.2.2.2.1, x.2.2.2.2.1, v, x.2.2.2.2.2.2)
abbrev sHf2 (x : HSt) (v : Int32) : HSt := (x.1, x.2.1, x.2.2.1, x.2.2.2.1, x.2.2.2.2.1, x.2.2.2.2.2.1, v, x.2.2.2.2.2.2.2)
abbrev sHfd (x : HSt) (v : Int32) : HSt := (x.1, x.2.1, x.2.2.1, x.2.2.2.1, x.2.2.2.2.1, x.2.2.2.2.2.1, x.2.2.2.2.2.2.1, v, x.2.2.2.2.2.2.2.2)
abbrev sHpt (x : HSt) (v : Int32) : HSt := (x.1, x.2.1, x.2.2.1, x.2.2.2.1, x.2.2.2.2.1, x.2.2.2.2.2.1, x.2.2.2.2.2.2.1, x.2.2.2.2.2.2.2.1, v, x.2.2.2.2.2.2.2.2.2)
abbrev sHas (x : HSt) (v : Int32) : HSt := (x.1, x.2.1, x.2.2.1, x.2.2.2.1, x.2.2.2.2.1, x.2.2.2.2.2.1, x.2.2.2.2.2.2.1, x.2.2.2.2.2.2.2.1, x.2.2.2.2.2.2.2.2.1, v, x.2.2.2.2.2.2.2.2.2.2)
abbrev sHmn (x : HSt) (v : Int32) : HSt := (x.1, x.2.1, x.2.2.1, x.2.2.2.1, x.2.2.2.2.1, x.2.2.2.2.2.1, x.2.2.2.2.2.2.1, x.2.2.2.2.2.2.2.1, x.2.2.2.2.2.2.2.2.1, x.2.2.2.2.2.2.2.2.2.1, v, x.2.2.2.2.2.2.2.2.2.2.2)
abbrev sHsn (x : HSt) (v : Int32) : HSt := (x.1, x.2.1, x.2.2.1, x.2.2.2.1, x.2.2.2.2.1, x.2.2.2.2.2.1, x.2.2.2.2.2.2.1, x.2.2.2.2.2.2.2.1, x.2.2.2.2.2.2.2.2.1, x.2.2.2.2.2.2.2.2.2.1, x.2.2.2.2.2.2.2.2.2.2.1, v)
abbrev MSt : Type := Int32 × (Nat → Int32) × (Nat → Int32) × (Nat → Int32) × Int32 × (Nat → Int32) × Int32 × Int32 × Int32 × (Nat → Int32) × Int32 × Int64
abbrev mth (x : MSt) : Int32 := x.1
abbrev ms (x : MSt) : Nat → Int32 := x.2.1
abbrev mas (x : MSt) : Nat → Int32 := x.2.2.1
abbrev msv (x : MSt) : Nat → Int32 := x.2.2.2.1
abbrev msm (x : MSt) : Int32 := x.2.2.2.2.1
abbrev mbf (x : MSt) : Nat → Int32 := x.2.2.2.2.2.1
abbrev mln (x : MSt) : Int32 := x.2.2.2.2.2.2.1
abbrev mat (x : MSt) : Int32 := x.2.2.2.2.2.2.2.1
abbrev miw (x : MSt) : Int32 := x.2.2.2.2.2.2.2.2.1
abbrev mrd (x : MSt) : Nat → Int32 := x.2.2.2.2.2.2.2.2.2.1
abbrev mrm (x : MSt) : Int32 := x.2.2.2.2.2.2.2.2.2.2.1
abbrev mhs (x : MSt) : Int64 := x.2.2.2.2.2.2.2.2.2.2.2
abbrev sMth (x : MSt) (v : Int32) : MSt := (v, x.2)
abbrev sMs (x : MSt) (v : Nat → Int32) : MSt := (x.1, v, x.2.2)
abbrev sMas (x : MSt) (v : Nat → Int32) : MSt := (x.1, x.2.1, v, x.2.2.2)
abbrev sMsv (x : MSt) (v : Nat → Int32) : MSt := (x.1, x.2.1, x.2.2.1, v, x.2.2.2.2)
abbrev sMsm (x : MSt) (v : Int32) : MSt := (x.1, x.2.1, x.2.2.1, x.2.2.2.1, v, x.2.2.2.2.2)
abbrev sMbf (x : MSt) (v : Nat → Int32) : MSt := (x.1, x.2.1, x.2.2.1, x.2.2.2.1, x.2.2.2.2.1, v, x.2.2.2.2.2.2)
abbrev sMln (x : MSt) (v : Int32) : MSt := (x.1, x.2.1, x.2.2.1, x.2.2.2.1, x.2.2.2.2.1, x.2.2.2.2.2.1, v, x.2.2.2.2.2.2.2)
abbrev sMat (x : MSt) (v : Int32) : MSt := (x.1, x.2.1, x.2.2.1, x.2.2.2.1, x.2.2.2.2.1, x.2.2.2.2.2.1, x.2.2.2.2.2.2.1, v, x.2.2.2.2.2.2.2.2)
abbrev sMiw (x : MSt) (v : Int32) : MSt := (x.1, x.2.1, x.2.2.1, x.2.2.2.1, x.2.2.2.2.1, x.2.2.2.2.2.1, x.2.2.2.2.2.2.1, x.2.2.2.2.2.2.2.1, v, x.2.2.2.2.2.2.2.2.2)
abbrev sMrd (x : MSt) (v : Nat → Int32) : MSt := (x.1, x.2.1, x.2.2.1, x.2.2.2.1, x.2.2.2.2.1, x.2.2.2.2.2.1, x.2.2.2.2.2.2.1, x.2.2.2.2.2.2.2.1, x.2.2.2.2.2.2.2.2.1, v, x.2.2.2.2.2.2.2.2.2.2)
abbrev sMrm (x : MSt) (v : Int32) : MSt := (x.1, x.2.1, x.2.2.1, x.2.2.2.1, x.2.2.2.2.1, x.2.2.2.2.2.1, x.2.2.2.2.2.2.1, x.2.2.2.2.2.2.2.1, x.2.2.2.2.2.2.2.2.1, x.2.2.2.2.2.2.2.2.2.1, v, x.2.2.2.2.2.2.2.2.2.2.2)
abbrev sMhs (x : MSt) (v : Int64) : MSt := (x.1, x.2.1, x.2.2.1, x.2.2.2.1, x.2.2.2.2.1, x.2.2.2.2.2.1, x.2.2.2.2.2.2.1, x.2.2.2.2.2.2.2.1, x.2.2.2.2.2.2.2.2.1, x.2.2.2.2.2.2.2.2.2.1, x.2.2.2.2.2.2.2.2.2.2.1, v)
abbrev TSt : Type := (Nat → Int32) × Int32
abbrev tsg (x : TSt) : Nat → Int32 := x.1
abbrev tln (x : TSt) : Int32 := x.2
abbrev sTsg (x : TSt) (v : Nat → Int32) : TSt := (v, x.2)
abbrev sTln (x : TSt) (v : Int32) : TSt := (x.1, v)
abbrev KSt : Type := Int32 × Int32
abbrev kod (x : KSt) : Int32 := x.1
abbrev ksz (x : KSt) : Int32 := x.2
abbrev sKod (x : KSt) (v : Int32) : KSt := (v, x.2)
abbrev sKsz (x : KSt) (v : Int32) : KSt := (x.1, v)
theorem k_inc1 (a : Nat) : nI a + Int32.ofInt 1 = nI (a + 1) := by rw [show Int32.ofInt 1 = nI 1 from by decide]; exact nI_add a 1
theorem k_inc4 (a : Nat) : nI a + Int32.ofInt 4 = nI (a + 4) := by rw [show Int32.ofInt 4 = nI 4 from by decide]; exact nI_add a 4
theorem k_inci1 (x : Int32) : x + Int32.ofInt 1 = x + nI 1 := by rw [show Int32.ofInt 1 = nI 1 from by decide]
/-- an answer 0 or 1 -/
def bI (P : Prop) [Decidable P] : Int32 := if P then nI 1 else nI 0
theorem bI_t {P : Prop} [Decidable P] (h : P) : bI P = nI 1 := if_pos h
theorem bI_f {P : Prop} [Decidable P] (h : ¬ P) : bI P = nI 0 := if_neg h
theorem bI_ne {P : Prop} [Decidable P] : ¬ bI P = 0 ↔ P := by
  by_cases h : P
  · rw [bI_t h]; exact ⟨fun _ => h, fun _ => by decide⟩
  · rw [bI_f h]; exact ⟨fun z => absurd (by decide) z, fun z => absurd z h⟩
theorem bI_eq {P : Prop} [Decidable P] : bI P = 0 ↔ ¬ P := by
  by_cases h : P
  · rw [bI_t h]; exact ⟨fun z => absurd z (by decide), fun z => absurd h z⟩
  · rw [bI_f h]; exact ⟨fun _ => h, fun _ => by decide⟩
theorem bI_nar {P : Prop} [Decidable P] : narrow .boolean (.int (bI P)) = .int (bI P) := by
  by_cases h : P
  · rw [bI_t h]; rfl
  · rw [bI_f h]; rfl
theorem bI_fits {P : Prop} [Decidable P] : fits .boolean (.int (bI P)) = true := by
  by_cases h : P
  · rw [bI_t h]; rfl
  · rw [bI_f h]; rfl
abbrev Hcnt (c : Nat) (h : HSt) : HSt := sHC h (upd (hC h) c (hC h c + nI 1))
def Hcall (k : Nat) (h : HSt) : HSt := sHC (sHR h (upd (hR h) k (hfd h))) (upd (hC h) 5 (hC h 5 + nI 1))
def Hseat (k : Nat) (h : HSt) : HSt := Hcall k (sHL h (upd (hL h) k (hL h k + nI 1)))
def Hask (k : Nat) (h : HSt) : HSt := if ¬ hL h k ≤ 0 then Hcall k (Hcnt 4 h) else Hcnt 4 h
def Hfare2 (k : Nat) (h : HSt) : HSt := if hR h k ≤ hpt h then h else Hask k (sHR h (upd (hR h) k (hpt h)))
def Hfare (k : Nat) (h : HSt) : HSt := if hqk h = 0 then Hfare2 k h else if ¬ hL h k ≤ 0 then Hfare2 k h else sHR h (upd (hR h) k (nI 0))
def Hunseat (k b : Nat) (h : HSt) : HSt := if b = 0 then sHL h (upd (hL h) k (hL h k - nI 1)) else Hfare k (sHL h (upd (hL h) k (hL h k - nI 1)))
def HaskN (h : HSt) : Nat → HSt
  | 0 => h
  | n + 1 => if ¬ hL (HaskN h n) n ≤ 0 then Hcall n (HaskN h n) else HaskN h n
def HaskAll (h : HSt) : HSt := HaskN (Hcnt 3 h) 48
abbrev Hopen (h : HSt) (r : Nat) : Prop := (hop h >>> (nI r &&& 31)) &&& nI 1 = nI 1
def Hturn (r : Nat) (h : HSt) : HSt := sHop h (hop h ^^^ (nI 1 <<< (nI r &&& 31)))
def Hchief (h : HSt) : Int32 := if hf2 h = 0 then (if hf1 h = 0 then nI 0 else nI 1) else nI 2
def Hent (f : Nat → Int32) : Nat → Nat
  | 0 => 0
  | n + 1 => if f n ≤ 0 then Hent f n else Hent f n + 1
def Hget (h : HSt) (c : Nat) : Nat → Int32
  | 0 => hop h
  | n + 1 => if hR h (n * 6 + c) ≤ 0 then Hget h c n else Hget h c n ||| (nI 1 <<< (nI n &&& 31))
def Hwant (h : HSt) (c : Nat) : Nat → Int32
  | 0 => nI 0
  | n + 1 => if ¬ hL h (n * 6 + c) ≤ 0 then Hwant h c n ||| (nI 1 <<< (nI n &&& 31)) else Hwant h c n
def HfadeN (R : Nat → Int32) : Nat → Nat → Int32
  | 0 => R
  | n + 1 => if HfadeN R n n ≤ 0 then HfadeN R n else upd (HfadeN R n) n (HfadeN R n n - nI 1)
def Hfade (h : HSt) : HSt := sHR h (HfadeN (hR h) 48)
def Htbq (h : HSt) : Int32 := if Hchief h = 0 then has h else nI 2 * has h
def Htk (h : HSt) : HSt := sHsn (Hfade (sHmn h (hmn h + nI 1))) (hsn (Hfade (sHmn h (hmn h + nI 1))) + nI 1)
theorem hsn_sHsn (h : HSt) (v : Int32) : hsn (sHsn h v) = v := rfl
def Hmin (h : HSt) : HSt := if hsn (Htk h) < Htbq (Htk h) then Htk h else HaskAll (sHsn (Htk h) (nI 0))
def HpassN (h : HSt) : Nat → HSt
  | 0 => h
  | n + 1 => Hmin (HpassN h n)
def HpassQ (h : HSt) : Nat → Nat
  | 0 => 0
  | n + 1 => if hsn (Htk (HpassN h n)) < Htbq (Htk (HpassN h n)) then HpassQ h n else HpassQ h n + 1
/-- Integer.bitCount, step by step -/
def bc1 (x : Int32) : Int32 := x - ((x.toUInt32 >>> ((nI 1).toUInt32 &&& Int32.toUInt32 31)).toInt32 &&& 1431655765)
def bc2 (x : Int32) : Int32 := (x &&& 858993459) + ((x.toUInt32 >>> ((nI 2).toUInt32 &&& Int32.toUInt32 31)).toInt32 &&& 858993459)
def bc3 (x : Int32) : Int32 := (x + (x.toUInt32 >>> ((nI 4).toUInt32 &&& Int32.toUInt32 31)).toInt32) &&& 252645135
def bc4 (x : Int32) : Int32 := x + (x.toUInt32 >>> ((nI 8).toUInt32 &&& Int32.toUInt32 31)).toInt32
def bc5 (x : Int32) : Int32 := x + (x.toUInt32 >>> ((nI 16).toUInt32 &&& Int32.toUInt32 31)).toInt32
def bc (x : Int32) : Int32 := bc5 (bc4 (bc3 (bc2 (bc1 x)))) &&& nI 63
def HperfC (C : Nat → Int32) (g w : Int32) : Nat → Int32 :=
  upd (upd (upd C 0 (C 0 + bc (g &&& w))) 1 ((upd C 0 (C 0 + bc (g &&& w))) 1 + bc (g &&& (w ^^^ (-1))))) 2 ((upd (upd C 0 (C 0 + bc (g &&& w))) 1 ((upd C 0 (C 0 + bc (g &&& w))) 1 + bc (g &&& (w ^^^ (-1))))) 2 + bc (w &&& (g ^^^ (-1))))
def Hperf (c : Nat) (h : HSt) : HSt := sHC h (HperfC (hC h) (Hget h c 8) (Hwant h c 8))
def HasksIn (h : HSt) : Int32 := if nI 1 < Htbq h - hsn h then Htbq h - hsn h else nI 1
def HfadesIn (k : Nat) (h : HSt) : Int32 := if ¬ hL h k ≤ 0 then (if HasksIn h ≤ hR h k then (if Htbq h ≤ hfd h then (-1) else HasksIn h + hfd h) else hR h k) else hR h k
def Hdist (h : HSt) (c sp : Nat) : Nat → Nat
  | 0 => 0
  | n + 1 => if ¬ hL h (n * 6 + c) ≤ 0 then Hdist h c sp n else if Hopen h n then Hdist h c sp n + 1 else if hR h (n * 6 + c) ≤ nI sp then Hdist h c sp n else Hdist h c sp n + 1
def Tok (sg : Nat → Int32) (n : Nat) : Prop := ∀ k, k < n → ∃ q, q < 65536 ∧ sg k = nI q
theorem Tok_cl {sg : Nat → Int32} {n k : Nat} (h : Tok sg n) (hk : k < n) : nI (sg k).toNatClampNeg = sg k ∧ (sg k).toNatClampNeg < 65536 := by
  obtain ⟨q, hq, e⟩ := h k hk
  rw [e, nI_clamp (by omega)]
  exact ⟨rfl, hq⟩
/-- the sign at k: behind the last one an end -/
def Tq (sg : Nat → Int32) (n k : Nat) : Nat := if n ≤ k then 59 else (sg k).toNatClampNeg
theorem Tq_lt {sg : Nat → Int32} {n : Nat} (h : Tok sg n) (k : Nat) : Tq sg n k < 65536 := by
  unfold Tq
  by_cases c : n ≤ k
  · rw [if_pos c]; decide
  · rw [if_neg c]; exact (Tok_cl h (by omega)).2
theorem Tq_lt31 {sg : Nat → Int32} {n : Nat} (h : Tok sg n) (k : Nat) : Tq sg n k < 2 ^ 31 := Nat.lt_of_lt_of_le (Tq_lt h k) (by decide)
theorem Tq_nar (q : Nat) (hq : q < 65536) : narrow .char (.int (nI q)) = .int (nI q) := (pk_charN hq).1
theorem Tq_vnar (q : Nat) (hq : q < 65536) : vp_nar .char (nI q) = nI q := by unfold vp_nar; rw [(pk_charN hq).1]
def SEv (q : Nat) : Nat := if ¬ q = 59 then 8 else 0
def SDig (q : Nat) : Nat := if 49 ≤ q ∧ q ≤ 53 then 5 else if ¬ q = 54 then (if 55 ≤ q ∧ q ≤ 57 then 7 else 8) else 6
def SLet (q : Nat) : Nat := if q = 99 ∨ q = 108 ∨ q = 115 then 1 else if q = 112 then 3 else if q = 116 then 4 else if q = 111 then 2 else 8
def Sta (s q : Nat) : Nat :=
  if s = 0 then SLet q else if s = 1 then (if 48 ≤ q ∧ q ≤ 55 then 3 else 8) else if s = 2 then (if 48 ≤ q ∧ q ≤ 55 then 7 else 8) else if s = 3 then (if 48 ≤ q ∧ q ≤ 53 then 7 else 8)
  else if s = 4 then SDig q else if s = 5 then (if 48 ≤ q ∧ q ≤ 57 then 7 else SEv q) else if s = 6 then (if ¬ q = 48 then SEv q else 7) else if s = 7 then SEv q else 8
theorem SEv_le (q : Nat) : SEv q ≤ 8 := by unfold SEv; split <;> omega
theorem SDig_le (q : Nat) : SDig q ≤ 8 := by unfold SDig; (repeat' split) <;> omega
theorem SLet_le (q : Nat) : SLet q ≤ 8 := by unfold SLet; (repeat' split) <;> omega
theorem Sta_le (s q : Nat) : Sta s q ≤ 8 := by
  have h1 := SEv_le q
  have h2 := SDig_le q
  have h3 := SLet_le q
  unfold Sta
  repeat' split
  all_goals omega
/-- the reader's state ahead of the sign i -/
def Sst (sg : Nat → Int32) (n : Nat) : Nat → Nat
  | 0 => 0
  | i + 1 => Sta (Sst sg n i) (Tq sg n i)
theorem Sst_le (sg : Nat → Int32) (n i : Nat) : Sst sg n i ≤ 8 := by cases i with
  | zero => exact Nat.zero_le _
  | succ i => exact Sta_le _ _
theorem Sst_lt (sg : Nat → Int32) (n i : Nat) : Sst sg n i < 2 ^ 31 := Nat.lt_of_le_of_lt (Sst_le sg n i) (by decide)
/-- the first wrong sign from i on, m signs ahead -/
def Tfw (sg : Nat → Int32) (n : Nat) : Nat → Nat → Nat
  | i, 0 => i
  | i, m + 1 => if ¬ Sst sg n (i + 1) = 8 then Tfw sg n (i + 1) m else i
theorem Tfw_go {sg : Nat → Int32} {n i : Nat} (hi : i < n) : Tfw sg n i (n - i) = if ¬ Sst sg n (i + 1) = 8 then Tfw sg n (i + 1) (n - (i + 1)) else i := by
  rw [show n - i = (n - (i + 1)) + 1 by omega]; rfl
def Tnum (sg : Nat → Int32) (n k : Nat) : Int32 := if ¬ Tq sg n (k + 1) = 59 then nI 10 * (nI (Tq sg n k) - nI 48) + (nI (Tq sg n (k + 1)) - nI 48) else nI (Tq sg n k) - nI 48
def Hbo (h : HSt) : Prop := (hqk h = nI 0 ∨ hqk h = nI 1) ∧ (hf1 h = nI 0 ∨ hf1 h = nI 1) ∧ (hf2 h = nI 0 ∨ hf2 h = nI 1)
theorem bo_nar {x : Int32} (h : x = nI 0 ∨ x = nI 1) : narrow .boolean (.int x) = .int x := by rcases h with rfl | rfl <;> rfl
theorem bo_fits {x : Int32} (h : x = nI 0 ∨ x = nI 1) : fits .boolean (.int x) = true := by rcases h with rfl | rfl <;> rfl
theorem k_b2 {b : Nat} (h : b < 2) : nI b = nI 0 ∨ nI b = nI 1 := by rcases (by omega : b = 0 ∨ b = 1) with rfl | rfl <;> simp
theorem k_D_set {A : Nat → Prop} {p a : Nat} {ws : va_W} {e0 e : va_E} (hD : va_D A (ws.set p (a, e0))) (hp : p < ws.length) : va_D A (ws.set p (a, e)) := by
  have h := hD.set (p := p) (a := a) (e0 := e0) (e := e) (by rw [List.getElem?_set_self hp])
  rw [List.set_set] at h
  exact h
theorem pm_swap {α : Type} {a b c : List α} : (a ++ (b ++ c)).Perm (b ++ (a ++ c)) := by
  classical exact List.perm_iff_count.mpr (fun x => by simp only [List.count_append]; omega)
theorem pm_ring {α : Type} {k hs s d x : List α} (h : hs.Perm (d ++ x)) : (k ++ (hs ++ s)).Perm ((d ++ s) ++ (k ++ x)) := by
  classical exact List.perm_iff_count.mpr (fun y => by have z := h.count_eq y; simp only [List.count_append] at z ⊢; omega)
theorem pm_ring2 {α : Type} {k hs s d x : List α} (h : hs.Perm (d ++ x)) : (k ++ (hs ++ s)).Perm ((s ++ d) ++ (k ++ x)) := by
  classical exact List.perm_iff_count.mpr (fun y => by have z := h.count_eq y; simp only [List.count_append] at z ⊢; omega)
def kOd (od sz : Nat) : Nat := if ¬ sz = 6 then od else (od + 1) % 6
def kSz (sz : Nat) : Nat := if ¬ sz = 6 then sz + 1 else 5 + 1
def kJ (od sz : Nat) : Nat := if ¬ sz = 6 then (od + sz) % 6 else ((od + 1) % 6 + 5) % 6
theorem kOd_lt {od sz : Nat} (h : od < 6) : kOd od sz < 6 := by unfold kOd; split <;> omega
theorem kSz_le {sz : Nat} (h : sz ≤ 6) : kSz sz ≤ 6 := by unfold kSz; split <;> omega
theorem k_bs {hs : Nat → HSt} {j0 : Nat} {h : HSt} (h1 : ∀ j, Hbo (hs j)) (h2 : Hbo h) : ∀ j, Hbo (va_up hs j0 h j) := fun j => by
  unfold va_up
  split
  · exact h2
  · exact h1 j
def ckR (x : Int32) : Nat := if x < 0 then 1 else if x < nI 8 then 0 else 1
def ckC (x : Int32) : Nat := if x < 0 then 1 else if x < nI 6 then 0 else 1
def ckM (x : Int32) : Nat := if x < nI 1 then 1 else if x ≤ nI 60 then 0 else 1
theorem ck_nat {x : Int32} {n : Nat} (hn : n < 2 ^ 31) (h : ¬ x < 0) (h2 : x < nI n) : ∃ k : Nat, k < n ∧ x = nI k := by
  obtain ⟨j, hj, rfl⟩ := nI_of h
  exact ⟨j, (nI_ltI hj hn).mp h2, rfl⟩
theorem ckR_ok {x : Int32} (h : ckR x = 0) : ∃ k : Nat, k < 8 ∧ x = nI k := by
  unfold ckR at h
  by_cases h1 : x < 0
  · rw [if_pos h1] at h; cases h
  · rw [if_neg h1] at h
    by_cases h2 : x < nI 8
    · exact ck_nat (by decide) h1 h2
    · rw [if_neg h2] at h; cases h
theorem ckC_ok {x : Int32} (h : ckC x = 0) : ∃ k : Nat, k < 6 ∧ x = nI k := by
  unfold ckC at h
  by_cases h1 : x < 0
  · rw [if_pos h1] at h; cases h
  · rw [if_neg h1] at h
    by_cases h2 : x < nI 6
    · exact ck_nat (by decide) h1 h2
    · rw [if_neg h2] at h; cases h
theorem ckM_ok {x : Int32} (h : ckM x = 0) : ∃ k : Nat, (k ≤ 60 ∧ 1 ≤ k) ∧ x = nI k := by
  unfold ckM at h
  by_cases h1 : x < nI 1
  · rw [if_pos h1] at h; cases h
  · rw [if_neg h1] at h
    by_cases h2 : x ≤ nI 60
    · have h0 : ¬ x < 0 := fun z => h1 (Int32.lt_of_lt_of_le z (nI_pos' (by decide)))
      obtain ⟨j, hj, rfl⟩ := nI_of h0
      refine ⟨j, ⟨(nI_leI hj (by decide)).mp h2, ?_⟩, rfl⟩
      exact Nat.le_of_not_lt fun z => h1 ((nI_ltI hj (by decide)).mpr z)
    · rw [if_neg h2] at h; cases h
def pl (r c : Int32) : Nat := r.toNatClampNeg * 6 + c.toNatClampNeg
theorem pl_eq {row con : Int32} {r c : Nat} (hr : r < 8) (hc : c < 6) (h1 : row = nI r) (h2 : con = nI c) : pl row con = r * 6 + c := by
  unfold pl
  rw [h1, h2, nI_clamp (by omega), nI_clamp (by omega)]
theorem cl_eq {x : Int32} {n : Nat} (h : x = nI n) (hn : n < 2 ^ 31) : x.toNatClampNeg = n := by rw [h, nI_clamp hn]
def cdPair (row con : Int32) : Nat := if ckR row = 0 then (if ckC con = 0 then 0 else 1) else 1
def cdCome (h : HSt) (row con : Int32) : Nat := if ckR row = 0 then (if ckC con = 0 then (if ¬ nI 9 ≤ hL h (pl row con) then 0 else 2) else 1) else 1
def cdLeave (h : HSt) (row con : Int32) : Nat := if ckR row = 0 then (if ckC con = 0 then (if ¬ hL h (pl row con) ≤ 0 then 0 else 2) else 1) else 1
def cdTimes (a b c : Int32) : Nat := if a < nI 2 then 1 else if a ≤ nI 60 then (if b < nI 1 then 1 else if b ≤ nI 10 then (if c < nI 1 then 1 else if c ≤ nI 30 then 0 else 1) else 1) else 1
def cdPres (u : Int32) : Nat := if u = nI 1 then 0 else if u = nI 2 then 0 else 1
def cdCount (x : Int32) : Nat := if x < 0 then 1 else if x < nI 6 then 0 else 1
def cdDist (con mins : Int32) : Nat := if ckC con = 0 then (if ckM mins = 0 then 0 else 2) else 1
def cdApp (n : Nat) (x : Int32) : Nat := if x < nI 33 then 1 else if x ≤ nI 126 then (if n < 60 then 0 else 2) else 1
def UOpen (row : Int32) (b : Nat) (h : HSt) : HSt := if bI (Hopen h row.toNatClampNeg) = nI b then h else Hturn row.toNatClampNeg h
def UTimes (a b c : Int32) (h : HSt) : HSt := sHas (sHpt (sHfd h a) b) c
def UPres (u : Int32) (b : Nat) (h : HSt) : HSt := if ¬ u = nI 1 then sHf2 h (nI b) else sHf1 h (nI b)
def mixI (x : Int64) (v : Int32) : Int64 := 31 * x + v.toInt64
def DgC (f : Nat → Int32) (x : Int64) : Nat → Int64
  | 0 => x
  | n + 1 => mixI (DgC f x n) (f n)
def DgM (h : HSt) (x : Int64) : Nat → Int64
  | 0 => x
  | n + 1 => mixI (mixI (DgM h x n) (Hget h n 8)) (Hwant h n 8)
def DgK (h : HSt) (r : Nat) (x : Int64) : Nat → Int64
  | 0 => x
  | n + 1 => mixI (mixI (mixI (DgK h r x n) (hL h (r * 6 + n))) (hR h (r * 6 + n))) (HfadesIn (r * 6 + n) h)
def DgRow (h : HSt) (x : Int64) (r : Nat) : Int64 := DgK h r (mixI x (bI (Hopen h r))) 6
def DgR (h : HSt) (x : Int64) : Nat → Int64
  | 0 => x
  | n + 1 => DgRow h (DgR h x n) n
def Udig (h : HSt) : Int64 := DgR h (DgM h (DgC (hC h) (mixI (mixI (mixI (mixI (mixI 4701 (hmn h)) (hsn h)) (Hchief h)) (nI (Hent (hR h) 48))) (HasksIn h)) 6) 6) 8
/-- an event stands at k: its row, concert or number are there -/
def evA (sg : Nat → Int32) (n k : Nat) : Prop := (48 ≤ Tq sg n (k + 1) ∧ Tq sg n (k + 1) ≤ 55) ∧ 48 ≤ Tq sg n (k + 2) ∧ Tq sg n (k + 2) ≤ 53
def evOK (sg : Nat → Int32) (n k : Nat) : Prop :=
  (Tq sg n k = 99 ∧ evA sg n k) ∨ (Tq sg n k = 108 ∧ evA sg n k) ∨ (Tq sg n k = 115 ∧ evA sg n k) ∨ (Tq sg n k = 112 ∧ 48 ≤ Tq sg n (k + 1) ∧ Tq sg n (k + 1) ≤ 53)
  ∨ (Tq sg n k = 116 ∧ ∃ N : Nat, (N ≤ 60 ∧ 1 ≤ N) ∧ Tnum sg n (k + 1) = nI N) ∨ (Tq sg n k = 111 ∧ 48 ≤ Tq sg n (k + 1) ∧ Tq sg n (k + 1) ≤ 55)
abbrev dg (sg : Nat → Int32) (n k : Nat) : Nat := Tq sg n k - 48
abbrev pk2 (sg : Nat → Int32) (n k : Nat) : Nat := (Tq sg n (k + 1) - 48) * 6 + (Tq sg n (k + 2) - 48)
def Udo (sg : Nat → Int32) (n k : Nat) (h : HSt) : HSt :=
  if Tq sg n k = 99 then (if ¬ nI 9 ≤ hL h (pk2 sg n k) then Hseat (pk2 sg n k) h else h) else if Tq sg n k = 108 then (if ¬ hL h (pk2 sg n k) ≤ 0 then Hunseat (pk2 sg n k) 1 h else h) else if Tq sg n k = 115 then (if ¬ hL h (pk2 sg n k) ≤ 0 then Hunseat (pk2 sg n k) 0 h else h)
  else if Tq sg n k = 112 then Hperf (Tq sg n (k + 1) - 48) h else if Tq sg n k = 116 then HpassN h (Tnum sg n (k + 1)).toNatClampNeg else Hturn (Tq sg n (k + 1) - 48) h
/-- whether its method would not throw -/
abbrev UdoB (sg : Nat → Int32) (n k : Nat) (h : HSt) : Prop :=
  (Tq sg n k = 99 ∧ ¬ nI 9 ≤ hL h (pk2 sg n k)) ∨ ((Tq sg n k = 108 ∨ Tq sg n k = 115) ∧ ¬ hL h (pk2 sg n k) ≤ 0) ∨ (¬ Tq sg n k = 99 ∧ ¬ Tq sg n k = 108 ∧ ¬ Tq sg n k = 115)
theorem UdoB_c {sg : Nat → Int32} {n k : Nat} {h : HSt} (e : Tq sg n k = 99) : UdoB sg n k h ↔ ¬ nI 9 ≤ hL h (pk2 sg n k) := by simp [UdoB, e]
theorem UdoB_l {sg : Nat → Int32} {n k : Nat} {h : HSt} (e : Tq sg n k = 108) : UdoB sg n k h ↔ ¬ hL h (pk2 sg n k) ≤ 0 := by simp [UdoB, e]
theorem UdoB_s {sg : Nat → Int32} {n k : Nat} {h : HSt} (e : Tq sg n k = 115) : UdoB sg n k h ↔ ¬ hL h (pk2 sg n k) ≤ 0 := by simp [UdoB, e]
theorem UdoB_o {sg : Nat → Int32} {n k : Nat} {h : HSt} (h1 : ¬ Tq sg n k = 99) (h2 : ¬ Tq sg n k = 108) (h3 : ¬ Tq sg n k = 115) : UdoB sg n k h := Or.inr (Or.inr ⟨h1, h2, h3⟩)
theorem Udo_id {sg : Nat → Int32} {n k : Nat} {h : HSt} (c : ¬ UdoB sg n k h) : Udo sg n k h = h := by
  have c1 : ¬ (Tq sg n k = 99 ∧ ¬ nI 9 ≤ hL h (pk2 sg n k)) := fun z => c (Or.inl z)
  have c2 : ¬ ((Tq sg n k = 108 ∨ Tq sg n k = 115) ∧ ¬ hL h (pk2 sg n k) ≤ 0) := fun z => c (Or.inr (Or.inl z))
  have c3 : ¬ (¬ Tq sg n k = 99 ∧ ¬ Tq sg n k = 108 ∧ ¬ Tq sg n k = 115) := fun z => c (Or.inr (Or.inr z))
  unfold Udo
  by_cases e1 : Tq sg n k = 99
  · rw [if_pos e1]
    by_cases e : ¬ nI 9 ≤ hL h (pk2 sg n k)
    · exact absurd ⟨e1, e⟩ c1
    · rw [if_neg e]
  · rw [if_neg e1]
    by_cases e2 : Tq sg n k = 108
    · rw [if_pos e2]
      by_cases e : ¬ hL h (pk2 sg n k) ≤ 0
      · exact absurd ⟨Or.inl e2, e⟩ c2
      · rw [if_neg e]
    · rw [if_neg e2]
      by_cases e3 : Tq sg n k = 115
      · rw [if_pos e3]
        by_cases e : ¬ hL h (pk2 sg n k) ≤ 0
        · exact absurd ⟨Or.inr e3, e⟩ c2
        · rw [if_neg e]
      · exact absurd ⟨e1, e2, e3⟩ c3
theorem bI_iff {P Q : Prop} [Decidable P] [Decidable Q] (h : P ↔ Q) : bI P = bI Q := by
  unfold bI
  by_cases c : P
  · rw [if_pos c, if_pos (h.mp c)]
  · rw [if_neg c, if_neg (fun z => c (h.mpr z))]
def Hsm (h h' : HSt) : Prop := hqk h' = hqk h ∧ hf1 h' = hf1 h ∧ hf2 h' = hf2 h
theorem Hsm.rf (h : HSt) : Hsm h h := ⟨rfl, rfl, rfl⟩
theorem Hsm.tr {a b c : HSt} (h1 : Hsm a b) (h2 : Hsm b c) : Hsm a c := ⟨h2.1.trans h1.1, h2.2.1.trans h1.2.1, h2.2.2.trans h1.2.2⟩
theorem Hbo_sm {h h' : HSt} (hb : Hbo h) (e : Hsm h h') : Hbo h' := by
  obtain ⟨e1, e2, e3⟩ := e
  unfold Hbo
  rw [e1, e2, e3]; exact hb
theorem HL_sm (h : HSt) (F : Nat → Int32) : Hsm h (sHL h F) := ⟨rfl, rfl, rfl⟩
theorem HR_sm (h : HSt) (F : Nat → Int32) : Hsm h (sHR h F) := ⟨rfl, rfl, rfl⟩
theorem HC_sm (h : HSt) (F : Nat → Int32) : Hsm h (sHC h F) := ⟨rfl, rfl, rfl⟩
theorem Hop_sm (h : HSt) (v : Int32) : Hsm h (sHop h v) := ⟨rfl, rfl, rfl⟩
theorem Hmn_sm (h : HSt) (v : Int32) : Hsm h (sHmn h v) := ⟨rfl, rfl, rfl⟩
theorem Hsn_sm (h : HSt) (v : Int32) : Hsm h (sHsn h v) := ⟨rfl, rfl, rfl⟩
theorem Hcall_sm (k : Nat) (h : HSt) : Hsm h (Hcall k h) := (HR_sm h _).tr (HC_sm _ _)
theorem Hseat_sm (k : Nat) (h : HSt) : Hsm h (Hseat k h) := (HL_sm h _).tr (Hcall_sm k _)
theorem Hask_sm (k : Nat) (h : HSt) : Hsm h (Hask k h) := by
  unfold Hask
  by_cases c : ¬ hL h k ≤ 0
  · rw [if_pos c]; exact (HC_sm h _).tr (Hcall_sm k _)
  · rw [if_neg c]; exact HC_sm h _
theorem Hfare2_sm (k : Nat) (h : HSt) : Hsm h (Hfare2 k h) := by
  unfold Hfare2
  by_cases c : hR h k ≤ hpt h
  · rw [if_pos c]; exact Hsm.rf h
  · rw [if_neg c]; exact (HR_sm h _).tr (Hask_sm k _)
theorem Hfare_sm (k : Nat) (h : HSt) : Hsm h (Hfare k h) := by
  unfold Hfare
  by_cases c : hqk h = 0
  · rw [if_pos c]; exact Hfare2_sm k h
  · rw [if_neg c]
    by_cases d : ¬ hL h k ≤ 0
    · rw [if_pos d]; exact Hfare2_sm k h
    · rw [if_neg d]; exact HR_sm h _
theorem Hunseat_sm (k b : Nat) (h : HSt) : Hsm h (Hunseat k b h) := by
  unfold Hunseat
  by_cases c : b = 0
  · rw [if_pos c]; exact HL_sm h _
  · rw [if_neg c]; exact (HL_sm h _).tr (Hfare_sm k _)
theorem HaskN_sm (h : HSt) (n : Nat) : Hsm h (HaskN h n) := by
  induction n with
  | zero => exact Hsm.rf h
  | succ n ih =>
    show Hsm h (if ¬ hL (HaskN h n) n ≤ 0 then Hcall n (HaskN h n) else HaskN h n)
    by_cases c : ¬ hL (HaskN h n) n ≤ 0
    · rw [if_pos c]; exact ih.tr (Hcall_sm n _)
    · rw [if_neg c]; exact ih
theorem HaskAll_sm (h : HSt) : Hsm h (HaskAll h) := (HC_sm h _).tr (HaskN_sm _ 48)
theorem Hfade_sm (h : HSt) : Hsm h (Hfade h) := HR_sm h _
theorem Htk_sm (h : HSt) : Hsm h (Htk h) := ((Hmn_sm h _).tr (Hfade_sm _)).tr (Hsn_sm _ _)
theorem Hmin_sm (h : HSt) : Hsm h (Hmin h) := by
  unfold Hmin
  by_cases c : hsn (Htk h) < Htbq (Htk h)
  · rw [if_pos c]; exact Htk_sm h
  · rw [if_neg c]; exact (Htk_sm h).tr ((Hsn_sm _ _).tr (HaskAll_sm _))
theorem HpassN_sm (h : HSt) (n : Nat) : Hsm h (HpassN h n) := by
  induction n with
  | zero => exact Hsm.rf h
  | succ n ih => exact ih.tr (Hmin_sm _)
theorem Hperf_sm (c : Nat) (h : HSt) : Hsm h (Hperf c h) := HC_sm h _
theorem Hturn_sm (r : Nat) (h : HSt) : Hsm h (Hturn r h) := Hop_sm h _
theorem Udo_sm (sg : Nat → Int32) (n k : Nat) (h : HSt) : Hsm h (Udo sg n k h) := by
  unfold Udo
  by_cases c1 : Tq sg n k = 99
  · rw [if_pos c1]
    by_cases d : ¬ nI 9 ≤ hL h (pk2 sg n k)
    · rw [if_pos d]; exact Hseat_sm _ h
    · rw [if_neg d]; exact Hsm.rf h
  rw [if_neg c1]
  by_cases c2 : Tq sg n k = 108
  · rw [if_pos c2]
    by_cases d : ¬ hL h (pk2 sg n k) ≤ 0
    · rw [if_pos d]; exact Hunseat_sm _ _ h
    · rw [if_neg d]; exact Hsm.rf h
  rw [if_neg c2]
  by_cases c3 : Tq sg n k = 115
  · rw [if_pos c3]
    by_cases d : ¬ hL h (pk2 sg n k) ≤ 0
    · rw [if_pos d]; exact Hunseat_sm _ _ h
    · rw [if_neg d]; exact Hsm.rf h
  rw [if_neg c3]
  by_cases c4 : Tq sg n k = 112
  · rw [if_pos c4]; exact Hperf_sm _ h
  rw [if_neg c4]
  by_cases c5 : Tq sg n k = 116
  · rw [if_pos c5]; exact HpassN_sm h _
  rw [if_neg c5]; exact Hturn_sm _ h
/-- from the sign i on, m signs ahead, d events done -/
def Ufin (sg : Nat → Int32) (n : Nat) : Nat → Nat → HSt → Nat → HSt × Nat
  | _, 0, h, d => (h, d)
  | i, m + 1, h, d => if i = 0 ∨ Tq sg n (i - 1) = 59 then (if UdoB sg n i h then Ufin sg n (i + 1) m (Udo sg n i h) (d + 1) else (h, d)) else Ufin sg n (i + 1) m h d
theorem Ufin_go {sg : Nat → Int32} {n i : Nat} (hi : i < n) (h : HSt) (d : Nat) : Ufin sg n i (n - i) h d = if i = 0 ∨ Tq sg n (i - 1) = 59 then (if UdoB sg n i h then Ufin sg n (i + 1) (n - (i + 1)) (Udo sg n i h) (d + 1) else (h, d)) else Ufin sg n (i + 1) (n - (i + 1)) h d := by
  rw [show n - i = (n - (i + 1)) + 1 by omega]; rfl
theorem Ufin_le {sg : Nat → Int32} {n : Nat} : ∀ (m i : Nat) (h : HSt) (d : Nat), (Ufin sg n i m h d).2 ≤ d + m
  | 0, _, _, _ => Nat.le_refl _
  | m + 1, i, h, d => by
    unfold Ufin
    split
    · split
      · exact Nat.le_trans (Ufin_le m _ _ _) (by omega)
      · exact Nat.le_add_right _ _
    · exact Nat.le_trans (Ufin_le m _ _ _) (by omega)
theorem k_i2c (q : Nat) (hq : q < 65536) : ((nI q).toUInt32 % 65536).toInt32 = nI q := by
  rw [pk_char, pk_tn (by omega), Nat.mod_eq_of_lt hq]
theorem app_nat {x : Int32} (h1 : ¬ x < nI 33) (h2 : x ≤ nI 126) : ∃ q : Nat, (q < 65536 ∧ 33 ≤ q ∧ q ≤ 126) ∧ x = nI q := by
  have h0 : ¬ x < 0 := fun z => h1 (Int32.lt_of_lt_of_le z (nI_pos' (by decide)))
  obtain ⟨j, hj, rfl⟩ := nI_of h0
  have h3 := (nI_leI hj (by decide)).mp h2
  exact ⟨j, ⟨by omega, Nat.le_of_not_lt fun z => h1 ((nI_ltI hj (by decide)).mpr z), h3⟩, rfl⟩
theorem Sta_8 (q : Nat) : Sta 8 q = 8 := rfl
theorem Sst_8 {sg : Nat → Int32} {n i : Nat} (h : Sst sg n i = 8) : ∀ m, Sst sg n (i + m) = 8
  | 0 => h
  | m + 1 => by show Sta (Sst sg n (i + m)) _ = 8; rw [Sst_8 h m]; rfl
theorem Sta_end {s : Nat} (hs : s ≤ 8) : Sta s 59 = 0 ∨ Sta s 59 = 8 := by
  rcases (by omega : s = 0 ∨ s = 1 ∨ s = 2 ∨ s = 3 ∨ s = 4 ∨ s = 5 ∨ s = 6 ∨ s = 7 ∨ s = 8) with rfl | rfl | rfl | rfl | rfl | rfl | rfl | rfl | rfl <;> decide
theorem Sta1 {q : Nat} (h : ¬ Sta 1 q = 8) : (48 ≤ q ∧ q ≤ 55) ∧ Sta 1 q = 3 := by
  have e : Sta 1 q = if 48 ≤ q ∧ q ≤ 55 then 3 else 8 := rfl
  rw [e] at h ⊢
  by_cases c : 48 ≤ q ∧ q ≤ 55
  · rw [if_pos c]; exact ⟨c, rfl⟩
  · rw [if_neg c] at h; exact absurd rfl h
theorem Sta2 {q : Nat} (h : ¬ Sta 2 q = 8) : (48 ≤ q ∧ q ≤ 55) ∧ Sta 2 q = 7 := by
  have e : Sta 2 q = if 48 ≤ q ∧ q ≤ 55 then 7 else 8 := rfl
  rw [e] at h ⊢
  by_cases c : 48 ≤ q ∧ q ≤ 55
  · rw [if_pos c]; exact ⟨c, rfl⟩
  · rw [if_neg c] at h; exact absurd rfl h
theorem Sta3 {q : Nat} (h : ¬ Sta 3 q = 8) : (48 ≤ q ∧ q ≤ 53) ∧ Sta 3 q = 7 := by
  have e : Sta 3 q = if 48 ≤ q ∧ q ≤ 53 then 7 else 8 := rfl
  rw [e] at h ⊢
  by_cases c : 48 ≤ q ∧ q ≤ 53
  · rw [if_pos c]; exact ⟨c, rfl⟩
  · rw [if_neg c] at h; exact absurd rfl h
theorem SDig_5 {q : Nat} (h : ¬ SDig q = 8) : (49 ≤ q ∧ q ≤ 53 ∧ SDig q = 5) ∨ (q = 54 ∧ SDig q = 6) ∨ (55 ≤ q ∧ q ≤ 57 ∧ SDig q = 7) := by
  unfold SDig at h ⊢
  by_cases c1 : 49 ≤ q ∧ q ≤ 53
  · rw [if_pos c1]; exact Or.inl ⟨c1.1, c1.2, rfl⟩
  · rw [if_neg c1] at h ⊢
    by_cases c2 : ¬ q = 54
    · rw [if_pos c2] at h ⊢
      by_cases c3 : 55 ≤ q ∧ q ≤ 57
      · rw [if_pos c3]; exact Or.inr (Or.inr ⟨c3.1, c3.2, rfl⟩)
      · rw [if_neg c3] at h; exact absurd rfl h
    · rw [if_neg c2]; exact Or.inr (Or.inl ⟨Nat.le_antisymm (by omega) (by omega), rfl⟩)
theorem SLet_5 {q : Nat} (h : ¬ SLet q = 8) : ((q = 99 ∨ q = 108 ∨ q = 115) ∧ SLet q = 1) ∨ (q = 112 ∧ SLet q = 3) ∨ (q = 116 ∧ SLet q = 4) ∨ (q = 111 ∧ SLet q = 2) := by
  by_cases c1 : q = 99 ∨ q = 108 ∨ q = 115
  · exact Or.inl ⟨c1, by unfold SLet; rw [if_pos c1]⟩
  · by_cases c2 : q = 112
    · subst c2; exact Or.inr (Or.inl ⟨rfl, rfl⟩)
    · by_cases c3 : q = 116
      · subst c3; exact Or.inr (Or.inr (Or.inl ⟨rfl, rfl⟩))
      · by_cases c4 : q = 111
        · subst c4; exact Or.inr (Or.inr (Or.inr ⟨rfl, rfl⟩))
        · exact absurd (by unfold SLet; rw [if_neg c1, if_neg c2, if_neg c3, if_neg c4]) h
abbrev Tdone (sg : Nat → Int32) (n : Nat) : Prop := Sst sg n n = 5 ∨ Sst sg n n = 6 ∨ Sst sg n n = 7
theorem Tdone_ne {sg : Nat → Int32} {n i : Nat} (h : Tdone sg n) (hi : i ≤ n) : ¬ Sst sg n i = 8 := fun z => by
  have e := Sst_8 z (n - i)
  rw [show i + (n - i) = n by omega] at e
  rw [Tdone, e] at h
  omega
theorem Tdone_start {sg : Nat → Int32} {n k : Nat} (h : Tdone sg n) (hk : k < n) (hs : k = 0 ∨ Tq sg n (k - 1) = 59) : Sst sg n k = 0 := by
  cases k with
  | zero => rfl
  | succ k =>
    have hq : Tq sg n k = 59 := by rcases hs with hs | hs; exact absurd hs (by omega); exact hs
    have e : Sst sg n (k + 1) = Sta (Sst sg n k) (Tq sg n k) := rfl
    have hne := Tdone_ne h (Nat.le_of_lt hk)
    rw [e, hq] at hne ⊢
    exact (Sta_end (Sst_le sg n k)).resolve_right hne
theorem Tev_ok {sg : Nat → Int32} {n : Nat} (h : Tdone sg n) : ∀ k, k < n → (k = 0 ∨ Tq sg n (k - 1) = 59) → evOK sg n k := by
  intro k hk hs
  have e0 := Tdone_start h hk hs
  have e1 : Sst sg n (k + 1) = SLet (Tq sg n k) := by show Sta (Sst sg n k) _ = _; rw [e0]; rfl
  have n1 := Tdone_ne h (i := k + 1) hk
  rw [e1] at n1
  have nxt : ∀ j s, Sst sg n j = s → j ≤ n → ¬ (s = 5 ∨ s = 6 ∨ s = 7) → j < n := by
    intro j s hj hle hz
    rcases Nat.lt_or_ge j n with z | z
    · exact z
    · have e : j = n := by omega
      subst e
      rw [Tdone, hj] at h
      exact absurd h hz
  rcases SLet_5 n1 with ⟨c, e⟩ | ⟨c, e⟩ | ⟨c, e⟩ | ⟨c, e⟩
  · rw [e] at e1
    have k1 := nxt _ _ e1 hk (by omega)
    have e2 : Sst sg n (k + 2) = Sta 1 (Tq sg n (k + 1)) := by show Sta (Sst sg n (k + 1)) _ = _; rw [e1]
    have n2 := Tdone_ne h (i := k + 2) k1
    rw [e2] at n2
    obtain ⟨d1, s2⟩ := Sta1 n2
    rw [s2] at e2
    have k2 := nxt _ _ e2 k1 (by omega)
    have e3 : Sst sg n (k + 3) = Sta 3 (Tq sg n (k + 2)) := by show Sta (Sst sg n (k + 2)) _ = _; rw [e2]
    have n3 := Tdone_ne h (i := k + 3) k2
    rw [e3] at n3
    obtain ⟨d2, -⟩ := Sta3 n3
    rcases c with c | c | c
    · exact Or.inl ⟨c, d1, d2⟩
    · exact Or.inr (Or.inl ⟨c, d1, d2⟩)
    · exact Or.inr (Or.inr (Or.inl ⟨c, d1, d2⟩))
  · rw [e] at e1
    have k1 := nxt _ _ e1 hk (by omega)
    have n2 := Tdone_ne h (i := k + 2) k1
    rw [show Sst sg n (k + 2) = Sta 3 (Tq sg n (k + 1)) by show Sta (Sst sg n (k + 1)) _ = _; rw [e1]] at n2
    exact Or.inr (Or.inr (Or.inr (Or.inl ⟨c, (Sta3 n2).1⟩)))
  · rw [e] at e1
    have k1 := nxt _ _ e1 hk (by omega)
    have e2 : Sst sg n (k + 2) = SDig (Tq sg n (k + 1)) := by show Sta (Sst sg n (k + 1)) _ = _; rw [e1]; rfl
    have n2 := Tdone_ne h (i := k + 2) k1
    rw [e2] at n2
    refine Or.inr (Or.inr (Or.inr (Or.inr (Or.inl ⟨c, ?_⟩))))
    have sub : ∀ q, 48 ≤ q → nI q - nI 48 = nI (q - 48) := fun q hq => pk_sub hq
    have two : ∀ a b, 48 ≤ a → 48 ≤ b → nI 10 * (nI a - nI 48) + (nI b - nI 48) = nI (10 * (a - 48) + (b - 48)) := fun a b ha hb => by rw [sub a ha, sub b hb, pk_mul, nI_add]
    have e3 : k + 2 < n → Sst sg n (k + 3) = Sta (SDig (Tq sg n (k + 1))) (Tq sg n (k + 2)) := fun _ => by show Sta (Sst sg n (k + 2)) _ = _; rw [e2]
    have q59 : ¬ k + 2 < n → Tq sg n (k + 2) = 59 := fun z => if_pos (by omega)
    rcases SDig_5 n2 with ⟨a1, a2, s2⟩ | ⟨a1, s2⟩ | ⟨a1, a2, s2⟩
    · by_cases z : Tq sg n (k + 2) = 59
      · exact ⟨Tq sg n (k + 1) - 48, ⟨by omega, by omega⟩, by unfold Tnum; rw [if_neg (not_not_intro z)]; exact sub _ (by omega)⟩
      · have k2 : k + 2 < n := by rcases Nat.lt_or_ge (k + 2) n with y | y; exact y; exact absurd (q59 (by omega)) z
        have n3 := Tdone_ne h (i := k + 3) k2
        rw [e3 k2, s2, show Sta 5 (Tq sg n (k + 2)) = if 48 ≤ Tq sg n (k + 2) ∧ Tq sg n (k + 2) ≤ 57 then 7 else SEv (Tq sg n (k + 2)) from rfl] at n3
        by_cases y : 48 ≤ Tq sg n (k + 2) ∧ Tq sg n (k + 2) ≤ 57
        · exact ⟨10 * (Tq sg n (k + 1) - 48) + (Tq sg n (k + 2) - 48), ⟨by omega, by omega⟩, by unfold Tnum; rw [if_pos z]; exact two _ _ (by omega) y.1⟩
        · rw [if_neg y, show SEv (Tq sg n (k + 2)) = 8 from if_pos z] at n3
          exact absurd rfl n3
    · by_cases z : Tq sg n (k + 2) = 59
      · exact ⟨6, ⟨by omega, by omega⟩, by unfold Tnum; rw [if_neg (not_not_intro z), a1]; exact sub 54 (by decide)⟩
      · have k2 : k + 2 < n := by rcases Nat.lt_or_ge (k + 2) n with y | y; exact y; exact absurd (q59 (by omega)) z
        have n3 := Tdone_ne h (i := k + 3) k2
        rw [e3 k2, s2, show Sta 6 (Tq sg n (k + 2)) = if ¬ Tq sg n (k + 2) = 48 then SEv (Tq sg n (k + 2)) else 7 from rfl] at n3
        by_cases y : Tq sg n (k + 2) = 48
        · exact ⟨60, ⟨by omega, by omega⟩, by unfold Tnum; rw [if_pos z, a1, y]; exact two 54 48 (by decide) (by decide)⟩
        · rw [if_pos y, show SEv (Tq sg n (k + 2)) = 8 from if_pos z] at n3
          exact absurd rfl n3
    · by_cases z : Tq sg n (k + 2) = 59
      · exact ⟨Tq sg n (k + 1) - 48, ⟨by omega, by omega⟩, by unfold Tnum; rw [if_neg (not_not_intro z)]; exact sub _ (by omega)⟩
      · have k2 : k + 2 < n := by rcases Nat.lt_or_ge (k + 2) n with y | y; exact y; exact absurd (q59 (by omega)) z
        have n3 := Tdone_ne h (i := k + 3) k2
        rw [e3 k2, s2, show Sta 7 (Tq sg n (k + 2)) = SEv (Tq sg n (k + 2)) from rfl, show SEv (Tq sg n (k + 2)) = 8 from if_pos z] at n3
        exact absurd rfl n3
  · rw [e] at e1
    have k1 := nxt _ _ e1 hk (by omega)
    have n2 := Tdone_ne h (i := k + 2) k1
    rw [show Sst sg n (k + 2) = Sta 2 (Tq sg n (k + 1)) by show Sta (Sst sg n (k + 1)) _ = _; rw [e1]] at n2
    exact Or.inr (Or.inr (Or.inr (Or.inr (Or.inr ⟨c, (Sta2 n2).1⟩))))
theorem k_D_ext {A : Nat → Prop} {a : Nat} {e0 e : va_E} {ws ws2 : va_W} (p : Nat) (hq : ws[p]? = some (a, e0)) (hw : ws.set p (a, e) = ws2) (hD : va_D A ws) : va_D A ws2 := by
  subst hw
  exact hD.set (p := p) (a := a) (e0 := e0) (e := e) hq
def b01 (P : Prop) [Decidable P] : Nat := if P then 1 else 0
theorem b01_lt {P : Prop} [Decidable P] : b01 P < 2 := by unfold b01; split <;> omega
theorem b01_lt31 {P : Prop} [Decidable P] : b01 P < 2 ^ 31 := Nat.lt_trans b01_lt (by decide)
theorem b01_t {P : Prop} [Decidable P] (h : P) : b01 P = 1 := if_pos h
theorem b01_f {P : Prop} [Decidable P] (h : ¬ P) : b01 P = 0 := if_neg h
theorem b01_0 {P : Prop} [Decidable P] : b01 P = 0 ↔ ¬ P := by
  by_cases h : P
  · rw [b01_t h]; exact ⟨fun z => absurd z (by decide), fun z => absurd h z⟩
  · rw [b01_f h]; exact ⟨fun _ => h, fun _ => rfl⟩
abbrev pairOK (row con : Int32) : Prop := (nI 0 ≤ row ∧ row ≤ nI 7) ∧ nI 0 ≤ con ∧ con ≤ nI 5
def Mcalls (k : Nat) (s : Nat → Int32) : Nat → Int32 := upd (upd s (69 + k) (s 0)) 12 ((upd s (69 + k) (s 0)) 12 + nI 1)
def Mcomes (k : Nat) (s : Nat → Int32) : Nat → Int32 := Mcalls k (upd s (21 + k) (s (21 + k) + nI 1))
def Mask (k : Nat) (s : Nat → Int32) : Nat → Int32 := if s (21 + k) ≤ 0 then s else Mcalls k s
def Mfare2 (k : Nat) (s : Nat → Int32) : Nat → Int32 := if s (69 + k) ≤ s 1 then s else Mask k (upd (upd s (69 + k) (s 1)) 11 ((upd s (69 + k) (s 1)) 11 + nI 1))
def Mfare (k : Nat) (s : Nat → Int32) : Nat → Int32 := if s 3 = nI 1 then (if s (21 + k) = 0 then upd s (69 + k) (nI 0) else Mfare2 k s) else Mfare2 k s
def Mleaves (k b : Nat) (s : Nat → Int32) : Nat → Int32 := if b = 0 then upd s (21 + k) (s (21 + k) - nI 1) else Mfare k (upd s (21 + k) (s (21 + k) - nI 1))
/-- the first n of f, laid into h -/
def cpN (f h : Nat → Int32) : Nat → Nat → Int32
  | 0 => h
  | n + 1 => upd (cpN f h n) n (f n)
theorem cpN_in {f h : Nat → Int32} {n k : Nat} (hk : k < n) : cpN f h n k = f k := by
  induction n with
  | zero => exact absurd hk (Nat.not_lt_zero k)
  | succ n ih =>
    show upd (cpN f h n) n (f n) k = f k
    unfold upd
    by_cases e : k = n
    · rw [if_pos e, e]
    · rw [if_neg e]; exact ih (by omega)
def shN (v : Nat → Int32) : Nat → Nat → Int32
  | 0 => v
  | n + 1 => upd (shN v n) n ((shN v n) (n + 120))
def cpB (s v : Nat → Int32) (j : Nat) : Nat → Nat → Int32
  | 0 => v
  | n + 1 => upd (cpB s v j n) (120 * j + n) (s n)
def Msv (s v : Nat → Int32) (j : Nat) : Nat → Int32 := if ¬ j = 6 then cpB s v j 120 else cpB s (shN v 600) 5 120
def Mchief (s : Nat → Int32) : Int32 := if s 4 ≤ nI 3 then (if s 4 ≤ nI 1 then nI 0 else nI 1) else nI 2
abbrev Mgoes (s : Nat → Int32) (r c : Nat) : Prop := s (13 + r) = nI 1 ∨ ¬ s (69 + (6 * r + c)) ≤ 0
abbrev Mwants (s : Nat → Int32) (r c : Nat) : Prop := ¬ s (21 + (6 * r + c)) ≤ 0
def Ment (s : Nat → Int32) : Nat → Int32
  | 0 => nI 0
  | n + 1 => Ment s n + bI (¬ s (69 + n) ≤ 0)
def Mrow (s : Nat → Int32) (c : Nat) : Nat → Int32
  | 0 => nI 0
  | n + 1 => Mrow s c n ||| (if Mgoes s n c then (nI 1 <<< (nI n &&& 31)) else nI 0)
def Mwan (s : Nat → Int32) (c : Nat) : Nat → Int32
  | 0 => nI 0
  | n + 1 => Mwan s c n ||| (if Mwants s n c then (nI 1 <<< (nI n &&& 31)) else nI 0)
def Mdue (s : Nat → Int32) : Int32 := if Mchief s = 0 then s 2 else nI 2 * s 2
def MfadeN (s : Nat → Int32) : Nat → Nat → Int32
  | 0 => s
  | n + 1 => upd (MfadeN s n) (69 + n) (MfadeN s n (69 + n) - bI (¬ MfadeN s n (69 + n) ≤ 0))
def MaskN (s : Nat → Int32) : Nat → Nat → Int32
  | 0 => s
  | n + 1 => if MaskN s n (21 + n) ≤ 0 then MaskN s n else Mcalls n (MaskN s n)
def Mt1 (s : Nat → Int32) : Nat → Int32 := upd (MfadeN s 48) 5 (MfadeN s 48 5 + nI 1)
def Mtk (s : Nat → Int32) : Nat → Int32 := upd (Mt1 s) 6 (Mt1 s 6 + nI 1)
def Mq1 (s : Nat → Int32) : Nat → Int32 := upd (upd (Mtk s) 6 (nI 0)) 10 ((upd (Mtk s) 6 (nI 0)) 10 + nI 1)
abbrev Masks (s : Nat → Int32) : Prop := ¬ Mtk s 6 < Mdue (Mtk s)
def Mgo (s : Nat → Int32) : Nat → Int32 := if ¬ Mtk s 6 < Mdue (Mtk s) then MaskN (Mq1 s) 48 else Mtk s
def MgoN (s : Nat → Int32) : Nat → Nat → Int32
  | 0 => s
  | n + 1 => Mgo (MgoN s n)
def MgoQ (s : Nat → Int32) : Nat → Int32
  | 0 => nI 0
  | n + 1 => MgoQ s n + bI (Masks (MgoN s n))
def Mp0 (s : Nat → Int32) (n c : Nat) : Nat → Int32 := upd s 7 (s 7 + bI (Mgoes s n c ∧ Mwants s n c))
def Mp1 (s : Nat → Int32) (P Q : Prop) [Decidable P] [Decidable Q] : Nat → Int32 :=
  upd (upd (upd s 7 (s 7 + bI (P ∧ Q))) 8 ((upd s 7 (s 7 + bI (P ∧ Q))) 8 + bI (P ∧ ¬ Q))) 9 ((upd (upd s 7 (s 7 + bI (P ∧ Q))) 8 ((upd s 7 (s 7 + bI (P ∧ Q))) 8 + bI (P ∧ ¬ Q))) 9 + bI (¬ P ∧ Q))
def MplayN (s : Nat → Int32) (c : Nat) : Nat → Nat → Int32
  | 0 => s
  | n + 1 => Mp1 (MplayN s c n) (Mgoes (MplayN s c n) n c) (Mwants (MplayN s c n) n c)
def MplayQ (s : Nat → Int32) (c : Nat) : Nat → Int32
  | 0 => nI 0
  | n + 1 => MplayQ s c n + bI (Mgoes (MplayN s c n) n c)
/-- how many minutes until the entry is gone, from the minute i on, m more at most -/
def Mst (s : Nat → Int32) (k : Nat) : Nat → Nat → Nat
  | i, 0 => i
  | i, m + 1 => if MgoN s i (69 + k) ≤ 0 then i else Mst s k (i + 1) m
theorem Mst_go {s : Nat → Int32} {k i : Nat} (hi : i < 150) : Mst s k i (150 - i) = if MgoN s i (69 + k) ≤ 0 then i else Mst s k (i + 1) (150 - (i + 1)) := by
  rw [show 150 - i = (150 - (i + 1)) + 1 by omega]; rfl
def Mfd (s : Nat → Int32) (k : Nat) : Int32 := if MgoN s (Mst s k 0 150) (69 + k) ≤ 0 then nI (Mst s k 0 150) else (-1)
def MasksIn (s : Nat → Int32) : Int32 := if nI 1 ≤ Mdue s - s 6 then Mdue s - s 6 else nI 1
def Mdist (s : Nat → Int32) (c : Nat) : Nat → Int32
  | 0 => nI 0
  | n + 1 => Mdist s c n + bI (Mgoes s n c ∧ ¬ Mwants s n c)
theorem in_nat {x : Int32} {a b : Nat} (ha : a < 2 ^ 31) (hb : b < 2 ^ 31) (h : nI a ≤ x ∧ x ≤ nI b) : ∃ k : Nat, (a ≤ k ∧ k ≤ b) ∧ x = nI k := by
  have h0 : ¬ x < 0 := fun z => absurd (Int32.lt_of_le_of_lt h.1 z) (nI_pos ha)
  obtain ⟨j, hj, rfl⟩ := nI_of h0
  exact ⟨j, ⟨(nI_leI ha hj).mp h.1, (nI_leI hj hb).mp h.2⟩, rfl⟩
def plM (row con : Int32) : Nat := 6 * row.toNatClampNeg + con.toNatClampNeg
theorem plM_eq {row con : Int32} {r c : Nat} (hr : r ≤ 7) (hc : c ≤ 5) (h1 : row = nI r) (h2 : con = nI c) : plM row con = 6 * r + c := by
  unfold plM
  rw [h1, h2, nI_clamp (by omega), nI_clamp (by omega)]
abbrev Mkeep (j : Nat) (m : MSt) : MSt := sMsm (sMsv m (Msv (ms m) (msv m) j)) (nI (kSz j))
abbrev conOK (con : Int32) : Prop := nI 0 ≤ con ∧ con ≤ nI 5
abbrev minOK (x : Int32) : Prop := nI 1 ≤ x ∧ x ≤ nI 60
def Mcome (j : Nat) (row con : Int32) (m : MSt) : MSt := if pairOK row con then (if ms m (21 + plM row con) = nI 9 then sMth m (nI 2) else sMs (Mkeep j (sMth m (nI 0))) (Mcomes (plM row con) (ms m))) else sMth m (nI 1)
def McomeR (row con : Int32) (m : MSt) : Int32 := if pairOK row con then (if ms m (21 + plM row con) = nI 9 then nI 0 else Mcomes (plM row con) (ms m) (21 + plM row con)) else nI 0
def Mleave (j : Nat) (row con : Int32) (b : Nat) (m : MSt) : MSt := if pairOK row con then (if ¬ ms m (21 + plM row con) = 0 then sMs (Mkeep j (sMth m (nI 0))) (Mleaves (plM row con) b (ms m)) else sMth m (nI 2)) else sMth m (nI 1)
def MleaveR (row con : Int32) (b : Nat) (m : MSt) : Int32 := if pairOK row con then (if ¬ ms m (21 + plM row con) = 0 then Mleaves (plM row con) b (ms m) (21 + plM row con) else nI 0) else nI 0
def Mpair (row con : Int32) (m : MSt) : MSt := if pairOK row con then sMth m (nI 0) else sMth m (nI 1)
def Mcon (con : Int32) (m : MSt) : MSt := if conOK con then sMth m (nI 0) else sMth m (nI 1)
def MlisR (row con : Int32) (m : MSt) : Int32 := if pairOK row con then ms m (21 + plM row con) else nI 0
def MrestR (row con : Int32) (m : MSt) : Int32 := if pairOK row con then ms m (69 + plM row con) else nI 0
abbrev rowOK (row : Int32) : Prop := nI 0 ≤ row ∧ row ≤ nI 7
def MopenS (j : Nat) (row : Int32) (b : Nat) (m : MSt) : MSt := if rowOK row then sMs (Mkeep j (sMth m (nI 0))) (upd (ms m) (13 + row.toNatClampNeg) (nI b)) else sMth m (nI 1)
def MopenR (row : Int32) (m : MSt) : Int32 := if rowOK row then bI (ms m (13 + row.toNatClampNeg) = nI 1) else nI 0
def MopenQ (row : Int32) (m : MSt) : MSt := if rowOK row then sMth m (nI 0) else sMth m (nI 1)
def MtimesS (j : Nat) (a b c : Int32) (m : MSt) : MSt := if nI 2 ≤ a ∧ a ≤ nI 60 then (if nI 1 ≤ b ∧ b ≤ nI 10 then (if nI 1 ≤ c ∧ c ≤ nI 30 then sMs (Mkeep j (sMth m (nI 0))) (upd (upd (upd (ms m) 0 a) 1 b) 2 c) else sMth m (nI 1)) else sMth m (nI 1)) else sMth m (nI 1)
def MtimesR (a b c : Int32) (m : MSt) : Int32 := if nI 2 ≤ a ∧ a ≤ nI 60 then (if nI 1 ≤ b ∧ b ≤ nI 10 then (if nI 1 ≤ c ∧ c ≤ nI 30 then ms m 0 else nI 0) else nI 0) else nI 0
def Mpres (u : Int32) (b : Nat) (s : Nat → Int32) : Nat → Int32 := upd s 4 ((s 4 &&& ((nI 1 <<< (u &&& 31)) ^^^ (-1))) ||| (if b = 0 then nI 0 else (nI 1 <<< (u &&& 31))))
def MpresS (j : Nat) (u : Int32) (b : Nat) (m : MSt) : MSt := if nI 1 ≤ u ∧ u ≤ nI 2 then sMs (Mkeep j (sMth m (nI 0))) (Mpres u b (ms m)) else sMth m (nI 1)
def MpresR (u : Int32) (b : Nat) (m : MSt) : Int32 := if nI 1 ≤ u ∧ u ≤ nI 2 then Mchief (Mpres u b (ms m)) else nI 0
def MrowsR (con : Int32) (m : MSt) : Int32 := if conOK con then Mrow (ms m) con.toNatClampNeg 8 else nI 0
def MwanR (con : Int32) (m : MSt) : Int32 := if conOK con then Mwan (ms m) con.toNatClampNeg 8 else nI 0
def MpassS (j : Nat) (x : Int32) (m : MSt) : MSt := if minOK x then sMs (Mkeep j (sMth m (nI 0))) (MgoN (ms m) x.toNatClampNeg) else sMth m (nI 1)
def MpassR (x : Int32) (m : MSt) : Int32 := if minOK x then MgoQ (ms m) x.toNatClampNeg else nI 0
def MplayS (j : Nat) (con : Int32) (m : MSt) : MSt := if conOK con then sMs (Mkeep j (sMth m (nI 0))) (MplayN (ms m) con.toNatClampNeg 8) else sMth m (nI 1)
def MplayR (con : Int32) (m : MSt) : Int32 := if conOK con then MplayQ (ms m) con.toNatClampNeg 8 else nI 0
def McntS (x : Int32) (m : MSt) : MSt := if nI 0 ≤ x ∧ x ≤ nI 5 then sMth m (nI 0) else sMth m (nI 1)
def McntR (x : Int32) (m : MSt) : Int32 := if nI 0 ≤ x ∧ x ≤ nI 5 then ms m (7 + x.toNatClampNeg) else nI 0
def MfadeS (row con : Int32) (m : MSt) : MSt := if pairOK row con then sMas (sMth m (nI 0)) (ms m) else sMth m (nI 1)
def MfadeR (row con : Int32) (m : MSt) : Int32 := if pairOK row con then Mfd (ms m) (plM row con) else nI 0
def MdistS (con x : Int32) (m : MSt) : MSt := if conOK con then (if minOK x then sMas (sMth m (nI 0)) (ms m) else sMth m (nI 2)) else sMth m (nI 1)
def MdistR (con x : Int32) (m : MSt) : Int32 := if conOK con then (if minOK x then Mdist (MgoN (ms m) x.toNatClampNeg) con.toNatClampNeg 8 else nI 0) else nI 0
abbrev codeOK (x : Int32) : Prop := nI 33 ≤ x ∧ x ≤ nI 126
def MappS (n : Nat) (x : Int32) (m : MSt) : MSt := if codeOK x then (if n = 60 then sMth m (nI 2) else sMln (sMbf (sMth m (nI 0)) (upd (mbf m) n x)) (nI (n + 1))) else sMth m (nI 1)
def MappR (n : Nat) (x : Int32) : Int32 := if codeOK x then (if n = 60 then nI 0 else nI (n + 1)) else nI 0
def MundoS (j : Nat) (m : MSt) : MSt := if j = 0 then sMth m (nI 1) else sMs (sMsm (sMth m (nI 0)) (nI (j - 1))) (cpN (fun k => msv m (120 * (j - 1) + k)) (ms m) 120)
def MundoR (j : Nat) : Int32 := if j = 0 then nI 0 else nI (j - 1)
def MdgC (f : Nat → Int32) (x : Int64) : Nat → Int64
  | 0 => x
  | n + 1 => mixI (MdgC f x n) (f (7 + n))
def MdgM (s : Nat → Int32) (x : Int64) : Nat → Int64
  | 0 => x
  | n + 1 => mixI (mixI (MdgM s x n) (Mrow s n 8)) (Mwan s n 8)
def MdgK1 (s : Nat → Int32) (x : Int64) (n : Nat) : Int64 := if n % 6 = 0 then mixI x (s (13 + n / 6)) else x
def MdgK (s : Nat → Int32) (x : Int64) : Nat → Int64
  | 0 => x
  | n + 1 => mixI (mixI (mixI (MdgK1 s (MdgK s x n) n) (s (21 + n))) (s (69 + n))) (Mfd s n)
def Mdig (s : Nat → Int32) : Int64 := MdgK s (MdgM s (MdgC s (mixI (mixI (mixI (mixI (mixI 4701 (s 5)) (s 6)) (Mchief s)) (Ment s 48)) (MasksIn s)) 6) 6) 48
def MdigS (m : MSt) : MSt := sMas (sMhs (sMth m (nI 0)) (Mdig (ms m))) (ms m)
def Bq (bf : Nat → Int32) (n a : Nat) : Nat := if n ≤ a then 0 else (bf a).toNatClampNeg
theorem Bq_lt {bf : Nat → Int32} {n : Nat} (h : Tok bf n) (a : Nat) : Bq bf n a < 65536 := by
  unfold Bq
  by_cases c : n ≤ a
  · rw [if_pos c]; decide
  · rw [if_neg c]; exact (Tok_cl h (by omega)).2
theorem Bq_lt31 {bf : Nat → Int32} {n : Nat} (h : Tok bf n) (a : Nat) : Bq bf n a < 2 ^ 31 := Nat.lt_of_lt_of_le (Bq_lt h a) (by decide)
theorem Bq_in {bf : Nat → Int32} {n a : Nat} (h : Bq bf n a ≠ 0) : a < n := by
  unfold Bq at h
  by_cases c : n ≤ a
  · rw [if_pos c] at h; exact absurd rfl h
  · omega
def figW (w q lo hi : Nat) : Nat := if w = 0 then 0 else if nI (48 + lo) ≤ nI q ∧ nI q ≤ nI (48 + hi) then 1 else 0
theorem figW_lt (w q lo hi : Nat) : figW w q lo hi < 2 := by unfold figW; (repeat' split) <;> omega
theorem figW_lt31 (w q lo hi : Nat) : figW w q lo hi < 2 ^ 31 := Nat.lt_trans (figW_lt w q lo hi) (by decide)
theorem figW_1 {w q lo hi : Nat} (hq : q < 65536) (hlo : lo ≤ 9) (hhi : hi ≤ 9) (h : figW w q lo hi ≠ 0) : w ≠ 0 ∧ 48 + lo ≤ q ∧ q ≤ 48 + hi := by
  unfold figW at h
  by_cases c : w = 0
  · rw [if_pos c] at h; exact absurd rfl h
  · rw [if_neg c] at h
    by_cases d : nI (48 + lo) ≤ nI q ∧ nI q ≤ nI (48 + hi)
    · exact ⟨c, (nI_leI (by omega) (by omega)).mp d.1, (nI_leI (by omega) (by omega)).mp d.2⟩
    · rw [if_neg d] at h; exact absurd rfl h
theorem figW_t {w q lo hi : Nat} (hq : q < 65536) (hlo : lo ≤ 9) (hhi : hi ≤ 9) (hw : w ≠ 0) (h1 : 48 + lo ≤ q) (h2 : q ≤ 48 + hi) : figW w q lo hi = 1 := by
  unfold figW
  rw [if_neg hw, if_pos ⟨(nI_leI (by omega) (by omega)).mpr h1, (nI_leI (by omega) (by omega)).mpr h2⟩]
theorem figW_f {w q lo hi : Nat} (hq : q < 65536) (hlo : lo ≤ 9) (hhi : hi ≤ 9) (h : ¬ (w ≠ 0 ∧ 48 + lo ≤ q ∧ q ≤ 48 + hi)) : figW w q lo hi = 0 := by
  by_cases c : figW w q lo hi = 0
  · exact c
  · exact absurd (figW_1 hq hlo hhi c) h
/-- the number's first figure as it is -/
def numF (bf : Nat → Int32) (n a : Nat) : Int32 := nI (Bq bf n a) - nI 48
def numW (bf : Nat → Int32) (n a w : Nat) : Nat := figW w (Bq bf n a) 1 9
abbrev numX (bf : Nat → Int32) (n a w : Nat) : Int32 := nI 10 * (nI (Bq bf n a) - nI 48) + nI (Bq bf n (a + figW w (Bq bf n a) 1 9)) - nI 48
abbrev numP (bf : Nat → Int32) (n a w : Nat) : Prop := nI 48 ≤ nI (Bq bf n (a + figW w (Bq bf n a) 1 9)) ∧ nI (Bq bf n (a + figW w (Bq bf n a) 1 9)) ≤ nI 57
def numV (bf : Nat → Int32) (n a w : Nat) : Int32 := if figW w (Bq bf n a) 1 9 = 0 then nI (Bq bf n a) - nI 48 else if numP bf n a w then (if nI 60 < numX bf n a w then nI (Bq bf n a) - nI 48 else numX bf n a w) else nI (Bq bf n a) - nI 48
def numA (bf : Nat → Int32) (n a w : Nat) : Nat := if figW w (Bq bf n a) 1 9 = 0 then a + figW w (Bq bf n a) 1 9 else if numP bf n a w then (if nI 60 < numX bf n a w then a + figW w (Bq bf n a) 1 9 else a + figW w (Bq bf n a) 1 9 + 1) else a + figW w (Bq bf n a) 1 9
def evW (q : Nat) : Nat := if q = 99 then 1 else if q = 108 then 1 else if q = 115 then 1 else if q = 112 then 1 else if q = 116 then 1 else if q = 111 then 1 else 0
theorem evW_lt (q : Nat) : evW q < 2 := by unfold evW; (repeat' split) <;> omega
abbrev RSt := Nat × Nat × Nat × (Nat → Int32)
def MR (m : MSt) (t : RSt) : MSt := sMrm (sMrd (sMat (sMiw m (nI t.2.1)) (nI t.1)) t.2.2.2) (nI t.2.2.1)
def rT (bf : Nat → Int32) (n a w q r : Nat) (rd : Nat → Int32) : RSt := (numA bf n a w, figW w (Bq bf n a) 1 9, r + figW w (Bq bf n a) 1 9, upd (upd rd (3 * r) (nI q)) (3 * r + 1) (numV bf n a w))
def rO (bf : Nat → Int32) (n a w q r hi : Nat) (rd : Nat → Int32) : RSt := (a + figW w (Bq bf n a) 0 hi, figW w (Bq bf n a) 0 hi, r + figW w (Bq bf n a) 0 hi, upd (upd rd (3 * r) (nI q)) (3 * r + 1) (nI (Bq bf n a) - nI 48))
def rC2 (bf : Nat → Int32) (n a w q r : Nat) (rd : Nat → Int32) (b : Nat) : RSt := (b + figW (figW w (Bq bf n a) 0 7) (Bq bf n b) 0 5, figW (figW w (Bq bf n a) 0 7) (Bq bf n b) 0 5, r + figW (figW w (Bq bf n a) 0 7) (Bq bf n b) 0 5, upd (upd (upd rd (3 * r) (nI q)) (3 * r + 1) (nI (Bq bf n a) - nI 48)) (3 * r + 2) (nI (Bq bf n b) - nI 48))
def rC (bf : Nat → Int32) (n a w q r : Nat) (rd : Nat → Int32) : RSt := rC2 bf n a w q r rd (a + figW w (Bq bf n a) 0 7)
def rEv (bf : Nat → Int32) (n a r : Nat) (rd : Nat → Int32) : RSt :=
  if Bq bf n a = 116 then rT bf n (a + evW (Bq bf n a)) (evW (Bq bf n a)) (Bq bf n a) r rd
  else if Bq bf n a = 112 then rO bf n (a + evW (Bq bf n a)) (evW (Bq bf n a)) (Bq bf n a) r 5 rd
  else if Bq bf n a = 99 then rC bf n (a + evW (Bq bf n a)) (evW (Bq bf n a)) (Bq bf n a) r rd
  else if Bq bf n a = 108 then rC bf n (a + evW (Bq bf n a)) (evW (Bq bf n a)) (Bq bf n a) r rd
  else if Bq bf n a = 115 then rC bf n (a + evW (Bq bf n a)) (evW (Bq bf n a)) (Bq bf n a) r rd
  else rO bf n (a + evW (Bq bf n a)) (evW (Bq bf n a)) (Bq bf n a) r 7 rd
def rStep (bf : Nat → Int32) (n : Nat) (t : RSt) : RSt := if Bq bf n t.1 = 59 then rEv bf n (t.1 + 1) t.2.2.1 t.2.2.2 else (t.1, 0, t.2.2.1, t.2.2.2)
def rS (bf : Nat → Int32) (n : Nat) (rd : Nat → Int32) : Nat → RSt
  | 0 => rEv bf n 0 0 rd
  | i + 1 => rStep bf n (rS bf n rd i)
abbrev rGo (n : Nat) (t : RSt) : Prop := ¬ t.2.1 = 0 ∧ t.1 < n
def rdEnd (bf : Nat → Int32) (n : Nat) (rd : Nat → Int32) : Nat → Nat → Nat
  | i, 0 => i
  | i, m + 1 => if rGo n (rS bf n rd i) then rdEnd bf n rd (i + 1) m else i
theorem rdEnd_go {bf : Nat → Int32} {n i : Nat} {rd : Nat → Int32} (hi : i < 100) : rdEnd bf n rd i (100 - i) = if rGo n (rS bf n rd i) then rdEnd bf n rd (i + 1) (100 - (i + 1)) else i := by
  rw [show 100 - i = (100 - (i + 1)) + 1 by omega]; rfl
def rFin (bf : Nat → Int32) (n : Nat) (rd : Nat → Int32) : RSt := rS bf n rd (rdEnd bf n rd 0 100)
def rOK (n : Nat) (t : RSt) (i : Nat) : Prop := t.2.1 < 2 ∧ t.1 ≤ n ∧ 3 * t.2.2.1 ≤ t.1 + 1 ∧ i ≤ t.1 + 1 ∧ (t.2.1 ≠ 0 → i ≤ t.1)
theorem evW_in {q : Nat} (h : evW q ≠ 0) : q = 99 ∨ q = 108 ∨ q = 115 ∨ q = 112 ∨ q = 116 ∨ q = 111 := by
  unfold evW at h
  by_cases c1 : q = 99
  · exact Or.inl c1
  by_cases c2 : q = 108
  · exact Or.inr (Or.inl c2)
  by_cases c3 : q = 115
  · exact Or.inr (Or.inr (Or.inl c3))
  by_cases c4 : q = 112
  · exact Or.inr (Or.inr (Or.inr (Or.inl c4)))
  by_cases c5 : q = 116
  · exact Or.inr (Or.inr (Or.inr (Or.inr (Or.inl c5))))
  by_cases c6 : q = 111
  · exact Or.inr (Or.inr (Or.inr (Or.inr (Or.inr c6))))
  rw [if_neg c1, if_neg c2, if_neg c3, if_neg c4, if_neg c5, if_neg c6] at h
  exact absurd rfl h
theorem numA_le (bf : Nat → Int32) (n a w : Nat) : numA bf n a w ≤ a + 2 := by
  have h := figW_lt w (Bq bf n a) 1 9
  unfold numA
  (repeat' split) <;> omega
/-- what a step of the reader keeps: k = 0 or the figure at b is there -/
theorem fig_step {bf : Nat → Int32} {n : Nat} (hbf : Tok bf n) (w b lo hi : Nat) (hlo : lo ≤ 9) (hhi : hi ≤ 9) (hb : b ≤ n) : b + figW w (Bq bf n b) lo hi ≤ n ∧ (figW w (Bq bf n b) lo hi ≠ 0 → w ≠ 0) := by
  have h1 := figW_lt w (Bq bf n b) lo hi
  by_cases c : figW w (Bq bf n b) lo hi = 0
  · exact ⟨by omega, fun z => absurd c z⟩
  · have h2 := figW_1 (Bq_lt hbf b) hlo hhi c
    have h3 : b < n := Bq_in (bf := bf) (by omega)
    exact ⟨by omega, fun _ => h2.1⟩
theorem num_step {bf : Nat → Int32} {n : Nat} (hbf : Tok bf n) (w b : Nat) (hb : b ≤ n) : numA bf n b w ≤ n ∧ b + figW w (Bq bf n b) 1 9 ≤ numA bf n b w := by
  have h1 := (fig_step hbf w b 1 9 (by decide) (by decide) hb).1
  unfold numA
  by_cases c : figW w (Bq bf n b) 1 9 = 0
  · rw [if_pos c]; exact ⟨h1, Nat.le_refl _⟩
  · rw [if_neg c]
    by_cases d : numP bf n b w
    · rw [if_pos d]
      by_cases e : nI 60 < numX bf n b w
      · rw [if_pos e]; exact ⟨h1, Nat.le_refl _⟩
      · rw [if_neg e]
        have h3 : 48 ≤ Bq bf n (b + figW w (Bq bf n b) 1 9) := (nI_leI (by decide) (Bq_lt31 hbf _)).mp d.1
        have h4 : b + figW w (Bq bf n b) 1 9 < n := Bq_in (bf := bf) (by omega)
        exact ⟨h4, Nat.le_succ _⟩
    · rw [if_neg d]; exact ⟨h1, Nat.le_refl _⟩
theorem rEv_step {bf : Nat → Int32} {n : Nat} (hbf : Tok bf n) (a r : Nat) (rd : Nat → Int32) (ha : a ≤ n) : (rEv bf n a r rd).2.1 < 2 ∧ a ≤ (rEv bf n a r rd).1 ∧ (rEv bf n a r rd).1 ≤ n ∧ (rEv bf n a r rd).2.2.1 = r + (rEv bf n a r rd).2.1 ∧ a + 2 * (rEv bf n a r rd).2.1 ≤ (rEv bf n a r rd).1 := by
  have h0 : a + evW (Bq bf n a) ≤ n := by
    have h1 := evW_lt (Bq bf n a)
    by_cases c : evW (Bq bf n a) = 0
    · omega
    · have h2 := evW_in c
      have h3 : a < n := Bq_in (bf := bf) (by omega)
      omega
  have k1 : ∀ w : Nat, w = evW (Bq bf n a) → ∀ hi : Nat, hi ≤ 9 → (figW w (Bq bf n (a + w)) 0 hi < 2 ∧ a + w + figW w (Bq bf n (a + w)) 0 hi ≤ n ∧ a + 2 * figW w (Bq bf n (a + w)) 0 hi ≤ a + w + figW w (Bq bf n (a + w)) 0 hi) := by
    intro w hw hi hhi
    have h1 := figW_lt w (Bq bf n (a + w)) 0 hi
    have h2 := fig_step hbf w (a + w) 0 hi (by decide) hhi (by rw [hw]; exact h0)
    refine ⟨h1, h2.1, ?_⟩
    by_cases c : figW w (Bq bf n (a + w)) 0 hi = 0
    · omega
    · have := h2.2 c; omega
  have kC : (rC bf n (a + evW (Bq bf n a)) (evW (Bq bf n a)) (Bq bf n a) r rd).2.1 < 2 ∧ a ≤ (rC bf n (a + evW (Bq bf n a)) (evW (Bq bf n a)) (Bq bf n a) r rd).1 ∧ (rC bf n (a + evW (Bq bf n a)) (evW (Bq bf n a)) (Bq bf n a) r rd).1 ≤ n ∧ (rC bf n (a + evW (Bq bf n a)) (evW (Bq bf n a)) (Bq bf n a) r rd).2.2.1 = r + (rC bf n (a + evW (Bq bf n a)) (evW (Bq bf n a)) (Bq bf n a) r rd).2.1 ∧ a + 2 * (rC bf n (a + evW (Bq bf n a)) (evW (Bq bf n a)) (Bq bf n a) r rd).2.1 ≤ (rC bf n (a + evW (Bq bf n a)) (evW (Bq bf n a)) (Bq bf n a) r rd).1 := by
    obtain ⟨p1, p2, p3⟩ := k1 _ rfl 7 (by decide)
    show figW (figW (evW (Bq bf n a)) (Bq bf n (a + evW (Bq bf n a))) 0 7) (Bq bf n (a + evW (Bq bf n a) + figW (evW (Bq bf n a)) (Bq bf n (a + evW (Bq bf n a))) 0 7)) 0 5 < 2 ∧ a ≤ a + evW (Bq bf n a) + figW (evW (Bq bf n a)) (Bq bf n (a + evW (Bq bf n a))) 0 7 + figW (figW (evW (Bq bf n a)) (Bq bf n (a + evW (Bq bf n a))) 0 7) (Bq bf n (a + evW (Bq bf n a) + figW (evW (Bq bf n a)) (Bq bf n (a + evW (Bq bf n a))) 0 7)) 0 5 ∧ a + evW (Bq bf n a) + figW (evW (Bq bf n a)) (Bq bf n (a + evW (Bq bf n a))) 0 7 + figW (figW (evW (Bq bf n a)) (Bq bf n (a + evW (Bq bf n a))) 0 7) (Bq bf n (a + evW (Bq bf n a) + figW (evW (Bq bf n a)) (Bq bf n (a + evW (Bq bf n a))) 0 7)) 0 5 ≤ n ∧ r + figW (figW (evW (Bq bf n a)) (Bq bf n (a + evW (Bq bf n a))) 0 7) (Bq bf n (a + evW (Bq bf n a) + figW (evW (Bq bf n a)) (Bq bf n (a + evW (Bq bf n a))) 0 7)) 0 5 = r + figW (figW (evW (Bq bf n a)) (Bq bf n (a + evW (Bq bf n a))) 0 7) (Bq bf n (a + evW (Bq bf n a) + figW (evW (Bq bf n a)) (Bq bf n (a + evW (Bq bf n a))) 0 7)) 0 5 ∧ a + 2 * figW (figW (evW (Bq bf n a)) (Bq bf n (a + evW (Bq bf n a))) 0 7) (Bq bf n (a + evW (Bq bf n a) + figW (evW (Bq bf n a)) (Bq bf n (a + evW (Bq bf n a))) 0 7)) 0 5 ≤ a + evW (Bq bf n a) + figW (evW (Bq bf n a)) (Bq bf n (a + evW (Bq bf n a))) 0 7 + figW (figW (evW (Bq bf n a)) (Bq bf n (a + evW (Bq bf n a))) 0 7) (Bq bf n (a + evW (Bq bf n a) + figW (evW (Bq bf n a)) (Bq bf n (a + evW (Bq bf n a))) 0 7)) 0 5
    generalize figW (evW (Bq bf n a)) (Bq bf n (a + evW (Bq bf n a))) 0 7 = w1 at p1 p2 p3 ⊢
    generalize a + evW (Bq bf n a) = a1 at p2 p3 ⊢
    have h1 := figW_lt w1 (Bq bf n (a1 + w1)) 0 5
    have h2 := fig_step hbf w1 (a1 + w1) 0 5 (by decide) (by decide) p2
    generalize figW w1 (Bq bf n (a1 + w1)) 0 5 = w2 at h1 h2 ⊢
    by_cases c : w2 = 0
    · exact ⟨h1, by omega, h2.1, rfl, by omega⟩
    · have := h2.2 c
      exact ⟨h1, by omega, h2.1, rfl, by omega⟩
  have kO : ∀ hi : Nat, hi ≤ 9 → ((rO bf n (a + evW (Bq bf n a)) (evW (Bq bf n a)) (Bq bf n a) r hi rd).2.1 < 2 ∧ a ≤ (rO bf n (a + evW (Bq bf n a)) (evW (Bq bf n a)) (Bq bf n a) r hi rd).1 ∧ (rO bf n (a + evW (Bq bf n a)) (evW (Bq bf n a)) (Bq bf n a) r hi rd).1 ≤ n ∧ (rO bf n (a + evW (Bq bf n a)) (evW (Bq bf n a)) (Bq bf n a) r hi rd).2.2.1 = r + (rO bf n (a + evW (Bq bf n a)) (evW (Bq bf n a)) (Bq bf n a) r hi rd).2.1 ∧ a + 2 * (rO bf n (a + evW (Bq bf n a)) (evW (Bq bf n a)) (Bq bf n a) r hi rd).2.1 ≤ (rO bf n (a + evW (Bq bf n a)) (evW (Bq bf n a)) (Bq bf n a) r hi rd).1) := by
    intro hi hhi
    obtain ⟨p1, p2, p3⟩ := k1 _ rfl hi hhi
    exact ⟨p1, by show a ≤ a + evW (Bq bf n a) + figW (evW (Bq bf n a)) (Bq bf n (a + evW (Bq bf n a))) 0 hi; omega, p2, rfl, p3⟩
  unfold rEv
  by_cases c1 : Bq bf n a = 116
  · rw [if_pos c1]
    have h1 := figW_lt (evW (Bq bf n a)) (Bq bf n (a + evW (Bq bf n a))) 1 9
    have h2 := fig_step hbf (evW (Bq bf n a)) (a + evW (Bq bf n a)) 1 9 (by decide) (by decide) h0
    have h3 := num_step hbf (evW (Bq bf n a)) (a + evW (Bq bf n a)) h0
    refine ⟨h1, ?_, h3.1, rfl, ?_⟩
    · show a ≤ numA bf n (a + evW (Bq bf n a)) (evW (Bq bf n a)); omega
    · show a + 2 * figW (evW (Bq bf n a)) (Bq bf n (a + evW (Bq bf n a))) 1 9 ≤ numA bf n (a + evW (Bq bf n a)) (evW (Bq bf n a))
      by_cases c : figW (evW (Bq bf n a)) (Bq bf n (a + evW (Bq bf n a))) 1 9 = 0
      · omega
      · have := h2.2 c; omega
  rw [if_neg c1]
  by_cases c2 : Bq bf n a = 112
  · rw [if_pos c2]; exact kO 5 (by decide)
  rw [if_neg c2]
  by_cases c3 : Bq bf n a = 99
  · rw [if_pos c3]; exact kC
  rw [if_neg c3]
  by_cases c4 : Bq bf n a = 108
  · rw [if_pos c4]; exact kC
  rw [if_neg c4]
  by_cases c5 : Bq bf n a = 115
  · rw [if_pos c5]; exact kC
  rw [if_neg c5]; exact kO 7 (by decide)
theorem rOK_0 {bf : Nat → Int32} {n : Nat} (hbf : Tok bf n) (rd : Nat → Int32) : rOK n (rS bf n rd 0) 0 := by
  obtain ⟨h1, h2, h3, h4, h5⟩ := rEv_step hbf 0 0 rd (Nat.zero_le n)
  exact ⟨h1, h3, by show 3 * (rEv bf n 0 0 rd).2.2.1 ≤ (rEv bf n 0 0 rd).1 + 1; omega, Nat.zero_le _, fun _ => Nat.zero_le _⟩
theorem rOK_s {bf : Nat → Int32} {n i : Nat} {rd : Nat → Int32} (hbf : Tok bf n) (h : rOK n (rS bf n rd i) i) (hw : ¬ (rS bf n rd i).2.1 = 0) (ha : (rS bf n rd i).1 < n) : rOK n (rS bf n rd (i + 1)) (i + 1) := by
  obtain ⟨g1, g2, g3, g4, g5⟩ := h
  have g6 := g5 hw
  show rOK n (rStep bf n (rS bf n rd i)) (i + 1)
  generalize rS bf n rd i = t at g1 g2 g3 g4 g5 g6 hw ha ⊢
  unfold rStep
  by_cases c : Bq bf n t.1 = 59
  · rw [if_pos c]
    obtain ⟨h1, h2, h3, h4, h5⟩ := rEv_step hbf (t.1 + 1) t.2.2.1 t.2.2.2 ha
    exact ⟨h1, h3, by omega, by omega, fun _ => by omega⟩
  · rw [if_neg c]
    exact ⟨Nat.zero_lt_two, g2, g3, by show i + 1 ≤ t.1 + 1; omega, fun z => absurd rfl z⟩
theorem rOK_lt {n i : Nat} {t : RSt} (hn : n ≤ 60) (h : rOK n t i) : i < 100 := by obtain ⟨g1, g2, g3, g4, g5⟩ := h; omega
def rdP (rd : Nat → Int32) (k : Nat) : Prop := ∃ x y : Nat, x < 8 ∧ y < 6 ∧ rd (k + 1) = nI x ∧ rd (k + 2) = nI y
def rdOK (rd : Nat → Int32) (k : Nat) : Prop :=
  (rd k = nI 99 ∧ rdP rd k) ∨ (rd k = nI 108 ∧ rdP rd k) ∨ (rd k = nI 115 ∧ rdP rd k) ∨ (rd k = nI 112 ∧ ∃ x : Nat, x < 6 ∧ rd (k + 1) = nI x) ∨ (rd k = nI 116 ∧ ∃ x : Nat, (1 ≤ x ∧ x ≤ 60) ∧ rd (k + 1) = nI x) ∨ (rd k = nI 111 ∧ ∃ x : Nat, x < 8 ∧ rd (k + 1) = nI x)
theorem rdOK_congr {rd rd' : Nat → Int32} {k : Nat} (h0 : rd' k = rd k) (h1 : rd' (k + 1) = rd (k + 1)) (h2 : rd' (k + 2) = rd (k + 2)) (h : rdOK rd k) : rdOK rd' k := by
  unfold rdOK rdP at *
  rw [h0, h1, h2]; exact h
theorem num_val {bf : Nat → Int32} {n : Nat} (hbf : Tok bf n) (a w : Nat) (h : figW w (Bq bf n a) 1 9 ≠ 0) : ∃ x : Nat, (1 ≤ x ∧ x ≤ 60) ∧ numV bf n a w = nI x := by
  have h2 := figW_1 (Bq_lt hbf a) (by decide) (by decide) h
  have e1 : nI (Bq bf n a) - nI 48 = nI (Bq bf n a - 48) := pk_sub (by omega)
  unfold numV
  rw [if_neg h]
  by_cases d : numP bf n a w
  · rw [if_pos d]
    by_cases e : nI 60 < numX bf n a w
    · rw [if_pos e]; exact ⟨_, ⟨by omega, by omega⟩, e1⟩
    · rw [if_neg e]
      have h3 : 48 ≤ Bq bf n (a + figW w (Bq bf n a) 1 9) := (nI_leI (by decide) (Bq_lt31 hbf _)).mp d.1
      have h4 : Bq bf n (a + figW w (Bq bf n a) 1 9) ≤ 57 := (nI_leI (Bq_lt31 hbf _) (by decide)).mp d.2
      have e2 : numX bf n a w = nI (10 * (Bq bf n a - 48) + Bq bf n (a + figW w (Bq bf n a) 1 9) - 48) := by
        unfold numX
        rw [e1, pk_mul, nI_add, pk_sub (by omega)]
      rw [e2] at e ⊢
      refine ⟨_, ⟨by omega, ?_⟩, rfl⟩
      exact Nat.le_of_not_lt fun z => e ((nI_ltI (by decide) (by omega)).mpr z)
  · rw [if_neg d]; exact ⟨_, ⟨by omega, by omega⟩, e1⟩
theorem rEv_ok {bf : Nat → Int32} {n : Nat} (hbf : Tok bf n) (a r : Nat) (rd : Nat → Int32) (hall : ∀ i, i < r → rdOK rd (3 * i)) : ∀ i, i < (rEv bf n a r rd).2.2.1 → rdOK (rEv bf n a r rd).2.2.2 (3 * i) := by
  have fig1 : ∀ w b hi : Nat, hi ≤ 9 → figW w (Bq bf n b) 0 hi ≠ 0 → w ≠ 0 ∧ ∃ x : Nat, x ≤ hi ∧ nI (Bq bf n b) - nI 48 = nI x := by
    intro w b hi hhi h
    have h2 := figW_1 (Bq_lt hbf b) (by decide) hhi h
    exact ⟨h2.1, Bq bf n b - 48, by omega, pk_sub (by omega)⟩
  have kT : Bq bf n a = 116 → ∀ i, i < (rT bf n (a + evW (Bq bf n a)) (evW (Bq bf n a)) (Bq bf n a) r rd).2.2.1 → rdOK (rT bf n (a + evW (Bq bf n a)) (evW (Bq bf n a)) (Bq bf n a) r rd).2.2.2 (3 * i) := by
    intro hq i hi
    show rdOK (upd (upd rd (3 * r) (nI (Bq bf n a))) (3 * r + 1) (numV bf n (a + evW (Bq bf n a)) (evW (Bq bf n a)))) (3 * i)
    have hi : i < r + figW (evW (Bq bf n a)) (Bq bf n (a + evW (Bq bf n a))) 1 9 := hi
    have h1 := figW_lt (evW (Bq bf n a)) (Bq bf n (a + evW (Bq bf n a))) 1 9
    by_cases c : i < r
    · exact rdOK_congr (by rw [pk_un (by omega), pk_un (by omega)]) (by rw [pk_un (by omega), pk_un (by omega)]) (by rw [pk_un (by omega), pk_un (by omega)]) (hall i c)
    · obtain rfl : i = r := by omega
      obtain ⟨x, hx, ex⟩ := num_val hbf (a + evW (Bq bf n a)) (evW (Bq bf n a)) (by omega)
      refine Or.inr (Or.inr (Or.inr (Or.inr (Or.inl ⟨?_, x, hx, ?_⟩))))
      · rw [pk_un (by omega), pk_us, hq]
      · rw [pk_us, ex]
  have kO : ∀ hi : Nat, (hi = 5 ∧ Bq bf n a = 112) ∨ (hi = 7 ∧ (evW (Bq bf n a) ≠ 0 → Bq bf n a = 111)) → ∀ i, i < (rO bf n (a + evW (Bq bf n a)) (evW (Bq bf n a)) (Bq bf n a) r hi rd).2.2.1 → rdOK (rO bf n (a + evW (Bq bf n a)) (evW (Bq bf n a)) (Bq bf n a) r hi rd).2.2.2 (3 * i) := by
    intro hi hq i hlt
    show rdOK (upd (upd rd (3 * r) (nI (Bq bf n a))) (3 * r + 1) (nI (Bq bf n (a + evW (Bq bf n a))) - nI 48)) (3 * i)
    have hlt : i < r + figW (evW (Bq bf n a)) (Bq bf n (a + evW (Bq bf n a))) 0 hi := hlt
    have h1 := figW_lt (evW (Bq bf n a)) (Bq bf n (a + evW (Bq bf n a))) 0 hi
    by_cases c : i < r
    · exact rdOK_congr (by rw [pk_un (by omega), pk_un (by omega)]) (by rw [pk_un (by omega), pk_un (by omega)]) (by rw [pk_un (by omega), pk_un (by omega)]) (hall i c)
    · obtain rfl : i = r := by omega
      obtain ⟨hw, x, hx, ex⟩ := fig1 (evW (Bq bf n a)) (a + evW (Bq bf n a)) hi (by omega) (by omega)
      rcases hq with ⟨rfl, hq⟩ | ⟨rfl, hq⟩
      · refine Or.inr (Or.inr (Or.inr (Or.inl ⟨?_, x, by omega, ?_⟩)))
        · rw [pk_un (by omega), pk_us, hq]
        · rw [pk_us, ex]
      · refine Or.inr (Or.inr (Or.inr (Or.inr (Or.inr ⟨?_, x, by omega, ?_⟩))))
        · rw [pk_un (by omega), pk_us, hq hw]
        · rw [pk_us, ex]
  have kC : (Bq bf n a = 99 ∨ Bq bf n a = 108 ∨ Bq bf n a = 115) → ∀ i, i < (rC bf n (a + evW (Bq bf n a)) (evW (Bq bf n a)) (Bq bf n a) r rd).2.2.1 → rdOK (rC bf n (a + evW (Bq bf n a)) (evW (Bq bf n a)) (Bq bf n a) r rd).2.2.2 (3 * i) := by
    intro hq i hlt
    unfold rC at hlt ⊢
    generalize hw0 : evW (Bq bf n a) = w0 at hlt ⊢
    generalize ha1 : a + w0 = a1 at hlt ⊢
    generalize ha2 : a1 + figW w0 (Bq bf n a1) 0 7 = a2 at hlt ⊢
    show rdOK (upd (upd (upd rd (3 * r) (nI (Bq bf n a))) (3 * r + 1) (nI (Bq bf n a1) - nI 48)) (3 * r + 2) (nI (Bq bf n a2) - nI 48)) (3 * i)
    have hlt : i < r + figW (figW w0 (Bq bf n a1) 0 7) (Bq bf n a2) 0 5 := hlt
    have h1 := figW_lt (figW w0 (Bq bf n a1) 0 7) (Bq bf n a2) 0 5
    by_cases c : i < r
    · exact rdOK_congr (by rw [pk_un (by omega), pk_un (by omega), pk_un (by omega)]) (by rw [pk_un (by omega), pk_un (by omega), pk_un (by omega)]) (by rw [pk_un (by omega), pk_un (by omega), pk_un (by omega)]) (hall i c)
    · obtain rfl : i = r := by omega
      obtain ⟨hw, y, hy, ey⟩ := fig1 (figW w0 (Bq bf n a1) 0 7) a2 5 (by decide) (by omega)
      obtain ⟨hw1, x, hx, ex⟩ := fig1 w0 a1 7 (by decide) hw
      have hp : rdP (upd (upd (upd rd (3 * i) (nI (Bq bf n a))) (3 * i + 1) (nI (Bq bf n a1) - nI 48)) (3 * i + 2) (nI (Bq bf n a2) - nI 48)) (3 * i) := by
        refine ⟨x, y, by omega, by omega, ?_, ?_⟩
        · rw [pk_un (by omega), pk_us, ex]
        · rw [pk_us, ey]
      have h0 : upd (upd (upd rd (3 * i) (nI (Bq bf n a))) (3 * i + 1) (nI (Bq bf n a1) - nI 48)) (3 * i + 2) (nI (Bq bf n a2) - nI 48) (3 * i) = nI (Bq bf n a) := by
        rw [pk_un (by omega), pk_un (by omega), pk_us]
      rcases hq with hq | hq | hq
      · exact Or.inl ⟨by rw [h0, hq], hp⟩
      · exact Or.inr (Or.inl ⟨by rw [h0, hq], hp⟩)
      · exact Or.inr (Or.inr (Or.inl ⟨by rw [h0, hq], hp⟩))
  unfold rEv
  by_cases c1 : Bq bf n a = 116
  · rw [if_pos c1]; exact kT c1
  rw [if_neg c1]
  by_cases c2 : Bq bf n a = 112
  · rw [if_pos c2]; exact kO 5 (Or.inl ⟨rfl, c2⟩)
  rw [if_neg c2]
  by_cases c3 : Bq bf n a = 99
  · rw [if_pos c3]; exact kC (Or.inl c3)
  rw [if_neg c3]
  by_cases c4 : Bq bf n a = 108
  · rw [if_pos c4]; exact kC (Or.inr (Or.inl c4))
  rw [if_neg c4]
  by_cases c5 : Bq bf n a = 115
  · rw [if_pos c5]; exact kC (Or.inr (Or.inr c5))
  rw [if_neg c5]; exact kO 7 (Or.inr ⟨rfl, fun z => by have := evW_in z; omega⟩)
theorem rS_ok {bf : Nat → Int32} {n : Nat} (hbf : Tok bf n) (rd : Nat → Int32) (j : Nat) : ∀ i, i < (rS bf n rd j).2.2.1 → rdOK (rS bf n rd j).2.2.2 (3 * i) := by
  induction j with
  | zero => exact rEv_ok hbf 0 0 rd (fun i h => absurd h (Nat.not_lt_zero i))
  | succ j ih =>
    show ∀ i, i < (rStep bf n (rS bf n rd j)).2.2.1 → rdOK (rStep bf n (rS bf n rd j)).2.2.2 (3 * i)
    unfold rStep
    by_cases c : Bq bf n (rS bf n rd j).1 = 59
    · rw [if_pos c]; exact rEv_ok hbf _ _ _ ih
    · rw [if_neg c]; exact ih
theorem rFin_ok {bf : Nat → Int32} {n : Nat} (hbf : Tok bf n) (rd : Nat → Int32) : ∀ i, i < (rFin bf n rd).2.2.1 → rdOK (rFin bf n rd).2.2.2 (3 * i) := rS_ok hbf rd _
theorem rEnd_ok {bf : Nat → Int32} {n : Nat} {rd : Nat → Int32} (hn : n ≤ 60) (hbf : Tok bf n) : ∀ m i, rOK n (rS bf n rd i) i → ∃ j, rdEnd bf n rd i m = j ∧ rOK n (rS bf n rd j) j := by
  intro m
  induction m with
  | zero => exact fun i h => ⟨i, rfl, h⟩
  | succ m ih =>
    intro i h
    show ∃ j, (if rGo n (rS bf n rd i) then rdEnd bf n rd (i + 1) m else i) = j ∧ _
    by_cases c : rGo n (rS bf n rd i)
    · rw [if_pos c]; exact ih (i + 1) (rOK_s hbf h c.1 c.2)
    · rw [if_neg c]; exact ⟨i, rfl, h⟩
theorem rFin_lt {bf : Nat → Int32} {n : Nat} (hn : n ≤ 60) (hbf : Tok bf n) (rd : Nat → Int32) : (rFin bf n rd).2.1 < 2 ∧ (rFin bf n rd).1 ≤ 60 ∧ 3 * (rFin bf n rd).2.2.1 ≤ 61 := by
  obtain ⟨j, e, h1, h2, h3, h4, h5⟩ := rEnd_ok (rd := rd) hn hbf 100 0 (rOK_0 hbf rd)
  unfold rFin
  rw [e]
  exact ⟨h1, by omega, by omega⟩
def Mcl (rd : Nat → Int32) (k : Nat) : Nat := 6 * (rd (k + 1)).toNatClampNeg + (rd (k + 2)).toNatClampNeg
theorem Mcl_eq {rd : Nat → Int32} {k x y : Nat} (hx8 : x < 8) (hy6 : y < 6) (hx : rd (k + 1) = nI x) (hy : rd (k + 2) = nI y) : Mcl rd k = 6 * x + y := by
  unfold Mcl; rw [hx, hy, nI_clamp (by omega), nI_clamp (by omega)]
def MevC (c : Nat) (s : Nat → Int32) : Nat → Int32 := if nI 9 ≤ s (21 + c) then s else Mcomes c s
def MevCB (c : Nat) (s : Nat → Int32) : Nat := if nI 9 ≤ s (21 + c) then 0 else if Mcomes c s (21 + c) ≤ 0 then 0 else 1
def MevL (c b : Nat) (s : Nat → Int32) : Nat → Int32 := if s (21 + c) ≤ 0 then s else Mleaves c b s
def MevLB (c b : Nat) (s : Nat → Int32) : Nat := if s (21 + c) ≤ 0 then 0 else if Mleaves c b s (21 + c) < 0 then 0 else 1
def Mev (rd : Nat → Int32) (k : Nat) (s : Nat → Int32) : Nat → Int32 :=
  if rd k = nI 99 then MevC (Mcl rd k) s else if rd k = nI 108 then MevL (Mcl rd k) 1 s else if rd k = nI 115 then MevL (Mcl rd k) 0 s
  else if rd k = nI 112 then MplayN s (rd (k + 1)).toNatClampNeg 8 else if rd k = nI 116 then MgoN s (rd (k + 1)).toNatClampNeg
  else upd s (13 + (rd (k + 1)).toNatClampNeg) (nI 1 - s (13 + (rd (k + 1)).toNatClampNeg))
def MevN (rd : Nat → Int32) (k : Nat) (s : Nat → Int32) : Nat :=
  if rd k = nI 99 then MevCB (Mcl rd k) s else if rd k = nI 108 then MevLB (Mcl rd k) 1 s else if rd k = nI 115 then MevLB (Mcl rd k) 0 s
  else if rd k = nI 112 then (if MplayQ s (rd (k + 1)).toNatClampNeg 8 < 0 then 0 else 1) else if rd k = nI 116 then (if MgoQ s (rd (k + 1)).toNatClampNeg < 0 then 0 else 1)
  else 1
theorem MevN_lt (rd : Nat → Int32) (k : Nat) (s : Nat → Int32) : MevN rd k s < 2 := by
  unfold MevN MevCB MevLB
  (repeat' split) <;> omega
def MrunN (rd : Nat → Int32) (s : Nat → Int32) : Nat → Nat → Int32
  | 0 => s
  | i + 1 => Mev rd (3 * i) (MrunN rd s i)
def MrunE (rd : Nat → Int32) (s : Nat → Int32) (r : Nat) : Nat → Nat → Nat
  | i, 0 => i
  | i, m + 1 => if MevN rd (3 * i) (MrunN rd s i) = 0 then i else MrunE rd s r (i + 1) m
theorem MrunE_go {rd s : Nat → Int32} {r i : Nat} (hi : i < r) : MrunE rd s r i (r - i) = if MevN rd (3 * i) (MrunN rd s i) = 0 then i else MrunE rd s r (i + 1) (r - (i + 1)) := by
  rw [show r - i = (r - (i + 1)) + 1 by omega]; rfl
/-- what the failing event, or none, leaves -/
def MrunS (rd : Nat → Int32) (s : Nat → Int32) (r : Nat) : Nat → Int32 := if MrunE rd s r 0 r < r then MrunN rd s (MrunE rd s r 0 r + 1) else MrunN rd s (MrunE rd s r 0 r)
def MrunM (j n : Nat) (m : MSt) : MSt :=
  if (rFin (mbf m) n (mrd m)).2.1 = 0 then sMth (MR (sMth m (nI 0)) (rFin (mbf m) n (mrd m))) (nI 1)
  else sMs (sMln (sMsm (sMsv (MR (sMth m (nI 0)) (rFin (mbf m) n (mrd m))) (Msv (ms m) (msv m) j)) (nI (kSz j))) (nI 0)) (MrunS (rFin (mbf m) n (mrd m)).2.2.2 (ms m) (rFin (mbf m) n (mrd m)).2.2.1)
def MrunR (n : Nat) (m : MSt) : Nat :=
  if (rFin (mbf m) n (mrd m)).2.1 = 0 then 0 else MrunE (rFin (mbf m) n (mrd m)).2.2.2 (ms m) (rFin (mbf m) n (mrd m)).2.2.1 0 (rFin (mbf m) n (mrd m)).2.2.1

theorem dSh_n64 {x z : Int32} (hz : ¬ z = 0) : vf_n64 (FP.ddiv (FP.i2d x) (FP.i2d z)) := Jvm.Free.Fl.ddiv_out (Jvm.Free.Fl.i2d_fin x).noNaN (Jvm.Free.Fl.i2d_fin z) (Jvm.Free.Fl.i2d_nz hz)
def dSh (x y : Int32) : UInt64 := if x + y = 0 then FP.dconst1 else FP.ddiv (FP.i2d x) (FP.i2d (x + y))
end
section
/-! the class's state beside the reference's -/
def mask (h : HSt) : Int32 := if hf2 h = 0 then (if hf1 h = 0 then nI 0 else nI 2) else (if hf1 h = 0 then nI 4 else nI 6)
def RelS (h : HSt) (s : Nat → Int32) : Prop :=
  (∀ k, k < 48 → s (21 + k) = hL h k) ∧ (∀ k, k < 48 → s (69 + k) = hR h k) ∧ (∀ c, c < 6 → s (7 + c) = hC h c) ∧ s 0 = hfd h ∧ s 1 = hpt h ∧ s 2 = has h ∧ s 3 = hqk h ∧ s 4 = mask h ∧ s 5 = hmn h ∧ s 6 = hsn h ∧ (∀ r, r < 8 → s (13 + r) = bI (Hopen h r))
theorem pk_add {f : Nat → Int32} {b k j : Nat} {v : Int32} : upd f (b + k) v (b + j) = upd (fun x => f (b + x)) k v j := by
  by_cases e : j = k
  · subst e; rw [pk_us, pk_us]
  · rw [pk_un (by omega), pk_un e]
theorem upd_congr {f g : Nat → Int32} {k j n : Nat} {v : Int32} (h : ∀ j, j < n → f j = g j) (hj : j < n) : upd f k v j = upd g k v j := by
  by_cases e : j = k
  · subst e; rw [pk_us, pk_us]
  · rw [pk_un e, pk_un e]; exact h j hj
theorem rel_L {h : HSt} {s : Nat → Int32} (r : RelS h s) {k : Nat} (v : Int32) (hk : k < 48) : RelS (sHL h (upd (hL h) k v)) (upd s (21 + k) v) := by
  obtain ⟨r1, r2, r3, r4, r5, r6, r7, r8, r9, r10, r11⟩ := r
  refine ⟨fun j hj => ?_, fun j hj => ?_, fun j hj => ?_, ?_, ?_, ?_, ?_, ?_, ?_, ?_, fun j hj => ?_⟩
  · rw [pk_add]; exact upd_congr r1 hj
  · rw [pk_un (by omega)]; exact r2 j hj
  · rw [pk_un (by omega)]; exact r3 j hj
  · rw [pk_un (by omega)]; exact r4
  · rw [pk_un (by omega)]; exact r5
  · rw [pk_un (by omega)]; exact r6
  · rw [pk_un (by omega)]; exact r7
  · rw [pk_un (by omega)]; exact r8
  · rw [pk_un (by omega)]; exact r9
  · rw [pk_un (by omega)]; exact r10
  · rw [pk_un (by omega)]; exact r11 j hj
theorem rel_R {h : HSt} {s : Nat → Int32} (r : RelS h s) {k : Nat} (v : Int32) (hk : k < 48) : RelS (sHR h (upd (hR h) k v)) (upd s (69 + k) v) := by
  obtain ⟨r1, r2, r3, r4, r5, r6, r7, r8, r9, r10, r11⟩ := r
  refine ⟨fun j hj => ?_, fun j hj => ?_, fun j hj => ?_, ?_, ?_, ?_, ?_, ?_, ?_, ?_, fun j hj => ?_⟩
  · rw [pk_un (by omega)]; exact r1 j hj
  · rw [pk_add]; exact upd_congr r2 hj
  · rw [pk_un (by omega)]; exact r3 j hj
  · rw [pk_un (by omega)]; exact r4
  · rw [pk_un (by omega)]; exact r5
  · rw [pk_un (by omega)]; exact r6
  · rw [pk_un (by omega)]; exact r7
  · rw [pk_un (by omega)]; exact r8
  · rw [pk_un (by omega)]; exact r9
  · rw [pk_un (by omega)]; exact r10
  · rw [pk_un (by omega)]; exact r11 j hj
theorem rel_C {h : HSt} {s : Nat → Int32} (r : RelS h s) {k : Nat} (v : Int32) (hk : k < 6) : RelS (sHC h (upd (hC h) k v)) (upd s (7 + k) v) := by
  obtain ⟨r1, r2, r3, r4, r5, r6, r7, r8, r9, r10, r11⟩ := r
  refine ⟨fun j hj => ?_, fun j hj => ?_, fun j hj => ?_, ?_, ?_, ?_, ?_, ?_, ?_, ?_, fun j hj => ?_⟩
  · rw [pk_un (by omega)]; exact r1 j hj
  · rw [pk_un (by omega)]; exact r2 j hj
  · rw [pk_add]; exact upd_congr r3 hj
  · rw [pk_un (by omega)]; exact r4
  · rw [pk_un (by omega)]; exact r5
  · rw [pk_un (by omega)]; exact r6
  · rw [pk_un (by omega)]; exact r7
  · rw [pk_un (by omega)]; exact r8
  · rw [pk_un (by omega)]; exact r9
  · rw [pk_un (by omega)]; exact r10
  · rw [pk_un (by omega)]; exact r11 j hj
theorem rel_fd {h : HSt} {s : Nat → Int32} (r : RelS h s) (v : Int32) : RelS (sHfd h v) (upd s 0 v) := by
  obtain ⟨r1, r2, r3, r4, r5, r6, r7, r8, r9, r10, r11⟩ := r
  refine ⟨fun j hj => ?_, fun j hj => ?_, fun j hj => ?_, ?_, ?_, ?_, ?_, ?_, ?_, ?_, fun j hj => ?_⟩
  · rw [pk_un (by omega)]; exact r1 j hj
  · rw [pk_un (by omega)]; exact r2 j hj
  · rw [pk_un (by omega)]; exact r3 j hj
  · exact pk_us
  · rw [pk_un (by decide)]; exact r5
  · rw [pk_un (by decide)]; exact r6
  · rw [pk_un (by decide)]; exact r7
  · rw [pk_un (by decide)]; exact r8
  · rw [pk_un (by decide)]; exact r9
  · rw [pk_un (by decide)]; exact r10
  · rw [pk_un (by omega)]; exact r11 j hj
theorem rel_pt {h : HSt} {s : Nat → Int32} (r : RelS h s) (v : Int32) : RelS (sHpt h v) (upd s 1 v) := by
  obtain ⟨r1, r2, r3, r4, r5, r6, r7, r8, r9, r10, r11⟩ := r
  refine ⟨fun j hj => ?_, fun j hj => ?_, fun j hj => ?_, ?_, ?_, ?_, ?_, ?_, ?_, ?_, fun j hj => ?_⟩
  · rw [pk_un (by omega)]; exact r1 j hj
  · rw [pk_un (by omega)]; exact r2 j hj
  · rw [pk_un (by omega)]; exact r3 j hj
  · rw [pk_un (by decide)]; exact r4
  · exact pk_us
  · rw [pk_un (by decide)]; exact r6
  · rw [pk_un (by decide)]; exact r7
  · rw [pk_un (by decide)]; exact r8
  · rw [pk_un (by decide)]; exact r9
  · rw [pk_un (by decide)]; exact r10
  · rw [pk_un (by omega)]; exact r11 j hj
theorem rel_as {h : HSt} {s : Nat → Int32} (r : RelS h s) (v : Int32) : RelS (sHas h v) (upd s 2 v) := by
  obtain ⟨r1, r2, r3, r4, r5, r6, r7, r8, r9, r10, r11⟩ := r
  refine ⟨fun j hj => ?_, fun j hj => ?_, fun j hj => ?_, ?_, ?_, ?_, ?_, ?_, ?_, ?_, fun j hj => ?_⟩
  · rw [pk_un (by omega)]; exact r1 j hj
  · rw [pk_un (by omega)]; exact r2 j hj
  · rw [pk_un (by omega)]; exact r3 j hj
  · rw [pk_un (by decide)]; exact r4
  · rw [pk_un (by decide)]; exact r5
  · exact pk_us
  · rw [pk_un (by decide)]; exact r7
  · rw [pk_un (by decide)]; exact r8
  · rw [pk_un (by decide)]; exact r9
  · rw [pk_un (by decide)]; exact r10
  · rw [pk_un (by omega)]; exact r11 j hj
theorem rel_qk {h : HSt} {s : Nat → Int32} (r : RelS h s) (v : Int32) : RelS (sHqk h v) (upd s 3 v) := by
  obtain ⟨r1, r2, r3, r4, r5, r6, r7, r8, r9, r10, r11⟩ := r
  refine ⟨fun j hj => ?_, fun j hj => ?_, fun j hj => ?_, ?_, ?_, ?_, ?_, ?_, ?_, ?_, fun j hj => ?_⟩
  · rw [pk_un (by omega)]; exact r1 j hj
  · rw [pk_un (by omega)]; exact r2 j hj
  · rw [pk_un (by omega)]; exact r3 j hj
  · rw [pk_un (by decide)]; exact r4
  · rw [pk_un (by decide)]; exact r5
  · rw [pk_un (by decide)]; exact r6
  · exact pk_us
  · rw [pk_un (by decide)]; exact r8
  · rw [pk_un (by decide)]; exact r9
  · rw [pk_un (by decide)]; exact r10
  · rw [pk_un (by omega)]; exact r11 j hj
theorem rel_mn {h : HSt} {s : Nat → Int32} (r : RelS h s) (v : Int32) : RelS (sHmn h v) (upd s 5 v) := by
  obtain ⟨r1, r2, r3, r4, r5, r6, r7, r8, r9, r10, r11⟩ := r
  refine ⟨fun j hj => ?_, fun j hj => ?_, fun j hj => ?_, ?_, ?_, ?_, ?_, ?_, ?_, ?_, fun j hj => ?_⟩
  · rw [pk_un (by omega)]; exact r1 j hj
  · rw [pk_un (by omega)]; exact r2 j hj
  · rw [pk_un (by omega)]; exact r3 j hj
  · rw [pk_un (by decide)]; exact r4
  · rw [pk_un (by decide)]; exact r5
  · rw [pk_un (by decide)]; exact r6
  · rw [pk_un (by decide)]; exact r7
  · rw [pk_un (by decide)]; exact r8
  · exact pk_us
  · rw [pk_un (by decide)]; exact r10
  · rw [pk_un (by omega)]; exact r11 j hj
theorem rel_sn {h : HSt} {s : Nat → Int32} (r : RelS h s) (v : Int32) : RelS (sHsn h v) (upd s 6 v) := by
  obtain ⟨r1, r2, r3, r4, r5, r6, r7, r8, r9, r10, r11⟩ := r
  refine ⟨fun j hj => ?_, fun j hj => ?_, fun j hj => ?_, ?_, ?_, ?_, ?_, ?_, ?_, ?_, fun j hj => ?_⟩
  · rw [pk_un (by omega)]; exact r1 j hj
  · rw [pk_un (by omega)]; exact r2 j hj
  · rw [pk_un (by omega)]; exact r3 j hj
  · rw [pk_un (by decide)]; exact r4
  · rw [pk_un (by decide)]; exact r5
  · rw [pk_un (by decide)]; exact r6
  · rw [pk_un (by decide)]; exact r7
  · rw [pk_un (by decide)]; exact r8
  · rw [pk_un (by decide)]; exact r9
  · exact pk_us
  · rw [pk_un (by omega)]; exact r11 j hj
theorem upd_id {f : Nat → Int32} {k : Nat} {x : Int32} (h : f k = x) : upd f k x = f := funext fun j => by
  by_cases e : j = k
  · subst e; rw [pk_us, h]
  · rw [pk_un e]
theorem nz : nI 0 = 0 := rfl
theorem le0 {l : Nat} (hl : l < 2 ^ 31) : nI l ≤ 0 ↔ l = 0 := by
  rw [← nz, nI_leI hl (by decide)]; omega
/-- the bounds that every state keeps -/
def Inv (h : HSt) : Prop :=
  (∀ k, k < 48 → ∃ l : Nat, l ≤ 9 ∧ hL h k = nI l) ∧ (∀ k, k < 48 → ∃ l : Nat, l ≤ 60 ∧ hR h k = nI l) ∧ (∃ f : Nat, (2 ≤ f ∧ f ≤ 60) ∧ hfd h = nI f) ∧ (∃ p : Nat, (1 ≤ p ∧ p ≤ 10) ∧ hpt h = nI p) ∧ (∃ q : Nat, (1 ≤ q ∧ q ≤ 30) ∧ has h = nI q) ∧ (∃ t : Nat, t ≤ 59 ∧ hsn h = nI t) ∧ (∃ w : Nat, w < 256 ∧ hop h = nI w)
theorem upd_ex {f : Nat → Int32} {n b k l : Nat} (h : ∀ j, j < n → ∃ z : Nat, z ≤ b ∧ f j = nI z) (hl : l ≤ b) : ∀ j, j < n → ∃ z : Nat, z ≤ b ∧ upd f k (nI l) j = nI z := by
  intro j hj
  by_cases e : j = k
  · subst e; exact ⟨l, hl, pk_us⟩
  · rw [pk_un e]; exact h j hj
theorem inv_L {h : HSt} (i : Inv h) (k : Nat) {l : Nat} (hl : l ≤ 9) : Inv (sHL h (upd (hL h) k (nI l))) := ⟨upd_ex i.1 hl, i.2⟩
theorem inv_R {h : HSt} (i : Inv h) (k : Nat) {l : Nat} (hl : l ≤ 60) : Inv (sHR h (upd (hR h) k (nI l))) := ⟨i.1, upd_ex i.2.1 hl, i.2.2⟩
theorem inv_C {h : HSt} (i : Inv h) (F : Nat → Int32) : Inv (sHC h F) := i
theorem inv_mn {h : HSt} (i : Inv h) (v : Int32) : Inv (sHmn h v) := i
theorem inv_sn {h : HSt} (i : Inv h) {t : Nat} (ht : t ≤ 59) : Inv (sHsn h (nI t)) := ⟨i.1, i.2.1, i.2.2.1, i.2.2.2.1, i.2.2.2.2.1, ⟨t, ht, rfl⟩, i.2.2.2.2.2.2⟩
theorem inv_call {h : HSt} (i : Inv h) (k : Nat) : Inv (Hcall k h) := by
  obtain ⟨f, hf, e⟩ := i.2.2.1
  have h1 := inv_R i k (l := f) hf.2
  rw [← e] at h1
  exact inv_C h1 _
theorem rel_call {h : HSt} {s : Nat → Int32} (r : RelS h s) {k : Nat} (hk : k < 48) : RelS (Hcall k h) (Mcalls k s) := by
  have e0 : s 0 = hfd h := r.2.2.2.1
  have e5 : s 12 = hC h 5 := r.2.2.1 5 (by decide)
  have h2 := rel_C (rel_R r (hfd h) hk) (k := 5) (hC h 5 + nI 1) (by decide)
  have e : Mcalls k s = upd (upd s (69 + k) (hfd h)) 12 (hC h 5 + nI 1) := by
    unfold Mcalls
    rw [pk_un (by omega), e0, e5]
  rw [e]
  exact h2
theorem rel_askN {h : HSt} {s : Nat → Int32} (r : RelS h s) : ∀ n, n ≤ 48 → RelS (HaskN h n) (MaskN s n) := by
  intro n
  induction n with
  | zero => exact fun _ => r
  | succ n ih =>
    intro hn
    have ih := ih (by omega)
    have e : MaskN s n (21 + n) = hL (HaskN h n) n := ih.1 n hn
    show RelS (if ¬ hL (HaskN h n) n ≤ 0 then Hcall n (HaskN h n) else HaskN h n) (if MaskN s n (21 + n) ≤ 0 then MaskN s n else Mcalls n (MaskN s n))
    rw [e]
    by_cases c : hL (HaskN h n) n ≤ 0
    · rw [if_neg (not_not_intro c), if_pos c]; exact ih
    · rw [if_pos c, if_neg c]; exact rel_call ih hn
theorem inv_askN {h : HSt} (i : Inv h) (n : Nat) : Inv (HaskN h n) := by
  induction n with
  | zero => exact i
  | succ n ih =>
    show Inv (if ¬ hL (HaskN h n) n ≤ 0 then Hcall n (HaskN h n) else HaskN h n)
    by_cases c : hL (HaskN h n) n ≤ 0
    · rw [if_neg (not_not_intro c)]; exact ih
    · rw [if_pos c]; exact inv_call ih n
theorem rel_fadeN {h : HSt} {s : Nat → Int32} (r : RelS h s) : ∀ n, n ≤ 48 → RelS (sHR h (HfadeN (hR h) n)) (MfadeN s n) := by
  intro n
  induction n with
  | zero => exact fun _ => r
  | succ n ih =>
    intro hn
    have ih := ih (by omega)
    have e : MfadeN s n (69 + n) = HfadeN (hR h) n n := ih.2.1 n hn
    show RelS (sHR h (if HfadeN (hR h) n n ≤ 0 then HfadeN (hR h) n else upd (HfadeN (hR h) n) n (HfadeN (hR h) n n - nI 1))) (upd (MfadeN s n) (69 + n) (MfadeN s n (69 + n) - bI (¬ MfadeN s n (69 + n) ≤ 0)))
    by_cases c : HfadeN (hR h) n n ≤ 0
    · rw [if_pos c, upd_id (by rw [e, bI_f (not_not_intro c), nz, Int32.sub_zero])]; exact ih
    · rw [if_neg c, e, bI_t c]
      exact rel_R ih (HfadeN (hR h) n n - nI 1) hn
theorem fadeN_ex {R : Nat → Int32} (h : ∀ k, k < 48 → ∃ l : Nat, l ≤ 60 ∧ R k = nI l) : ∀ n, n ≤ 48 → ∀ k, k < 48 → ∃ l : Nat, l ≤ 60 ∧ HfadeN R n k = nI l := by
  intro n
  induction n with
  | zero => exact fun _ => h
  | succ n ih =>
    intro hn
    have ih := ih (by omega)
    obtain ⟨l, hl, el⟩ := ih n hn
    show ∀ k, k < 48 → ∃ l : Nat, l ≤ 60 ∧ (if HfadeN R n n ≤ 0 then HfadeN R n else upd (HfadeN R n) n (HfadeN R n n - nI 1)) k = nI l
    by_cases c : HfadeN R n n ≤ 0
    · rw [if_pos c]; exact ih
    · rw [if_neg c]
      rw [el] at c ⊢
      have hp : l ≠ 0 := fun z => c ((le0 (by omega)).mpr z)
      rw [pk_sub (by omega)]
      exact upd_ex ih (by omega)
theorem Htk_eq (h : HSt) : Htk h = sHsn (sHmn (sHR h (HfadeN (hR h) 48)) (hmn h + nI 1)) (hsn h + nI 1) := by
  unfold Htk Hfade
  show sHsn (sHR (sHmn h (hmn h + nI 1)) (HfadeN (hR h) 48)) (hsn h + nI 1) = _
  generalize HfadeN (hR h) 48 = F
  rfl
theorem rel_tk {h : HSt} {s : Nat → Int32} (r : RelS h s) : RelS (Htk h) (Mtk s) := by
  have f := rel_fadeN r 48 (Nat.le_refl 48)
  have e5 : MfadeN s 48 5 = hmn h := f.2.2.2.2.2.2.2.2.1
  have e6 : MfadeN s 48 6 = hsn h := f.2.2.2.2.2.2.2.2.2.1
  have m2 := rel_sn (rel_mn f (hmn h + nI 1)) (hsn h + nI 1)
  have e : Mtk s = upd (upd (MfadeN s 48) 5 (hmn h + nI 1)) 6 (hsn h + nI 1) := by
    unfold Mtk Mt1
    rw [pk_un (by decide), e5, e6]
  rw [Htk_eq, e]
  exact m2
theorem chief_eq {h : HSt} {s : Nat → Int32} (r : RelS h s) : Mchief s = Hchief h := by
  have e4 : s 4 = mask h := r.2.2.2.2.2.2.2.1
  unfold Mchief Hchief
  rw [e4]
  unfold mask
  by_cases c2 : hf2 h = 0
  · rw [if_pos c2, if_pos c2]
    by_cases c1 : hf1 h = 0
    · rw [if_pos c1, if_pos c1]; decide
    · rw [if_neg c1, if_neg c1]; decide
  · rw [if_neg c2, if_neg c2]
    by_cases c1 : hf1 h = 0
    · rw [if_pos c1]; decide
    · rw [if_neg c1]; decide
theorem due_eq {h : HSt} {s : Nat → Int32} (r : RelS h s) : Mdue s = Htbq h := by
  have e2 : s 2 = has h := r.2.2.2.2.2.1
  unfold Mdue Htbq
  rw [chief_eq r, e2]
theorem tbq_nat {h : HSt} (i : Inv h) : ∃ d : Nat, (1 ≤ d ∧ d ≤ 60) ∧ Htbq h = nI d := by
  obtain ⟨q, hq, e⟩ := i.2.2.2.2.1
  unfold Htbq
  by_cases c : Hchief h = 0
  · rw [if_pos c]; exact ⟨q, ⟨hq.1, by omega⟩, e⟩
  · rw [if_neg c, e, pk_mul]; exact ⟨2 * q, ⟨by omega, by omega⟩, rfl⟩
theorem rel_min {h : HSt} {s : Nat → Int32} (r : RelS h s) : RelS (Hmin h) (Mgo s) := by
  have t := rel_tk r
  have e6 : Mtk s 6 = hsn (Htk h) := t.2.2.2.2.2.2.2.2.2.1
  unfold Hmin Mgo
  rw [e6, due_eq t]
  by_cases c : hsn (Htk h) < Htbq (Htk h)
  · rw [if_pos c, if_neg (not_not_intro c)]; exact t
  · rw [if_neg c, if_pos c]
    have m1 := rel_sn t (nI 0)
    have e3 : upd (Mtk s) 6 (nI 0) 10 = hC (sHsn (Htk h) (nI 0)) 3 := m1.2.2.1 3 (by decide)
    have m2 := rel_C m1 (k := 3) (hC (sHsn (Htk h) (nI 0)) 3 + nI 1) (by decide)
    have e : Mq1 s = upd (upd (Mtk s) 6 (nI 0)) (7 + 3) (hC (sHsn (Htk h) (nI 0)) 3 + nI 1) := by
      unfold Mq1
      rw [e3]
    rw [e]
    exact rel_askN m2 48 (Nat.le_refl 48)
theorem inv_tk {h : HSt} (i : Inv h) {t : Nat} (ht : t ≤ 59) (e : hsn h + nI 1 = nI t) : Inv (Htk h) := by
  rw [Htk_eq, e]
  have f := fadeN_ex i.2.1 48 (Nat.le_refl 48)
  generalize HfadeN (hR h) 48 = F at f ⊢
  exact ⟨i.1, f, i.2.2.1, i.2.2.2.1, i.2.2.2.2.1, ⟨t, ht, rfl⟩, i.2.2.2.2.2.2⟩
theorem inv_tk0 {h : HSt} (i : Inv h) : Inv (sHsn (Htk h) (nI 0)) := by
  rw [Htk_eq]
  have f := fadeN_ex i.2.1 48 (Nat.le_refl 48)
  generalize HfadeN (hR h) 48 = F at f ⊢
  exact ⟨i.1, f, i.2.2.1, i.2.2.2.1, i.2.2.2.2.1, ⟨0, by decide, rfl⟩, i.2.2.2.2.2.2⟩
theorem tbq_tk (h : HSt) : Htbq (Htk h) = Htbq h := by
  rw [Htk_eq]
  generalize HfadeN (hR h) 48 = F
  rfl
theorem hsn_tk (h : HSt) : hsn (Htk h) = hsn h + nI 1 := by
  rw [Htk_eq]
theorem inv_min {h : HSt} (i : Inv h) : Inv (Hmin h) := by
  obtain ⟨t, ht, et⟩ := i.2.2.2.2.2.1
  obtain ⟨d, hd, ed⟩ := tbq_nat i
  unfold Hmin
  rw [tbq_tk, hsn_tk]
  by_cases c : hsn h + nI 1 < Htbq h
  · rw [if_pos c]
    have e1 : hsn h + nI 1 = nI (t + 1) := by rw [et, nI_add]
    rw [e1, ed] at c
    have c2 := (nI_ltI (by omega) (by omega)).mp c
    exact inv_tk i (by omega) e1
  · rw [if_neg c]; exact inv_askN (inv_C (inv_tk0 i) _) 48
theorem rel_pass {h : HSt} {s : Nat → Int32} (r : RelS h s) (n : Nat) : RelS (HpassN h n) (MgoN s n) := by
  induction n with
  | zero => exact r
  | succ n ih => exact rel_min ih
theorem inv_pass {h : HSt} (i : Inv h) (n : Nat) : Inv (HpassN h n) := by
  induction n with
  | zero => exact i
  | succ n ih => exact inv_min ih
theorem pass_q {h : HSt} {s : Nat → Int32} (r : RelS h s) (n : Nat) : MgoQ s n = nI (HpassQ h n) := by
  induction n with
  | zero => rfl
  | succ n ih =>
    have t := rel_tk (rel_pass r n)
    have e6 : Mtk (MgoN s n) 6 = hsn (Htk (HpassN h n)) := t.2.2.2.2.2.2.2.2.2.1
    show MgoQ s n + bI (¬ Mtk (MgoN s n) 6 < Mdue (Mtk (MgoN s n))) = nI (if hsn (Htk (HpassN h n)) < Htbq (Htk (HpassN h n)) then HpassQ h n else HpassQ h n + 1)
    rw [ih]
    by_cases c : hsn (Htk (HpassN h n)) < Htbq (Htk (HpassN h n))
    · rw [if_pos c, bI_f (by rw [e6, due_eq t]; exact not_not_intro c), nI_add, Nat.add_zero]
    · rw [if_neg c, bI_t (by rw [e6, due_eq t]; exact c), nI_add]
/-! coming, leaving -/
theorem rel_seat {h : HSt} {s : Nat → Int32} (r : RelS h s) {k : Nat} (hk : k < 48) : RelS (Hseat k h) (Mcomes k s) := by
  have e : s (21 + k) = hL h k := r.1 k hk
  unfold Hseat Mcomes
  rw [e]
  exact rel_call (rel_L r (hL h k + nI 1) hk) hk
theorem inv_seat {h : HSt} (i : Inv h) {k : Nat} (hk : k < 48) (c : ¬ nI 9 ≤ hL h k) : Inv (Hseat k h) := by
  obtain ⟨l, hl, e⟩ := i.1 k hk
  unfold Hseat
  rw [e] at c ⊢
  have h9 : l < 9 := Nat.lt_of_not_le fun z => c ((nI_leI (by decide) (by omega)).mpr z)
  rw [nI_add]
  exact inv_call (inv_L i k (by omega)) k
theorem rel_ask {h : HSt} {s : Nat → Int32} (r : RelS h s) {k : Nat} (hk : k < 48) : RelS (Hask k h) (Mask k (upd s 11 (s 11 + nI 1))) := by
  have e4 : s 11 = hC h 4 := r.2.2.1 4 (by decide)
  have m := rel_C r (k := 4) (hC h 4 + nI 1) (by decide)
  have e : (upd s 11 (s 11 + nI 1)) (21 + k) = hL h k := by rw [pk_un (by omega)]; exact r.1 k hk
  unfold Hask Mask
  rw [e, e4]
  by_cases c : hL h k ≤ 0
  · rw [if_neg (not_not_intro c), if_pos c]; exact m
  · rw [if_pos c, if_neg c]; exact rel_call m hk
theorem inv_ask {h : HSt} (i : Inv h) (k : Nat) : Inv (Hask k h) := by
  unfold Hask
  by_cases c : ¬ hL h k ≤ 0
  · rw [if_pos c]; exact inv_call (inv_C i _) k
  · rw [if_neg c]; exact inv_C i _
theorem rel_fare2 {h : HSt} {s : Nat → Int32} (r : RelS h s) {k : Nat} (hk : k < 48) : RelS (Hfare2 k h) (Mfare2 k s) := by
  have eR : s (69 + k) = hR h k := r.2.1 k hk
  have e1 : s 1 = hpt h := r.2.2.2.2.1
  unfold Hfare2 Mfare2
  rw [eR, e1]
  by_cases c : hR h k ≤ hpt h
  · rw [if_pos c, if_pos c]; exact r
  · rw [if_neg c, if_neg c]; exact rel_ask (rel_R r (hpt h) hk) hk
theorem inv_fare2 {h : HSt} (i : Inv h) (k : Nat) : Inv (Hfare2 k h) := by
  obtain ⟨p, hp, e⟩ := i.2.2.2.1
  unfold Hfare2
  by_cases c : hR h k ≤ hpt h
  · rw [if_pos c]; exact i
  · rw [if_neg c, e]; exact inv_ask (inv_R i k (by omega)) k
theorem rel_fare {h : HSt} {s : Nat → Int32} (r : RelS h s) (i : Inv h) (hb : Hbo h) {k : Nat} (hk : k < 48) : RelS (Hfare k h) (Mfare k s) := by
  have eL : s (21 + k) = hL h k := r.1 k hk
  have e3 : s 3 = hqk h := r.2.2.2.2.2.2.1
  obtain ⟨l, hl, el⟩ := i.1 k hk
  unfold Hfare Mfare
  rw [eL, e3, el]
  rcases hb.1 with q | q
  · rw [q, if_pos nz, if_neg (by decide)]; exact rel_fare2 r hk
  · rw [q, if_neg (by decide), if_pos rfl]
    by_cases c : l = 0
    · subst c
      rw [if_pos nz, if_neg (not_not_intro ((le0 (by decide)).mpr rfl))]
      exact rel_R r (nI 0) hk
    · rw [if_neg (fun z => c ((le0 (by omega)).mp (Int32.le_of_eq z))), if_pos (fun z => c ((le0 (by omega)).mp z))]
      exact rel_fare2 r hk
theorem inv_fare {h : HSt} (i : Inv h) (k : Nat) : Inv (Hfare k h) := by
  unfold Hfare
  by_cases c : hqk h = 0
  · rw [if_pos c]; exact inv_fare2 i k
  · rw [if_neg c]
    by_cases d : ¬ hL h k ≤ 0
    · rw [if_pos d]; exact inv_fare2 i k
    · rw [if_neg d]; exact inv_R i k (by omega)
theorem inv_down {h : HSt} (i : Inv h) {k : Nat} (hk : k < 48) (c : ¬ hL h k ≤ 0) : Inv (sHL h (upd (hL h) k (hL h k - nI 1))) := by
  obtain ⟨l, hl, e⟩ := i.1 k hk
  rw [e] at c ⊢
  have h0 : l ≠ 0 := fun z => c ((le0 (by omega)).mpr z)
  rw [pk_sub (by omega)]
  exact inv_L i k (by omega)
theorem rel_unseat {h : HSt} {s : Nat → Int32} (r : RelS h s) (i : Inv h) (hb : Hbo h) {k : Nat} (b : Nat) (hk : k < 48) (c : ¬ hL h k ≤ 0) : RelS (Hunseat k b h) (Mleaves k b s) := by
  have eL : s (21 + k) = hL h k := r.1 k hk
  unfold Hunseat Mleaves
  rw [eL]
  have m := rel_L r (hL h k - nI 1) hk
  by_cases d : b = 0
  · rw [if_pos d, if_pos d]; exact m
  · rw [if_neg d, if_neg d]; exact rel_fare m (inv_down i hk c) hb hk
theorem inv_unseat {h : HSt} (i : Inv h) {k : Nat} (b : Nat) (hk : k < 48) (c : ¬ hL h k ≤ 0) : Inv (Hunseat k b h) := by
  unfold Hunseat
  by_cases d : b = 0
  · rw [if_pos d]; exact inv_down i hk c
  · rw [if_neg d]; exact inv_fare (inv_down i hk c) k
end
section
/-! rows of bits -/
theorem bw_and {x y z w : Int32} (h1 : x &&& w = 0) (h2 : y &&& z = 0) : (x ||| y) &&& (z ||| w) = (x &&& z) ||| (y &&& w) := by
  apply Int32.toBitVec_inj.mp
  have e1 : x.toBitVec &&& w.toBitVec = 0#32 := by rw [← Int32.toBitVec_and, h1]; rfl
  have e2 : y.toBitVec &&& z.toBitVec = 0#32 := by rw [← Int32.toBitVec_and, h2]; rfl
  simp only [Int32.toBitVec_and, Int32.toBitVec_or]
  apply BitVec.eq_of_getLsbD_eq
  intro i hi
  have a1 : (x.toBitVec &&& w.toBitVec).getLsbD i = false := by rw [e1]; simp
  have a2 : (y.toBitVec &&& z.toBitVec).getLsbD i = false := by rw [e2]; simp
  rw [BitVec.getLsbD_and] at a1 a2
  simp only [BitVec.getLsbD_and, BitVec.getLsbD_or]
  revert a1 a2
  cases x.toBitVec.getLsbD i <;> cases y.toBitVec.getLsbD i <;> cases z.toBitVec.getLsbD i <;> cases w.toBitVec.getLsbD i <;> simp
theorem bw_not {x y z w : Int32} (h1 : x &&& w = 0) (h2 : y &&& z = 0) : (x ||| y) &&& ((z ||| w) ^^^ (-1)) = (x &&& (z ^^^ (-1))) ||| (y &&& (w ^^^ (-1))) := by
  apply Int32.toBitVec_inj.mp
  have e1 : x.toBitVec &&& w.toBitVec = 0#32 := by rw [← Int32.toBitVec_and, h1]; rfl
  have e2 : y.toBitVec &&& z.toBitVec = 0#32 := by rw [← Int32.toBitVec_and, h2]; rfl
  have e3 : (-1 : Int32).toBitVec = BitVec.allOnes 32 := by decide
  simp only [Int32.toBitVec_and, Int32.toBitVec_or, Int32.toBitVec_xor, e3]
  apply BitVec.eq_of_getLsbD_eq
  intro i hi
  have a1 : (x.toBitVec &&& w.toBitVec).getLsbD i = false := by rw [e1]; simp
  have a2 : (y.toBitVec &&& z.toBitVec).getLsbD i = false := by rw [e2]; simp
  rw [BitVec.getLsbD_and] at a1 a2
  simp only [BitVec.getLsbD_and, BitVec.getLsbD_or, BitVec.getLsbD_xor, BitVec.getLsbD_allOnes]
  revert a1 a2
  cases x.toBitVec.getLsbD i <;> cases y.toBitVec.getLsbD i <;> cases z.toBitVec.getLsbD i <;> cases w.toBitVec.getLsbD i <;> simp [hi]
abbrev bit (n : Nat) : Int32 := nI 1 <<< (nI n &&& 31)
/-- the bits below n where P says so -/
def orb (P : Nat → Bool) : Nat → Int32
  | 0 => nI 0
  | n + 1 => orb P n ||| (if P n = true then bit n else nI 0)
theorem bit_ne : ∀ i, i < 8 → ∀ j, j < 8 → i ≠ j → bit i &&& bit j = 0 := by decide +kernel
theorem and_or {a b c : Int32} (h1 : a &&& c = 0) (h2 : b &&& c = 0) : (a ||| b) &&& c = 0 := by
  have h := bw_and (x := a) (y := b) (z := c) (w := 0) (by rw [Int32.and_zero]) h2
  rw [Int32.or_zero, h1, Int32.and_zero, Int32.or_zero] at h
  exact h
theorem orb_bit (P : Nat → Bool) (m : Nat) (hm : m < 8) : ∀ n, n ≤ m → orb P n &&& bit m = 0 := by
  intro n
  induction n with
  | zero => exact fun _ => Int32.zero_and
  | succ n ih =>
    intro hn
    refine and_or (ih (by omega)) ?_
    by_cases c : P n = true
    · rw [if_pos c]; exact bit_ne n (by omega) m hm (by omega)
    · rw [if_neg c]; exact Int32.zero_and
theorem orb_sel (P : Nat → Bool) (c : Bool) (m : Nat) (hm : m < 8) : orb P m &&& (if c = true then bit m else nI 0) = 0 := by
  by_cases h : c = true
  · rw [if_pos h]; exact orb_bit P m hm m (Nat.le_refl m)
  · rw [if_neg h]; exact Int32.and_zero
theorem orb_and (P Q : Nat → Bool) : ∀ n, n ≤ 8 → orb P n &&& orb Q n = orb (fun k => P k && Q k) n := by
  intro n
  induction n with
  | zero => exact fun _ => (by decide : nI 0 &&& nI 0 = nI 0)
  | succ n ih =>
    intro hn
    show (orb P n ||| _) &&& (orb Q n ||| _) = orb (fun k => P k && Q k) n ||| (if (P n && Q n) = true then bit n else nI 0)
    rw [bw_and (orb_sel P (Q n) n hn) (by rw [Int32.and_comm]; exact orb_sel Q (P n) n hn), ih (by omega)]
    congr 1
    cases P n <;> cases Q n <;> simp [nz]
theorem orb_not (P Q : Nat → Bool) : ∀ n, n ≤ 8 → orb P n &&& (orb Q n ^^^ (-1)) = orb (fun k => P k && !Q k) n := by
  intro n
  induction n with
  | zero => exact fun _ => (by decide : nI 0 &&& (nI 0 ^^^ (-1)) = nI 0)
  | succ n ih =>
    intro hn
    show (orb P n ||| _) &&& ((orb Q n ||| _) ^^^ (-1)) = orb (fun k => P k && !Q k) n ||| (if (P n && !Q n) = true then bit n else nI 0)
    rw [bw_not (orb_sel P (Q n) n hn) (by rw [Int32.and_comm]; exact orb_sel Q (P n) n hn), ih (by omega)]
    congr 1
    have h9 : ∀ i, i < 8 → bit i &&& (bit i ^^^ (-1)) = 0 ∧ bit i &&& (nI 0 ^^^ (-1)) = bit i ∧ nI 0 &&& (bit i ^^^ (-1)) = 0 := by decide +kernel
    obtain ⟨g1, g2, g3⟩ := h9 n hn
    cases P n <;> cases Q n
    · exact (by decide : nI 0 &&& (nI 0 ^^^ (-1)) = nI 0)
    · exact g3
    · exact g2
    · exact g1
/-- how many -/
def cnb (P : Nat → Bool) : Nat → Nat
  | 0 => 0
  | n + 1 => cnb P n + (if P n = true then 1 else 0)
def o8 (a b c d e f g h : Bool) : Int32 := ((((((((nI 0 ||| (if a = true then bit 0 else nI 0)) ||| (if b = true then bit 1 else nI 0)) ||| (if c = true then bit 2 else nI 0)) ||| (if d = true then bit 3 else nI 0)) ||| (if e = true then bit 4 else nI 0)) ||| (if f = true then bit 5 else nI 0)) ||| (if g = true then bit 6 else nI 0)) ||| (if h = true then bit 7 else nI 0))
def c8 (a b c d e f g h : Bool) : Nat := ((((((((0 + (if a = true then 1 else 0)) + (if b = true then 1 else 0)) + (if c = true then 1 else 0)) + (if d = true then 1 else 0)) + (if e = true then 1 else 0)) + (if f = true then 1 else 0)) + (if g = true then 1 else 0)) + (if h = true then 1 else 0))
theorem bc_o8 : ∀ a b c d e f g h : Bool, bc (o8 a b c d e f g h) = nI (c8 a b c d e f g h) := by decide +kernel
theorem bc_orb (P : Nat → Bool) : bc (orb P 8) = nI (cnb P 8) := bc_o8 (P 0) (P 1) (P 2) (P 3) (P 4) (P 5) (P 6) (P 7)
/-- a row of doors as its bits -/
def opb (x : Int32) (r : Nat) : Bool := decide ((x >>> (nI r &&& 31)) &&& nI 1 = nI 1)
theorem opb_all : ∀ w, w < 256 → orb (opb (nI w)) 8 = nI w := by decide +kernel
theorem turn_all : ∀ w, w < 256 → ∀ r, r < 8 → nI w ^^^ bit r = nI (w ^^^ (1 <<< r)) ∧ w ^^^ (1 <<< r) < 256 := by decide +kernel
theorem turn_bits : ∀ w, w < 256 → ∀ r, r < 8 → ∀ j, j < 8 → opb (nI (w ^^^ (1 <<< r))) j = (if j = r then !opb (nI w) r else opb (nI w) j) := by decide +kernel
/-! what the methods that ask answer -/
theorem mul6 (n c : Nat) : 6 * n + c = n * 6 + c := by omega
theorem ent_eq {h : HSt} {s : Nat → Int32} (r : RelS h s) : ∀ n, n ≤ 48 → Ment s n = nI (Hent (hR h) n) := by
  intro n
  induction n with
  | zero => exact fun _ => rfl
  | succ n ih =>
    intro hn
    have e : s (69 + n) = hR h n := r.2.1 n hn
    show Ment s n + bI (¬ s (69 + n) ≤ 0) = nI (if hR h n ≤ 0 then Hent (hR h) n else Hent (hR h) n + 1)
    rw [ih (by omega)]
    by_cases c : hR h n ≤ 0
    · rw [if_pos c, bI_f (by rw [e]; exact not_not_intro c), nI_add, Nat.add_zero]
    · rw [if_neg c, bI_t (by rw [e]; exact c), nI_add]
theorem wan_eq {h : HSt} {s : Nat → Int32} (r : RelS h s) {c : Nat} (hc : c < 6) : ∀ n, n ≤ 8 → Mwan s c n = Hwant h c n := by
  intro n
  induction n with
  | zero => exact fun _ => rfl
  | succ n ih =>
    intro hn
    have e : s (21 + (6 * n + c)) = hL h (n * 6 + c) := by rw [mul6]; exact r.1 _ (by omega)
    show Mwan s c n ||| (if ¬ s (21 + (6 * n + c)) ≤ 0 then bit n else nI 0) = if ¬ hL h (n * 6 + c) ≤ 0 then Hwant h c n ||| bit n else Hwant h c n
    rw [ih (by omega), e]
    by_cases d : hL h (n * 6 + c) ≤ 0
    · rw [if_neg (not_not_intro d), if_neg (not_not_intro d), nz, Int32.or_zero]
    · rw [if_pos d, if_pos d]
def wB (h : HSt) (c r : Nat) : Bool := decide (¬ hL h (r * 6 + c) ≤ 0)
def gB (h : HSt) (c r : Nat) : Bool := opb (hop h) r || decide (¬ hR h (r * 6 + c) ≤ 0)
theorem want_orb (h : HSt) (c : Nat) : ∀ n, Hwant h c n = orb (wB h c) n := by
  intro n
  induction n with
  | zero => rfl
  | succ n ih =>
    show (if ¬ hL h (n * 6 + c) ≤ 0 then Hwant h c n ||| bit n else Hwant h c n) = orb (wB h c) n ||| (if wB h c n = true then bit n else nI 0)
    rw [ih]
    by_cases d : hL h (n * 6 + c) ≤ 0
    · rw [if_neg (not_not_intro d), if_neg (by unfold wB; simp [d]), nz, Int32.or_zero]
    · rw [if_pos d, if_pos (by unfold wB; simp [d])]
def reN (h : HSt) (c r : Nat) : Bool := decide (¬ hR h (r * 6 + c) ≤ 0)
theorem get_re (h : HSt) (c : Nat) : ∀ n, Hget h c n = hop h ||| orb (reN h c) n := by
  intro n
  induction n with
  | zero => exact Int32.or_zero.symm
  | succ n ih =>
    show (if hR h (n * 6 + c) ≤ 0 then Hget h c n else Hget h c n ||| bit n) = hop h ||| (orb (reN h c) n ||| (if reN h c n = true then bit n else nI 0))
    rw [ih]
    by_cases d : hR h (n * 6 + c) ≤ 0
    · rw [if_pos d, if_neg (by unfold reN; simp [d]), nz, Int32.or_zero]
    · rw [if_neg d, if_pos (by unfold reN; simp [d]), Int32.or_assoc]
theorem or4 (a b c : Int32) : (a ||| c) ||| (b ||| c) = (a ||| b) ||| c := by
  rw [Int32.or_assoc a c, ← Int32.or_assoc c b c, Int32.or_comm c b, Int32.or_assoc b c c, Int32.or_self, ← Int32.or_assoc]
theorem orb_or (P Q : Nat → Bool) (n : Nat) : orb P n ||| orb Q n = orb (fun k => P k || Q k) n := by
  induction n with
  | zero => exact (by decide : nI 0 ||| nI 0 = nI 0)
  | succ n ih =>
    show (orb P n ||| (if P n = true then bit n else nI 0)) ||| (orb Q n ||| (if Q n = true then bit n else nI 0)) = orb (fun k => P k || Q k) n ||| (if (P n || Q n) = true then bit n else nI 0)
    rw [← ih]
    cases P n <;> cases Q n
    · simp [nz]
    · simp [nz, Int32.or_assoc]
    · simp only [Bool.false_eq_true, if_false, if_true, Bool.or_false, nz, Int32.or_zero]
      rw [Int32.or_assoc, Int32.or_comm (bit n), ← Int32.or_assoc]
    · simp only [if_true, Bool.or_self]
      exact or4 _ _ _
theorem get_orb {h : HSt} (i : Inv h) (c : Nat) : Hget h c 8 = orb (gB h c) 8 := by
  obtain ⟨w, hw, e⟩ := i.2.2.2.2.2.2
  rw [get_re]
  have h1 : orb (opb (hop h)) 8 = hop h := by rw [e]; exact opb_all w hw
  have h2 := orb_or (opb (hop h)) (reN h c) 8
  rw [h1] at h2
  exact h2
theorem goes_gB {h : HSt} {s : Nat → Int32} (r : RelS h s) {c n : Nat} (hc : c < 6) (hn : n < 8) : Mgoes s n c ↔ gB h c n = true := by
  have e1 : s (13 + n) = bI (Hopen h n) := r.2.2.2.2.2.2.2.2.2.2 n hn
  have e2 : s (69 + (6 * n + c)) = hR h (n * 6 + c) := by rw [mul6]; exact r.2.1 _ (by omega)
  have e3 : (bI (Hopen h n) = nI 1) ↔ Hopen h n := by
    by_cases d : Hopen h n
    · rw [bI_t d]; exact ⟨fun _ => d, fun _ => rfl⟩
    · rw [bI_f d]; exact ⟨fun z => absurd z (by decide), fun z => absurd z d⟩
  unfold gB opb Mgoes
  rw [e1, e2, e3, Bool.or_eq_true, decide_eq_true_iff, decide_eq_true_iff]
theorem wants_wB {h : HSt} {s : Nat → Int32} (r : RelS h s) {c n : Nat} (hc : c < 6) (hn : n < 8) : Mwants s n c ↔ wB h c n = true := by
  have e2 : s (21 + (6 * n + c)) = hL h (n * 6 + c) := by rw [mul6]; exact r.1 _ (by omega)
  unfold wB Mwants
  rw [e2, decide_eq_true_iff]
theorem row_orb {h : HSt} {s : Nat → Int32} (r : RelS h s) {c : Nat} (hc : c < 6) : ∀ n, n ≤ 8 → Mrow s c n = orb (gB h c) n := by
  intro n
  induction n with
  | zero => exact fun _ => rfl
  | succ n ih =>
    intro hn
    show Mrow s c n ||| (if Mgoes s n c then bit n else nI 0) = orb (gB h c) n ||| (if gB h c n = true then bit n else nI 0)
    rw [ih (by omega)]
    by_cases d : Mgoes s n c
    · rw [if_pos d, if_pos ((goes_gB r hc hn).mp d)]
    · rw [if_neg d, if_neg (fun z => d ((goes_gB r hc hn).mpr z))]
theorem row_eq {h : HSt} {s : Nat → Int32} (r : RelS h s) (i : Inv h) {c : Nat} (hc : c < 6) : Mrow s c 8 = Hget h c 8 := by
  rw [get_orb i, row_orb r hc 8 (Nat.le_refl 8)]
theorem asks_eq {h : HSt} {s : Nat → Int32} (r : RelS h s) (i : Inv h) : MasksIn s = HasksIn h := by
  have e6 : s 6 = hsn h := r.2.2.2.2.2.2.2.2.2.1
  obtain ⟨d, hd, ed⟩ := tbq_nat i
  obtain ⟨t, ht, et⟩ := i.2.2.2.2.2.1
  unfold MasksIn HasksIn
  rw [due_eq r, e6, ed, et]
  by_cases c : t < d
  · rw [pk_sub (by omega)]
    by_cases c2 : 1 < d - t
    · rw [if_pos ((nI_leI (by decide) (by omega)).mpr (by omega)), if_pos ((nI_ltI (by decide) (by omega)).mpr c2)]
    · rw [if_neg (fun z => c2 ((nI_ltI (by decide) (by omega)).mp z)), if_pos ((nI_leI (by decide) (by omega)).mpr (by omega))]
      rw [show d - t = 1 by omega]
  · have hsmall : ∀ d, d < 61 → ∀ t, t < 60 → d ≤ t → ¬ nI 1 ≤ nI d - nI t ∧ ¬ nI 1 < nI d - nI t := by decide +kernel
    obtain ⟨g1, g2⟩ := hsmall d (by omega) t (by omega) (by omega)
    rw [if_neg g1, if_neg g2]
/-! playing -/
theorem play_ge (s : Nat → Int32) (c : Nat) : ∀ n j, 10 ≤ j → MplayN s c n j = s j := by
  intro n
  induction n with
  | zero => exact fun _ _ => rfl
  | succ n ih =>
    intro j hj
    show Mp1 (MplayN s c n) _ _ j = s j
    unfold Mp1
    rw [pk_un (by omega), pk_un (by omega), pk_un (by omega)]
    exact ih j hj
theorem play_lt (s : Nat → Int32) (c : Nat) : ∀ n j, j < 7 → MplayN s c n j = s j := by
  intro n
  induction n with
  | zero => exact fun _ _ => rfl
  | succ n ih =>
    intro j hj
    show Mp1 (MplayN s c n) _ _ j = s j
    unfold Mp1
    rw [pk_un (by omega), pk_un (by omega), pk_un (by omega)]
    exact ih j hj
end
section
/-! playing, beside the reference -/
theorem Mp1_7 (t : Nat → Int32) (P Q : Prop) [Decidable P] [Decidable Q] : Mp1 t P Q 7 = t 7 + bI (P ∧ Q) := by
  unfold Mp1
  rw [pk_un (by decide), pk_un (by decide), pk_us]
theorem Mp1_8 (t : Nat → Int32) (P Q : Prop) [Decidable P] [Decidable Q] : Mp1 t P Q 8 = t 8 + bI (P ∧ ¬ Q) := by
  unfold Mp1
  rw [pk_un (by decide), pk_us, pk_un (by decide)]
theorem Mp1_9 (t : Nat → Int32) (P Q : Prop) [Decidable P] [Decidable Q] : Mp1 t P Q 9 = t 9 + bI (¬ P ∧ Q) := by
  unfold Mp1
  rw [pk_us, pk_un (by decide), pk_un (by decide)]
theorem bI_b {P : Prop} [Decidable P] {b : Bool} (h : P ↔ b = true) : bI P = nI (if b = true then 1 else 0) := by
  by_cases c : P
  · rw [bI_t c, if_pos (h.mp c)]
  · rw [bI_f c, if_neg (fun z => c (h.mpr z))]
theorem play_st {h : HSt} {s : Nat → Int32} (r : RelS h s) {c : Nat} (hc : c < 6) : ∀ n, n ≤ 8 → MplayN s c n 7 = s 7 + nI (cnb (fun k => gB h c k && wB h c k) n) ∧ MplayN s c n 8 = s 8 + nI (cnb (fun k => gB h c k && !wB h c k) n) ∧ MplayN s c n 9 = s 9 + nI (cnb (fun k => wB h c k && !gB h c k) n) ∧ MplayQ s c n = nI (cnb (gB h c) n) := by
  intro n
  induction n with
  | zero =>
    intro _
    have z : ∀ x : Int32, x + nI 0 = x := fun x => by rw [nz, Int32.add_zero]
    exact ⟨(z _).symm, (z _).symm, (z _).symm, rfl⟩
  | succ n ih =>
    intro hn
    obtain ⟨i7, i8, i9, iq⟩ := ih (by omega)
    have hP : Mgoes (MplayN s c n) n c ↔ gB h c n = true := by
      rw [← goes_gB r hc hn]
      show (MplayN s c n (13 + n) = nI 1 ∨ ¬ MplayN s c n (69 + (6 * n + c)) ≤ 0) ↔ (s (13 + n) = nI 1 ∨ ¬ s (69 + (6 * n + c)) ≤ 0)
      rw [play_ge s c n _ (by omega), play_ge s c n _ (by omega)]
    have hQ : Mwants (MplayN s c n) n c ↔ wB h c n = true := by
      rw [← wants_wB r hc hn]
      show ¬ MplayN s c n (21 + (6 * n + c)) ≤ 0 ↔ ¬ s (21 + (6 * n + c)) ≤ 0
      rw [play_ge s c n _ (by omega)]
    have e7 : MplayN s c (n + 1) 7 = MplayN s c n 7 + bI (Mgoes (MplayN s c n) n c ∧ Mwants (MplayN s c n) n c) := Mp1_7 _ _ _
    have e8 : MplayN s c (n + 1) 8 = MplayN s c n 8 + bI (Mgoes (MplayN s c n) n c ∧ ¬ Mwants (MplayN s c n) n c) := Mp1_8 _ _ _
    have e9 : MplayN s c (n + 1) 9 = MplayN s c n 9 + bI (¬ Mgoes (MplayN s c n) n c ∧ Mwants (MplayN s c n) n c) := Mp1_9 _ _ _
    have eq : MplayQ s c (n + 1) = MplayQ s c n + bI (Mgoes (MplayN s c n) n c) := rfl
    rw [bI_b (b := gB h c n && wB h c n) (by rw [hP, hQ, Bool.and_eq_true])] at e7
    rw [bI_b (b := gB h c n && !wB h c n) (by rw [hP, hQ]; cases gB h c n <;> cases wB h c n <;> simp)] at e8
    rw [bI_b (b := wB h c n && !gB h c n) (by rw [hP, hQ]; cases gB h c n <;> cases wB h c n <;> simp)] at e9
    rw [bI_b hP] at eq
    refine ⟨?_, ?_, ?_, ?_⟩
    · rw [e7, i7, Int32.add_assoc, nI_add]; rfl
    · rw [e8, i8, Int32.add_assoc, nI_add]; rfl
    · rw [e9, i9, Int32.add_assoc, nI_add]; rfl
    · rw [eq, iq, nI_add]; rfl
theorem play_q {h : HSt} {s : Nat → Int32} (r : RelS h s) (i : Inv h) {c : Nat} (hc : c < 6) : MplayQ s c 8 = bc (Hget h c 8) := by
  rw [(play_st r hc 8 (Nat.le_refl 8)).2.2.2, get_orb i, bc_orb]
theorem rel_play {h : HSt} {s : Nat → Int32} (r : RelS h s) (i : Inv h) {c : Nat} (hc : c < 6) : RelS (Hperf c h) (MplayN s c 8) := by
  obtain ⟨p7, p8, p9, -⟩ := play_st r hc 8 (Nat.le_refl 8)
  have ge := play_ge s c 8
  have lt := play_lt s c 8
  generalize MplayN s c 8 = t at p7 p8 p9 ge lt ⊢
  obtain ⟨r1, r2, r3, r4, r5, r6, r7, r8, r9, r10, r11⟩ := r
  refine ⟨fun k hk => ?_, fun k hk => ?_, fun k hk => ?_, ?_, ?_, ?_, ?_, ?_, ?_, ?_, fun j hj => ?_⟩
  · rw [ge _ (by omega)]; exact r1 k hk
  · rw [ge _ (by omega)]; exact r2 k hk
  · show t (7 + k) = HperfC (hC h) (Hget h c 8) (Hwant h c 8) k
    unfold HperfC
    have e0 := r3 0 (by decide)
    have e1 := r3 1 (by decide)
    have e2 := r3 2 (by decide)
    rcases (by omega : k = 0 ∨ k = 1 ∨ k = 2 ∨ 3 ≤ k) with rfl | rfl | rfl | h3
    · rw [pk_un (by decide), pk_un (by decide), pk_us, ← e0, get_orb i, want_orb, orb_and _ _ 8 (Nat.le_refl 8), bc_orb]; exact p7
    · rw [pk_un (by decide), pk_us, pk_un (by decide), ← e1, get_orb i, want_orb, orb_not _ _ 8 (Nat.le_refl 8), bc_orb]; exact p8
    · rw [pk_us, pk_un (by decide), pk_un (by decide), ← e2, get_orb i, want_orb, orb_not _ _ 8 (Nat.le_refl 8), bc_orb]; exact p9
    · rw [pk_un (by omega), pk_un (by omega), pk_un (by omega), ge _ (by omega)]; exact r3 k hk
  · rw [lt _ (by decide)]; exact r4
  · rw [lt _ (by decide)]; exact r5
  · rw [lt _ (by decide)]; exact r6
  · rw [lt _ (by decide)]; exact r7
  · rw [lt _ (by decide)]; exact r8
  · rw [lt _ (by decide)]; exact r9
  · rw [lt _ (by decide)]; exact r10
  · rw [ge _ (by omega)]; exact r11 j hj
theorem inv_play {h : HSt} (i : Inv h) (c : Nat) : Inv (Hperf c h) := i
/-! rests as minutes go by -/
theorem fadeN_at (R : Nat → Int32) (k : Nat) : ∀ n, HfadeN R n k = if k < n then (if R k ≤ 0 then R k else R k - nI 1) else R k := by
  intro n
  induction n with
  | zero => rw [if_neg (Nat.not_lt_zero k)]; rfl
  | succ n ih =>
    show (if HfadeN R n n ≤ 0 then HfadeN R n else upd (HfadeN R n) n (HfadeN R n n - nI 1)) k = _
    by_cases e : k = n
    · subst e
      rw [if_neg (Nat.lt_irrefl k)] at ih
      rw [if_pos (Nat.lt_succ_self k)]
      by_cases c : R k ≤ 0
      · rw [if_pos (by rw [ih]; exact c), if_pos c, ih]
      · rw [if_neg (by rw [ih]; exact c), if_neg c, pk_us, ih]
    · have e2 : (if HfadeN R n n ≤ 0 then HfadeN R n else upd (HfadeN R n) n (HfadeN R n n - nI 1)) k = HfadeN R n k := by
        by_cases c : HfadeN R n n ≤ 0
        · rw [if_pos c]
        · rw [if_neg c, pk_un e]
      rw [e2, ih]
      by_cases c : k < n
      · rw [if_pos c, if_pos (show k < n + 1 by omega)]
      · rw [if_neg c, if_neg (show ¬ k < n + 1 by omega)]
theorem askN_L (h : HSt) (n : Nat) : hL (HaskN h n) = hL h ∧ hfd (HaskN h n) = hfd h ∧ hop (HaskN h n) = hop h ∧ hsn (HaskN h n) = hsn h ∧ Htbq (HaskN h n) = Htbq h := by
  induction n with
  | zero => exact ⟨rfl, rfl, rfl, rfl, rfl⟩
  | succ n ih =>
    have e : HaskN h (n + 1) = if ¬ hL (HaskN h n) n ≤ 0 then Hcall n (HaskN h n) else HaskN h n := rfl
    rw [e]
    by_cases c : ¬ hL (HaskN h n) n ≤ 0
    · rw [if_pos c]; exact ih
    · rw [if_neg c]; exact ih
theorem askN_R (h : HSt) (k : Nat) : ∀ n, hR (HaskN h n) k = if k < n ∧ ¬ hL h k ≤ 0 then hfd h else hR h k := by
  intro n
  induction n with
  | zero => rw [if_neg (fun z => absurd z.1 (Nat.not_lt_zero k))]; rfl
  | succ n ih =>
    have e : HaskN h (n + 1) = if ¬ hL (HaskN h n) n ≤ 0 then Hcall n (HaskN h n) else HaskN h n := rfl
    obtain ⟨eL, ef, -⟩ := askN_L h n
    rw [e, eL]
    by_cases c : ¬ hL h n ≤ 0
    · rw [if_pos c]
      show upd (hR (HaskN h n)) n (hfd (HaskN h n)) k = _
      rw [ef]
      by_cases d : k = n
      · subst d; rw [pk_us, if_pos ⟨Nat.lt_succ_self k, c⟩]
      · rw [pk_un d, ih]
        by_cases g : k < n ∧ ¬ hL h k ≤ 0
        · rw [if_pos g, if_pos ⟨by omega, g.2⟩]
        · rw [if_neg g, if_neg (fun z => g ⟨by omega, z.2⟩)]
    · rw [if_neg c, ih]
      by_cases g : k < n ∧ ¬ hL h k ≤ 0
      · rw [if_pos g, if_pos ⟨by omega, g.2⟩]
      · rw [if_neg g, if_neg (fun z => by
          by_cases d : k = n
          · subst d; exact c z.2
          · exact g ⟨by omega, z.2⟩)]
/-- a rest, and the time since the question, after a minute -/
def stR (w : Prop) [Decidable w] (f d R t : Nat) : Nat := if t + 1 < d then R - 1 else if w then f else R - 1
def stT (d t : Nat) : Nat := if t + 1 < d then t + 1 else 0
theorem fade1 {R : Nat} (hR : R ≤ 60) : (if nI R ≤ 0 then nI R else nI R - nI 1) = nI (R - 1) := by
  by_cases c : R = 0
  · subst c; rw [if_pos ((le0 (by decide)).mpr rfl)]
  · rw [if_neg (fun z => c ((le0 (by omega)).mp z)), pk_sub (by omega)]
theorem min_keep (h : HSt) : hL (Hmin h) = hL h ∧ hfd (Hmin h) = hfd h ∧ hop (Hmin h) = hop h ∧ Htbq (Hmin h) = Htbq h := by
  unfold Hmin
  by_cases c : hsn (Htk h) < Htbq (Htk h)
  · rw [if_pos c, Htk_eq]
    generalize HfadeN (hR h) 48 = F
    exact ⟨rfl, rfl, rfl, rfl⟩
  · rw [if_neg c]
    unfold HaskAll
    obtain ⟨e1, e2, e3, -, e5⟩ := askN_L (Hcnt 3 (sHsn (Htk h) (nI 0))) 48
    rw [e1, e2, e3, e5, Htk_eq]
    generalize HfadeN (hR h) 48 = F
    exact ⟨rfl, rfl, rfl, rfl⟩
theorem min_RT {h : HSt} {k R t d f : Nat} (hk : k < 48) (eR : hR h k = nI R) (hR60 : R ≤ 60) (et : hsn h = nI t) (ht : t ≤ 59) (ed : Htbq h = nI d) (hd : d ≤ 60) (ef : hfd h = nI f) : hR (Hmin h) k = nI (stR (¬ hL h k ≤ 0) f d R t) ∧ hsn (Hmin h) = nI (stT d t) := by
  have e1 : hsn (Htk h) = nI (t + 1) := by rw [hsn_tk, et, nI_add]
  have eF : hR (Htk h) k = nI (R - 1) := by
    have g := fadeN_at (hR h) k 48
    rw [if_pos hk, eR, fade1 hR60] at g
    rw [Htk_eq]
    generalize HfadeN (hR h) 48 = F at g ⊢
    exact g
  unfold Hmin stR stT
  rw [e1, tbq_tk, ed]
  by_cases c : t + 1 < d
  · rw [if_pos ((nI_ltI (by omega) (by omega)).mpr c), if_pos c, if_pos c]
    exact ⟨eF, e1⟩
  · rw [if_neg (fun z => c ((nI_ltI (by omega) (by omega)).mp z)), if_neg c, if_neg c]
    unfold HaskAll
    refine ⟨?_, ?_⟩
    · have eL : hL (Hcnt 3 (sHsn (Htk h) (nI 0))) = hL h := by
        rw [Htk_eq]
      have ef2 : hfd (Hcnt 3 (sHsn (Htk h) (nI 0))) = nI f := by
        rw [Htk_eq]
        generalize HfadeN (hR h) 48 = F
        exact ef
      have eR2 : hR (Hcnt 3 (sHsn (Htk h) (nI 0))) k = nI (R - 1) := by
        rw [Htk_eq] at eF ⊢
        generalize HfadeN (hR h) 48 = F at eF ⊢
        exact eF
      rw [askN_R, eL, ef2, eR2]
      by_cases w : ¬ hL h k ≤ 0
      · rw [if_pos ⟨hk, w⟩, if_pos w]
      · rw [if_neg (fun z => w z.2), if_neg w]
    · rw [(askN_L (Hcnt 3 (sHsn (Htk h) (nI 0))) 48).2.2.2.1]
/-- rest and time after n minutes -/
def sq (w : Prop) [Decidable w] (f d R t : Nat) : Nat → Nat × Nat
  | 0 => (R, t)
  | n + 1 => (stR w f d (sq w f d R t n).1 (sq w f d R t n).2, stT d (sq w f d R t n).2)
theorem pass_keep (h : HSt) (n : Nat) : hL (HpassN h n) = hL h ∧ hfd (HpassN h n) = hfd h ∧ hop (HpassN h n) = hop h ∧ Htbq (HpassN h n) = Htbq h := by
  induction n with
  | zero => exact ⟨rfl, rfl, rfl, rfl⟩
  | succ n ih =>
    have e : HpassN h (n + 1) = Hmin (HpassN h n) := rfl
    obtain ⟨a, b, c, d⟩ := min_keep (HpassN h n)
    rw [e, a, b, c, d]
    exact ih
theorem sq_le {w : Prop} [Decidable w] {f d R t : Nat} (hf : f ≤ 60) (hd : d ≤ 60) (hR : R ≤ 60) (ht : t ≤ 59) (n : Nat) : (sq w f d R t n).1 ≤ 60 ∧ (sq w f d R t n).2 ≤ 59 := by
  induction n with
  | zero => exact ⟨hR, ht⟩
  | succ n ih =>
    show stR w f d (sq w f d R t n).1 (sq w f d R t n).2 ≤ 60 ∧ stT d (sq w f d R t n).2 ≤ 59
    unfold stR stT
    obtain ⟨a, b⟩ := ih
    refine ⟨?_, ?_⟩
    · (repeat' split) <;> omega
    · split <;> omega
theorem pass_RT {h : HSt} {k R t d f : Nat} (hk : k < 48) (eR : hR h k = nI R) (hR60 : R ≤ 60) (et : hsn h = nI t) (ht : t ≤ 59) (ed : Htbq h = nI d) (hd : d ≤ 60) (ef : hfd h = nI f) (hf : f ≤ 60) (n : Nat) : hR (HpassN h n) k = nI (sq (¬ hL h k ≤ 0) f d R t n).1 ∧ hsn (HpassN h n) = nI (sq (¬ hL h k ≤ 0) f d R t n).2 := by
  induction n with
  | zero => exact ⟨eR, et⟩
  | succ n ih =>
    obtain ⟨kL, kf, -, kd⟩ := pass_keep h n
    obtain ⟨b1, b2⟩ := sq_le (w := ¬ hL h k ≤ 0) hf hd hR60 ht n
    have z := min_RT (h := HpassN h n) hk ih.1 b1 ih.2 b2 (kd.trans ed) hd (kf.trans ef)
    have e : HpassN h (n + 1) = Hmin (HpassN h n) := rfl
    rw [e, z.1, z.2, kL]
    exact ⟨rfl, rfl⟩
theorem sq_f {w : Prop} [Decidable w] (hw : ¬ w) (f d R t n : Nat) : (sq w f d R t n).1 = R - n := by
  induction n with
  | zero => rfl
  | succ n ih =>
    show stR w f d (sq w f d R t n).1 (sq w f d R t n).2 = _
    unfold stR
    rw [if_neg hw, ite_self, ih]
    omega
/-- the minutes until the next question -/
def qN (d t : Nat) : Nat := if t < d then d - t else 1
theorem qN_pos (d t : Nat) : 1 ≤ qN d t := by unfold qN; split <;> omega
theorem sq_1 {w : Prop} [Decidable w] (f d R t n : Nat) (hn : n < qN d t) : sq w f d R t n = (R - n, t + n) := by
  induction n with
  | zero => rfl
  | succ n ih =>
    have h2 : t + n + 1 < d := by unfold qN at hn; split at hn <;> omega
    show (stR w f d (sq w f d R t n).1 (sq w f d R t n).2, stT d (sq w f d R t n).2) = _
    rw [ih (by omega)]
    unfold stR stT
    show ((if t + n + 1 < d then R - n - 1 else if w then f else R - n - 1), (if t + n + 1 < d then t + n + 1 else 0)) = _
    rw [if_pos h2, if_pos h2]
    rfl
theorem sq_q {w : Prop} [Decidable w] (hw : w) (f d R t : Nat) : sq w f d R t (qN d t) = (f, 0) := by
  have h1 := qN_pos d t
  obtain ⟨q, hq⟩ : ∃ q, qN d t = q + 1 := ⟨qN d t - 1, by omega⟩
  have h2 : ¬ t + q + 1 < d := by unfold qN at hq; split at hq <;> omega
  rw [hq]
  show (stR w f d (sq w f d R t q).1 (sq w f d R t q).2, stT d (sq w f d R t q).2) = _
  rw [sq_1 f d R t q (by omega)]
  unfold stR stT
  show ((if t + q + 1 < d then R - q - 1 else if w then f else R - q - 1), (if t + q + 1 < d then t + q + 1 else 0)) = _
  rw [if_neg h2, if_neg h2, if_pos hw]
theorem sq_add {w : Prop} [Decidable w] (f d R t a n : Nat) : sq w f d R t (a + n) = sq w f d (sq w f d R t a).1 (sq w f d R t a).2 n := by
  induction n with
  | zero => rfl
  | succ n ih =>
    show (stR w f d (sq w f d R t (a + n)).1 (sq w f d R t (a + n)).2, stT d (sq w f d R t (a + n)).2) = _
    rw [ih]
    rfl
/-- with a listener: gone in the cycle behind the question, or never -/
theorem sq_2 {w : Prop} [Decidable w] (hw : w) (f d R t n : Nat) (hn : n < d) : sq w f d R t (qN d t + n) = (f - n, n) := by
  rw [sq_add, sq_q hw]
  have h := sq_1 (w := w) f d f 0 n (by unfold qN; rw [if_pos (by omega)]; exact hn)
  rw [h, Nat.zero_add]
theorem sq_ever {w : Prop} [Decidable w] (hw : w) (f d R t n : Nat) (hd : 1 ≤ d) (hf : d ≤ f) : ∃ j, j < d ∧ sq w f d R t (qN d t + n) = (f - j, j) := by
  induction n with
  | zero => exact ⟨0, hd, by rw [Nat.add_zero, sq_q hw]; rfl⟩
  | succ n ih =>
    obtain ⟨j, hj, e⟩ := ih
    have e2 : sq w f d R t (qN d t + (n + 1)) = (stR w f d (sq w f d R t (qN d t + n)).1 (sq w f d R t (qN d t + n)).2, stT d (sq w f d R t (qN d t + n)).2) := rfl
    rw [e2, e]
    unfold stR stT
    by_cases c : j + 1 < d
    · refine ⟨j + 1, c, ?_⟩
      show ((if j + 1 < d then f - j - 1 else if w then f else f - j - 1), (if j + 1 < d then j + 1 else 0)) = _
      rw [if_pos c, if_pos c]; rfl
    · refine ⟨0, hd, ?_⟩
      show ((if j + 1 < d then f - j - 1 else if w then f else f - j - 1), (if j + 1 < d then j + 1 else 0)) = _
      rw [if_neg c, if_neg c, if_pos hw]; rfl
/-! fading -/
theorem Mst_hit {s : Nat → Int32} {k e : Nat} (he : MgoN s e (69 + k) ≤ 0) : ∀ m i, i ≤ e → e ≤ i + m → (∀ j, i ≤ j → j < e → ¬ MgoN s j (69 + k) ≤ 0) → Mst s k i m = e := by
  intro m
  induction m with
  | zero => exact fun i h1 h2 _ => by show i = e; omega
  | succ m ih =>
    intro i h1 h2 h3
    show (if MgoN s i (69 + k) ≤ 0 then i else Mst s k (i + 1) m) = e
    by_cases c : i = e
    · subst c; rw [if_pos he]
    · rw [if_neg (h3 i (Nat.le_refl i) (by omega))]
      exact ih (i + 1) (by omega) (by omega) (fun j hj => h3 j (by omega))
theorem Mst_miss {s : Nat → Int32} {k : Nat} : ∀ m i, (∀ j, i ≤ j → j < i + m → ¬ MgoN s j (69 + k) ≤ 0) → Mst s k i m = i + m := by
  intro m
  induction m with
  | zero => exact fun i _ => rfl
  | succ m ih =>
    intro i h
    show (if MgoN s i (69 + k) ≤ 0 then i else Mst s k (i + 1) m) = i + (m + 1)
    rw [if_neg (h i (Nat.le_refl i) (by omega)), ih (i + 1) (fun j h1 h2 => h j (by omega) (by omega))]
    omega
theorem asks_nat {h : HSt} {d t : Nat} (ed : Htbq h = nI d) (hd : d ≤ 60) (et : hsn h = nI t) (ht : t ≤ 59) : HasksIn h = nI (qN d t) := by
  unfold HasksIn qN
  rw [ed, et]
  by_cases c : t < d
  · rw [if_pos c, pk_sub (by omega)]
    by_cases c2 : 1 < d - t
    · rw [if_pos ((nI_ltI (by decide) (by omega)).mpr c2)]
    · rw [if_neg (fun z => c2 ((nI_ltI (by decide) (by omega)).mp z)), show d - t = 1 by omega]
  · have hsmall : ∀ d, d < 61 → ∀ t, t < 60 → d ≤ t → ¬ nI 1 < nI d - nI t := by decide +kernel
    rw [if_neg c, if_neg (hsmall d (by omega) t (by omega) (by omega))]
theorem fades_eq {h : HSt} {s : Nat → Int32} (r : RelS h s) (i : Inv h) {k : Nat} (hk : k < 48) : Mfd s k = HfadesIn k h := by
  obtain ⟨R, hR60, eR⟩ := i.2.1 k hk
  obtain ⟨f, hf, ef⟩ := i.2.2.1
  obtain ⟨t, ht, et⟩ := i.2.2.2.2.2.1
  obtain ⟨d, hd, ed⟩ := tbq_nat i
  have hq := asks_nat ed hd.2 et ht
  have qle : qN d t ≤ 60 := by unfold qN; split <;> omega
  have q1 := qN_pos d t
  have hv : ∀ j, MgoN s j (69 + k) = nI (sq (¬ hL h k ≤ 0) f d R t j).1 := fun j => by
    have e : MgoN s j (69 + k) = hR (HpassN h j) k := (rel_pass r j).2.1 k hk
    rw [e]
    exact (pass_RT hk eR hR60 et ht ed hd.2 ef hf.2 j).1
  have hb : ∀ j, (sq (¬ hL h k ≤ 0) f d R t j).1 ≤ 60 := fun j => (sq_le hf.2 hd.2 hR60 ht j).1
  have z0 : ∀ j, MgoN s j (69 + k) ≤ 0 ↔ (sq (¬ hL h k ≤ 0) f d R t j).1 = 0 := fun j => by
    rw [hv j]; exact le0 (by have := hb j; omega)
  have hit : ∀ e, e ≤ 150 → (sq (¬ hL h k ≤ 0) f d R t e).1 = 0 → (∀ j, j < e → (sq (¬ hL h k ≤ 0) f d R t j).1 ≠ 0) → Mfd s k = nI e := by
    intro e h1 h2 h3
    have h4 := Mst_hit (s := s) (k := k) ((z0 e).mpr h2) 150 0 (Nat.zero_le e) (by omega) (fun j _ hj z => h3 j hj ((z0 j).mp z))
    unfold Mfd
    rw [h4, if_pos ((z0 e).mpr h2)]
  unfold HfadesIn
  rw [eR, hq, ed, ef]
  by_cases w : ¬ hL h k ≤ 0
  · rw [if_pos w]
    by_cases c : qN d t ≤ R
    · rw [if_pos ((nI_leI (by omega) (by omega)).mpr c)]
      by_cases c2 : d ≤ f
      · rw [if_pos ((nI_leI (by omega) (by omega)).mpr c2)]
        have never : ∀ j, (sq (¬ hL h k ≤ 0) f d R t j).1 ≠ 0 := by
          intro j
          by_cases c3 : j < qN d t
          · rw [sq_1 f d R t j c3]; show R - j ≠ 0; omega
          · obtain ⟨x, hx, e⟩ := sq_ever w f d R t (j - qN d t) hd.1 c2
            rw [show qN d t + (j - qN d t) = j by omega] at e
            rw [e]; show f - x ≠ 0; omega
        have h4 := Mst_miss (s := s) (k := k) 150 0 (fun j _ _ z => never j ((z0 j).mp z))
        unfold Mfd
        rw [h4, if_neg (fun z => never _ ((z0 _).mp z))]
      · rw [if_neg (fun z => c2 ((nI_leI (by omega) (by omega)).mp z)), nI_add]
        refine hit (qN d t + f) (by omega) ?_ (fun j hj => ?_)
        · rw [sq_2 w f d R t f (by omega)]; show f - f = 0; omega
        · by_cases c3 : j < qN d t
          · rw [sq_1 f d R t j c3]; show R - j ≠ 0; omega
          · have e := sq_2 w f d R t (j - qN d t) (by omega)
            rw [show qN d t + (j - qN d t) = j by omega] at e
            rw [e]; show f - (j - qN d t) ≠ 0; omega
    · rw [if_neg (fun z => c ((nI_leI (by omega) (by omega)).mp z))]
      refine hit R (by omega) ?_ (fun j hj => ?_)
      · rw [sq_1 f d R t R (by omega)]; show R - R = 0; omega
      · rw [sq_1 f d R t j (by omega)]; show R - j ≠ 0; omega
  · rw [if_neg w]
    refine hit R (by omega) ?_ (fun j hj => ?_)
    · rw [sq_f w]; omega
    · rw [sq_f w]; omega
/-! disturbed -/
theorem dist_eq {h : HSt} {s : Nat → Int32} (r : RelS h s) (i : Inv h) {c x : Nat} (hc : c < 6) (hx : x ≤ 60) : ∀ n, n ≤ 8 → Mdist (MgoN s x) c n = nI (Hdist h c x n) := by
  obtain ⟨f, hf, ef⟩ := i.2.2.1
  obtain ⟨t, ht, et⟩ := i.2.2.2.2.2.1
  obtain ⟨d, hd, ed⟩ := tbq_nat i
  have rp := rel_pass r x
  obtain ⟨kL, -, ko, -⟩ := pass_keep h x
  intro n
  induction n with
  | zero => exact fun _ => rfl
  | succ n ih =>
    intro hn
    have ih := ih (by omega)
    have hk : n * 6 + c < 48 := by omega
    obtain ⟨R, hR60, eR⟩ := i.2.1 (n * 6 + c) hk
    have hP := goes_gB rp hc (n := n) hn
    have hQ := wants_wB rp hc (n := n) hn
    have e1 : Mdist (MgoN s x) c (n + 1) = Mdist (MgoN s x) c n + bI (Mgoes (MgoN s x) n c ∧ ¬ Mwants (MgoN s x) n c) := rfl
    have e2 : Hdist h c x (n + 1) = if ¬ hL h (n * 6 + c) ≤ 0 then Hdist h c x n else if Hopen h n then Hdist h c x n + 1 else if hR h (n * 6 + c) ≤ nI x then Hdist h c x n else Hdist h c x n + 1 := rfl
    rw [e1, e2, ih]
    have wE : wB (HpassN h x) c n = decide (¬ hL h (n * 6 + c) ≤ 0) := by unfold wB; rw [kL]
    have rE : hR (HpassN h x) (n * 6 + c) = nI (sq (¬ hL h (n * 6 + c) ≤ 0) f d R t x).1 := (pass_RT hk eR hR60 et ht ed hd.2 ef hf.2 x).1
    by_cases w : ¬ hL h (n * 6 + c) ≤ 0
    · rw [if_pos w, bI_f (fun z => z.2 (by rw [hQ, wE]; exact decide_eq_true w)), nI_add, Nat.add_zero]
    · rw [if_neg w]
      have nw : ¬ Mwants (MgoN s x) n c := by rw [hQ, wE]; intro z; exact w (of_decide_eq_true z)
      rw [sq_f w] at rE
      have gE : gB (HpassN h x) c n = true ↔ (Hopen h n ∨ ¬ R ≤ x) := by
        unfold gB opb
        rw [Bool.or_eq_true, decide_eq_true_iff, decide_eq_true_iff, ko, rE, le0 (by omega)]
        have e : R - x = 0 ↔ R ≤ x := by omega
        rw [e]
      by_cases o : Hopen h n
      · rw [if_pos o, bI_t ⟨hP.mpr (gE.mpr (Or.inl o)), nw⟩, nI_add]
      · rw [if_neg o, eR]
        by_cases c2 : R ≤ x
        · rw [if_pos ((nI_leI (by omega) (by omega)).mpr c2), bI_f (fun z => (gE.mp (hP.mp z.1)).elim o (fun y => y c2)), nI_add, Nat.add_zero]
        · rw [if_neg (fun z => c2 ((nI_leI (by omega) (by omega)).mp z)), bI_t ⟨hP.mpr (gE.mpr (Or.inr c2)), nw⟩, nI_add]
/-! the digest -/
theorem dgC_eq {f g : Nat → Int32} (x : Int64) : ∀ n, (∀ j, j < n → f (7 + j) = g j) → MdgC f x n = DgC g x n := by
  intro n
  induction n with
  | zero => exact fun _ => rfl
  | succ n ih =>
    intro h
    show mixI (MdgC f x n) (f (7 + n)) = mixI (DgC g x n) (g n)
    rw [ih (fun j hj => h j (by omega)), h n (by omega)]
theorem dgM_eq {h : HSt} {s : Nat → Int32} (r : RelS h s) (i : Inv h) (x : Int64) : ∀ n, n ≤ 6 → MdgM s x n = DgM h x n := by
  intro n
  induction n with
  | zero => exact fun _ => rfl
  | succ n ih =>
    intro hn
    show mixI (mixI (MdgM s x n) (Mrow s n 8)) (Mwan s n 8) = mixI (mixI (DgM h x n) (Hget h n 8)) (Hwant h n 8)
    rw [ih (by omega), row_eq r i hn, wan_eq r hn 8 (Nat.le_refl 8)]
theorem dgK_in {h : HSt} {s : Nat → Int32} (r : RelS h s) (i : Inv h) (x : Int64) {q : Nat} (hq : q < 8) : ∀ j, j < 6 → MdgK s x (6 * q + (j + 1)) = DgK h q (mixI (MdgK s x (6 * q)) (bI (Hopen h q))) (j + 1) := by
  have step : ∀ n y, n < 48 → mixI (mixI (mixI y (s (21 + n))) (s (69 + n))) (Mfd s n) = mixI (mixI (mixI y (hL h n)) (hR h n)) (HfadesIn n h) := fun n y hn => by
    rw [fades_eq r i hn, r.1 n hn, r.2.1 n hn]
  intro j
  induction j with
  | zero =>
    intro _
    show mixI (mixI (mixI (MdgK1 s (MdgK s x (6 * q)) (6 * q)) (s (21 + 6 * q))) (s (69 + 6 * q))) (Mfd s (6 * q)) = mixI (mixI (mixI (mixI (MdgK s x (6 * q)) (bI (Hopen h q))) (hL h (q * 6 + 0))) (hR h (q * 6 + 0))) (HfadesIn (q * 6 + 0) h)
    rw [step (6 * q) _ (by omega), show q * 6 + 0 = 6 * q by omega]
    have e : MdgK1 s (MdgK s x (6 * q)) (6 * q) = mixI (MdgK s x (6 * q)) (bI (Hopen h q)) := by
      unfold MdgK1
      rw [if_pos (by omega), show 6 * q / 6 = q by omega, r.2.2.2.2.2.2.2.2.2.2 q hq]
    rw [e]
  | succ j ih =>
    intro hj
    have ih := ih (by omega)
    show mixI (mixI (mixI (MdgK1 s (MdgK s x (6 * q + (j + 1))) (6 * q + (j + 1))) (s (21 + (6 * q + (j + 1))))) (s (69 + (6 * q + (j + 1))))) (Mfd s (6 * q + (j + 1))) = mixI (mixI (mixI (DgK h q (mixI (MdgK s x (6 * q)) (bI (Hopen h q))) (j + 1)) (hL h (q * 6 + (j + 1)))) (hR h (q * 6 + (j + 1)))) (HfadesIn (q * 6 + (j + 1)) h)
    rw [step (6 * q + (j + 1)) _ (by omega), ← ih, show q * 6 + (j + 1) = 6 * q + (j + 1) by omega]
    have e : MdgK1 s (MdgK s x (6 * q + (j + 1))) (6 * q + (j + 1)) = MdgK s x (6 * q + (j + 1)) := by
      unfold MdgK1
      rw [if_neg (by omega)]
    rw [e]
theorem dgR_eq {h : HSt} {s : Nat → Int32} (r : RelS h s) (i : Inv h) (x : Int64) : ∀ q, q ≤ 8 → MdgK s x (6 * q) = DgR h x q := by
  intro q
  induction q with
  | zero => exact fun _ => rfl
  | succ q ih =>
    intro hq
    have e := dgK_in r i x (q := q) hq 5 (by decide)
    rw [show 6 * (q + 1) = 6 * q + (5 + 1) by omega, e, ih (by omega)]
    rfl
theorem dig_eq {h : HSt} {s : Nat → Int32} (r : RelS h s) (i : Inv h) : Mdig s = Udig h := by
  unfold Mdig Udig
  have e := dgR_eq r i (MdgM s (MdgC s (mixI (mixI (mixI (mixI (mixI 4701 (s 5)) (s 6)) (Mchief s)) (Ment s 48)) (MasksIn s)) 6) 6) 8 (Nat.le_refl 8)
  rw [show 6 * 8 = 48 from rfl] at e
  rw [e, dgM_eq r i _ 6 (Nat.le_refl 6), dgC_eq (g := hC h) _ 6 r.2.2.1, chief_eq r, ent_eq r 48 (Nat.le_refl 48), asks_eq r i, r.2.2.2.2.2.2.2.2.1, r.2.2.2.2.2.2.2.2.2.1]
end
section
/-! the text, read by both -/
theorem Sst_s {sg : Nat → Int32} {n a s : Nat} (h : Sst sg n a = s) : Sst sg n (a + 1) = Sta s (Tq sg n a) := by
  show Sta (Sst sg n a) _ = _
  rw [h]
theorem noF {q lo hi : Nat} (hq : q < 65536) (hlo : lo ≤ 9) (hhi : hi ≤ 9) (h : figW 1 q lo hi = 0) : ¬ (48 + lo ≤ q ∧ q ≤ 48 + hi) := fun z => by
  rw [figW_t hq hlo hhi (by decide) z.1 z.2] at h
  cases h
theorem rO_well {bf : Nat → Int32} {n : Nat} (hbf : Tok bf n) {a q r hi w : Nat} {rd : Nat → Int32} (hhi : hi ≤ 9) (hw2 : w < 2) (hF : (rO bf n (a + w) w q r hi rd).2.1 ≠ 0) : w = 1 ∧ (rO bf n (a + w) w q r hi rd).1 = a + 2 ∧ a + 2 ≤ n ∧ (48 ≤ Bq bf n (a + 1) ∧ Bq bf n (a + 1) ≤ 48 + hi) ∧ (rO bf n (a + w) w q r hi rd).2.2.1 = r + 1 ∧ (rO bf n (a + w) w q r hi rd).2.2.2 = upd (upd rd (3 * r) (nI q)) (3 * r + 1) (nI (Bq bf n (a + 1) - 48)) := by
  have hF2 : figW w (Bq bf n (a + w)) 0 hi ≠ 0 := hF
  obtain ⟨h0, h1, h2⟩ := figW_1 (Bq_lt hbf _) (by decide) hhi hF2
  obtain rfl : w = 1 := by omega
  have hf1 : figW 1 (Bq bf n (a + 1)) 0 hi = 1 := by have := figW_lt 1 (Bq bf n (a + 1)) 0 hi; omega
  have hin : a + 1 < n := Bq_in (bf := bf) (by omega)
  refine ⟨rfl, ?_, by omega, ⟨by omega, h2⟩, ?_, ?_⟩
  · show a + 1 + figW 1 (Bq bf n (a + 1)) 0 hi = a + 2; omega
  · show r + figW 1 (Bq bf n (a + 1)) 0 hi = r + 1; omega
  · show upd (upd rd (3 * r) (nI q)) (3 * r + 1) (nI (Bq bf n (a + 1)) - nI 48) = _
    rw [pk_sub (by omega)]
theorem rC_well {bf : Nat → Int32} {n : Nat} (hbf : Tok bf n) {a q r w : Nat} {rd : Nat → Int32} (hw2 : w < 2) (hF : (rC bf n (a + w) w q r rd).2.1 ≠ 0) : w = 1 ∧ (rC bf n (a + w) w q r rd).1 = a + 3 ∧ a + 3 ≤ n ∧ (48 ≤ Bq bf n (a + 1) ∧ Bq bf n (a + 1) ≤ 55) ∧ (48 ≤ Bq bf n (a + 2) ∧ Bq bf n (a + 2) ≤ 53) ∧ (rC bf n (a + w) w q r rd).2.2.1 = r + 1 ∧ (rC bf n (a + w) w q r rd).2.2.2 = upd (upd (upd rd (3 * r) (nI q)) (3 * r + 1) (nI (Bq bf n (a + 1) - 48))) (3 * r + 2) (nI (Bq bf n (a + 2) - 48)) := by
  have hF2 : figW (figW w (Bq bf n (a + w)) 0 7) (Bq bf n (a + w + figW w (Bq bf n (a + w)) 0 7)) 0 5 ≠ 0 := hF
  obtain ⟨h0, h1, h2⟩ := figW_1 (Bq_lt hbf _) (by decide) (by decide) hF2
  obtain ⟨g0, g1, g2⟩ := figW_1 (Bq_lt hbf _) (by decide) (by decide) h0
  obtain rfl : w = 1 := by omega
  have hf1 : figW 1 (Bq bf n (a + 1)) 0 7 = 1 := by have := figW_lt 1 (Bq bf n (a + 1)) 0 7; omega
  unfold rC
  rw [hf1] at h1 h2 hF2 ⊢
  have hf2 : figW 1 (Bq bf n (a + 1 + 1)) 0 5 = 1 := by have := figW_lt 1 (Bq bf n (a + 1 + 1)) 0 5; omega
  have hin : a + 1 + 1 < n := Bq_in (bf := bf) (by omega)
  refine ⟨rfl, ?_, by omega, ⟨by omega, g2⟩, ⟨h1, h2⟩, ?_, ?_⟩
  · show a + 1 + 1 + figW (figW 1 (Bq bf n (a + 1)) 0 7) (Bq bf n (a + 1 + 1)) 0 5 = a + 3
    rw [hf1, hf2]
  · show r + figW (figW 1 (Bq bf n (a + 1)) 0 7) (Bq bf n (a + 1 + 1)) 0 5 = r + 1
    rw [hf1, hf2]
  · show upd (upd (upd rd (3 * r) (nI q)) (3 * r + 1) (nI (Bq bf n (a + 1)) - nI 48)) (3 * r + 2) (nI (Bq bf n (a + 1 + 1)) - nI 48) = _
    rw [pk_sub (by omega), pk_sub h1]
abbrev stopN (bf : Nat → Int32) (n a : Nat) : Prop := ¬ ((48 ≤ Bq bf n (a + 2) ∧ Bq bf n (a + 2) ≤ 57) ∧ 10 * (Bq bf n (a + 1) - 48) + (Bq bf n (a + 2) - 48) ≤ 60)
theorem rT_well {bf : Nat → Int32} {n : Nat} (hbf : Tok bf n) {a q r w : Nat} {rd : Nat → Int32} (hw2 : w < 2) (hF : (rT bf n (a + w) w q r rd).2.1 ≠ 0) : w = 1 ∧ (49 ≤ Bq bf n (a + 1) ∧ Bq bf n (a + 1) ≤ 57) ∧ (rT bf n (a + w) w q r rd).2.2.1 = r + 1 ∧ (((rT bf n (a + w) w q r rd).1 = a + 2 ∧ a + 2 ≤ n ∧ stopN bf n a ∧ (rT bf n (a + w) w q r rd).2.2.2 = upd (upd rd (3 * r) (nI q)) (3 * r + 1) (nI (Bq bf n (a + 1) - 48))) ∨ ((rT bf n (a + w) w q r rd).1 = a + 3 ∧ a + 3 ≤ n ∧ ¬ stopN bf n a ∧ (rT bf n (a + w) w q r rd).2.2.2 = upd (upd rd (3 * r) (nI q)) (3 * r + 1) (nI (10 * (Bq bf n (a + 1) - 48) + (Bq bf n (a + 2) - 48))))) := by
  have hF2 : figW w (Bq bf n (a + w)) 1 9 ≠ 0 := hF
  obtain ⟨h0, h1, h2⟩ := figW_1 (Bq_lt hbf _) (by decide) (by decide) hF2
  obtain rfl : w = 1 := by omega
  have hf1 : figW 1 (Bq bf n (a + 1)) 1 9 = 1 := by have := figW_lt 1 (Bq bf n (a + 1)) 1 9; omega
  have hin : a + 1 < n := Bq_in (bf := bf) (by omega)
  refine ⟨rfl, ⟨h1, h2⟩, by show r + figW 1 (Bq bf n (a + 1)) 1 9 = r + 1; rw [hf1], ?_⟩
  have eA : (rT bf n (a + 1) 1 q r rd).1 = numA bf n (a + 1) 1 := rfl
  have eR : (rT bf n (a + 1) 1 q r rd).2.2.2 = upd (upd rd (3 * r) (nI q)) (3 * r + 1) (numV bf n (a + 1) 1) := rfl
  rw [eA, eR]
  have hP : numP bf n (a + 1) 1 ↔ 48 ≤ Bq bf n (a + 2) ∧ Bq bf n (a + 2) ≤ 57 := by
    unfold numP
    rw [hf1, nI_leI (by decide) (Bq_lt31 hbf _), nI_leI (Bq_lt31 hbf _) (by decide)]
  have e1 : nI (Bq bf n (a + 1)) - nI 48 = nI (Bq bf n (a + 1) - 48) := pk_sub (by omega)
  by_cases d : 48 ≤ Bq bf n (a + 2) ∧ Bq bf n (a + 2) ≤ 57
  · have e2 : numX bf n (a + 1) 1 = nI (10 * (Bq bf n (a + 1) - 48) + (Bq bf n (a + 2) - 48)) := by
      unfold numX
      rw [hf1, show a + 1 + 1 = a + 2 from rfl, e1, pk_mul, nI_add, pk_sub (by omega)]
      congr 1; omega
    have hin2 : a + 2 < n := Bq_in (bf := bf) (by omega)
    by_cases g : 10 * (Bq bf n (a + 1) - 48) + (Bq bf n (a + 2) - 48) ≤ 60
    · refine Or.inr ⟨?_, by omega, fun z => z ⟨d, g⟩, ?_⟩
      · unfold numA
        rw [if_neg (by omega), if_pos (hP.mpr d), e2, if_neg (fun z => by have := (nI_ltI (by decide) (by omega)).mp z; omega), hf1]
      · unfold numV
        rw [if_neg (by omega), if_pos (hP.mpr d), e2, if_neg (fun z => by have := (nI_ltI (by decide) (by omega)).mp z; omega)]
    · refine Or.inl ⟨?_, by omega, fun z => g z.2, ?_⟩
      · unfold numA
        rw [if_neg (by omega), if_pos (hP.mpr d), e2, if_pos ((nI_ltI (by decide) (by omega)).mpr (by omega)), hf1]
      · unfold numV
        rw [if_neg (by omega), if_pos (hP.mpr d), e2, if_pos ((nI_ltI (by decide) (by omega)).mpr (by omega)), e1]
  · refine Or.inl ⟨?_, by omega, fun z => d z.1, ?_⟩
    · unfold numA
      rw [if_neg (by omega), if_neg (fun z => d (hP.mp z)), hf1]
    · unfold numV
      rw [if_neg (by omega), if_neg (fun z => d (hP.mp z)), e1]
/-- the event r, read from p to e -/
def evAt (bf : Nat → Int32) (n p e : Nat) (rd : Nat → Int32) (r : Nat) : Prop :=
  e ≤ n ∧ rd (3 * r) = nI (Bq bf n p) ∧
    (((Bq bf n p = 99 ∨ Bq bf n p = 108 ∨ Bq bf n p = 115) ∧ e = p + 3 ∧ (48 ≤ Bq bf n (p + 1) ∧ Bq bf n (p + 1) ≤ 55) ∧ (48 ≤ Bq bf n (p + 2) ∧ Bq bf n (p + 2) ≤ 53) ∧ rd (3 * r + 1) = nI (Bq bf n (p + 1) - 48) ∧ rd (3 * r + 2) = nI (Bq bf n (p + 2) - 48))
    ∨ (Bq bf n p = 112 ∧ e = p + 2 ∧ (48 ≤ Bq bf n (p + 1) ∧ Bq bf n (p + 1) ≤ 53) ∧ rd (3 * r + 1) = nI (Bq bf n (p + 1) - 48))
    ∨ (Bq bf n p = 111 ∧ e = p + 2 ∧ (48 ≤ Bq bf n (p + 1) ∧ Bq bf n (p + 1) ≤ 55) ∧ rd (3 * r + 1) = nI (Bq bf n (p + 1) - 48))
    ∨ (Bq bf n p = 116 ∧ e = p + 2 ∧ (49 ≤ Bq bf n (p + 1) ∧ Bq bf n (p + 1) ≤ 57) ∧ stopN bf n p ∧ rd (3 * r + 1) = nI (Bq bf n (p + 1) - 48))
    ∨ (Bq bf n p = 116 ∧ e = p + 3 ∧ (49 ≤ Bq bf n (p + 1) ∧ Bq bf n (p + 1) ≤ 57) ∧ ¬ stopN bf n p ∧ rd (3 * r + 1) = nI (10 * (Bq bf n (p + 1) - 48) + (Bq bf n (p + 2) - 48))))
theorem evAt_congr {bf : Nat → Int32} {n p e r : Nat} {rd rd2 : Nat → Int32} (h0 : rd2 (3 * r) = rd (3 * r)) (h1 : rd2 (3 * r + 1) = rd (3 * r + 1)) (h2 : rd2 (3 * r + 2) = rd (3 * r + 2)) (h : evAt bf n p e rd r) : evAt bf n p e rd2 r := by
  unfold evAt at *
  rw [h0, h1, h2]; exact h
theorem rEv_well {bf : Nat → Int32} {n : Nat} (hbf : Tok bf n) {a r : Nat} {rd : Nat → Int32} (hF : (rEv bf n a r rd).2.1 ≠ 0) : evAt bf n a (rEv bf n a r rd).1 (rEv bf n a r rd).2.2.2 r ∧ (rEv bf n a r rd).2.2.1 = r + 1 ∧ ∀ j, j < 3 * r → (rEv bf n a r rd).2.2.2 j = rd j := by
  have k0 : ∀ (q : Nat) (v : Int32), upd (upd rd (3 * r) (nI q)) (3 * r + 1) v (3 * r) = nI q := fun q v => by rw [pk_un (by omega), pk_us]
  have k1 : ∀ (q : Nat) (v : Int32) (j : Nat), j < 3 * r → upd (upd rd (3 * r) (nI q)) (3 * r + 1) v j = rd j := fun q v j hj => by rw [pk_un (by omega), pk_un (by omega)]
  have kC : (Bq bf n a = 99 ∨ Bq bf n a = 108 ∨ Bq bf n a = 115) → (rC bf n (a + evW (Bq bf n a)) (evW (Bq bf n a)) (Bq bf n a) r rd).2.1 ≠ 0 → evAt bf n a (rC bf n (a + evW (Bq bf n a)) (evW (Bq bf n a)) (Bq bf n a) r rd).1 (rC bf n (a + evW (Bq bf n a)) (evW (Bq bf n a)) (Bq bf n a) r rd).2.2.2 r ∧ (rC bf n (a + evW (Bq bf n a)) (evW (Bq bf n a)) (Bq bf n a) r rd).2.2.1 = r + 1 ∧ ∀ j, j < 3 * r → (rC bf n (a + evW (Bq bf n a)) (evW (Bq bf n a)) (Bq bf n a) r rd).2.2.2 j = rd j := by
    intro hq h
    obtain ⟨w1, e1, e2, e3, e4, e5, e6⟩ := rC_well hbf (evW_lt _) h
    rw [e1, e5, e6]
    refine ⟨⟨e2, ?_, Or.inl ⟨hq, rfl, e3, e4, ?_, pk_us⟩⟩, rfl, fun j hj => ?_⟩
    · rw [pk_un (by omega)]; exact k0 _ _
    · rw [pk_un (by omega), pk_us]
    · rw [pk_un (by omega)]; exact k1 _ _ j hj
  unfold rEv at hF ⊢
  by_cases c1 : Bq bf n a = 116
  · rw [if_pos c1] at hF ⊢
    obtain ⟨w1, e1, e2, e3⟩ := rT_well hbf (evW_lt _) hF
    rw [e2]
    rcases e3 with ⟨f1, f2, f3, f4⟩ | ⟨f1, f2, f3, f4⟩
    · rw [f1, f4]
      exact ⟨⟨f2, k0 _ _, Or.inr (Or.inr (Or.inr (Or.inl ⟨c1, rfl, e1, f3, pk_us⟩)))⟩, rfl, k1 _ _⟩
    · rw [f1, f4]
      exact ⟨⟨f2, k0 _ _, Or.inr (Or.inr (Or.inr (Or.inr ⟨c1, rfl, e1, f3, pk_us⟩)))⟩, rfl, k1 _ _⟩
  rw [if_neg c1] at hF ⊢
  by_cases c2 : Bq bf n a = 112
  · rw [if_pos c2] at hF ⊢
    obtain ⟨w1, e1, e2, e3, e4, e5⟩ := rO_well hbf (by decide) (evW_lt _) hF
    rw [e1, e4, e5]
    exact ⟨⟨e2, k0 _ _, Or.inr (Or.inl ⟨c2, rfl, e3, pk_us⟩)⟩, rfl, k1 _ _⟩
  rw [if_neg c2] at hF ⊢
  by_cases c3 : Bq bf n a = 99
  · rw [if_pos c3] at hF ⊢; exact kC (Or.inl c3) hF
  rw [if_neg c3] at hF ⊢
  by_cases c4 : Bq bf n a = 108
  · rw [if_pos c4] at hF ⊢; exact kC (Or.inr (Or.inl c4)) hF
  rw [if_neg c4] at hF ⊢
  by_cases c5 : Bq bf n a = 115
  · rw [if_pos c5] at hF ⊢; exact kC (Or.inr (Or.inr c5)) hF
  rw [if_neg c5] at hF ⊢
  obtain ⟨w1, e1, e2, e3, e4, e5⟩ := rO_well hbf (by decide) (evW_lt _) hF
  have c6 : Bq bf n a = 111 := by
    have z := evW_in (q := Bq bf n a) (by omega)
    omega
  rw [e1, e4, e5]
  exact ⟨⟨e2, k0 _ _, Or.inr (Or.inr (Or.inl ⟨c6, rfl, e3, pk_us⟩))⟩, rfl, k1 _ _⟩
theorem rEv_bad {bf sg : Nat → Int32} {n : Nat} (hbf : Tok bf n) (hT : ∀ k, k < n → Tq sg n k = Bq bf n k) {a r : Nat} {rd : Nat → Int32} (ha : a ≤ n) (h0 : Sst sg n a = 0) (hF : (rEv bf n a r rd).2.1 = 0) : (rEv bf n a r rd).1 ≤ n ∧ Sst sg n (rEv bf n a r rd).1 < 5 ∧ ((rEv bf n a r rd).1 < n → Sst sg n ((rEv bf n a r rd).1 + 1) = 8) := by
  refine ⟨(rEv_step hbf a r rd ha).2.2.1, ?_⟩
  have hlet : ∀ x, Bq bf n a = x → x ≠ 0 → a < n ∧ Sst sg n (a + 1) = SLet x := fun x hx h => by
    have h1 : a < n := Bq_in (bf := bf) (by omega)
    refine ⟨h1, ?_⟩
    rw [Sst_s h0, hT a h1, hx]; rfl
  have kC : ∀ x, (x = 99 ∨ x = 108 ∨ x = 115) → Bq bf n a = x → (rC bf n (a + evW x) (evW x) x r rd).2.1 = 0 → Sst sg n (rC bf n (a + evW x) (evW x) x r rd).1 < 5 ∧ ((rC bf n (a + evW x) (evW x) x r rd).1 < n → Sst sg n ((rC bf n (a + evW x) (evW x) x r rd).1 + 1) = 8) := by
    intro x hx hq h
    have e : evW x = 1 := by rcases hx with rfl | rfl | rfl <;> rfl
    have eS : SLet x = 1 := by rcases hx with rfl | rfl | rfl <;> rfl
    obtain ⟨g1, g2⟩ := hlet x hq (by omega)
    rw [eS] at g2
    rw [e] at h ⊢
    have h2 : figW (figW 1 (Bq bf n (a + 1)) 0 7) (Bq bf n (a + 1 + figW 1 (Bq bf n (a + 1)) 0 7)) 0 5 = 0 := h
    have eA : (rC bf n (a + 1) 1 x r rd).1 = a + 1 + figW 1 (Bq bf n (a + 1)) 0 7 + figW (figW 1 (Bq bf n (a + 1)) 0 7) (Bq bf n (a + 1 + figW 1 (Bq bf n (a + 1)) 0 7)) 0 5 := rfl
    rw [eA, h2]
    by_cases c : figW 1 (Bq bf n (a + 1)) 0 7 = 0
    · rw [c]
      have z := noF (Bq_lt hbf _) (by decide) (by decide) c
      refine ⟨by show Sst sg n (a + 1) < 5; omega, fun hlt => ?_⟩
      show Sst sg n (a + 1 + 1) = 8
      rw [Sst_s g2, hT _ hlt]
      exact if_neg z
    · have f1 : figW 1 (Bq bf n (a + 1)) 0 7 = 1 := by have := figW_lt 1 (Bq bf n (a + 1)) 0 7; omega
      obtain ⟨-, y1, y2⟩ := figW_1 (Bq_lt hbf _) (by decide) (by decide) c
      rw [f1] at h2 ⊢
      have z := noF (Bq_lt hbf _) (by decide) (by decide) h2
      have hin : a + 1 < n := Bq_in (bf := bf) (by omega)
      have g3 : Sst sg n (a + 1 + 1) = 3 := by
        rw [Sst_s g2, hT _ hin]
        exact if_pos (show 48 ≤ Bq bf n (a + 1) ∧ Bq bf n (a + 1) ≤ 55 from ⟨by omega, by omega⟩)
      refine ⟨by show Sst sg n (a + 1 + 1) < 5; omega, fun hlt => ?_⟩
      show Sst sg n (a + 1 + 1 + 1) = 8
      rw [Sst_s g3, hT _ hlt]
      exact if_neg z
  unfold rEv at hF ⊢
  by_cases c1 : Bq bf n a = 116
  · rw [if_pos c1] at hF ⊢
    obtain ⟨g1, g2⟩ := hlet _ c1 (by decide)
    rw [c1] at hF ⊢
    have h2 : figW 1 (Bq bf n (a + 1)) 1 9 = 0 := hF
    have eA : (rT bf n (a + evW 116) (evW 116) 116 r rd).1 = a + 1 := by
      show numA bf n (a + 1) 1 = a + 1
      unfold numA
      rw [if_pos h2, h2]
    have z := noF (Bq_lt hbf _) (by decide) (by decide) h2
    rw [eA]
    refine ⟨by rw [g2]; decide, fun hlt => ?_⟩
    rw [Sst_s g2, hT _ hlt]
    show SDig (Bq bf n (a + 1)) = 8
    unfold SDig
    rw [if_neg (by omega), if_pos (by omega), if_neg (by omega)]
  rw [if_neg c1] at hF ⊢
  by_cases c2 : Bq bf n a = 112
  · rw [if_pos c2] at hF ⊢
    obtain ⟨g1, g2⟩ := hlet _ c2 (by decide)
    rw [c2] at hF ⊢
    have h2 : figW 1 (Bq bf n (a + 1)) 0 5 = 0 := hF
    have eA : (rO bf n (a + evW 112) (evW 112) 112 r 5 rd).1 = a + 1 := by
      show a + 1 + figW 1 (Bq bf n (a + 1)) 0 5 = a + 1
      rw [h2]
    have z := noF (Bq_lt hbf _) (by decide) (by decide) h2
    rw [eA]
    refine ⟨by rw [g2]; decide, fun hlt => ?_⟩
    rw [Sst_s g2, hT _ hlt]
    exact if_neg z
  rw [if_neg c2] at hF ⊢
  by_cases c3 : Bq bf n a = 99
  · rw [if_pos c3] at hF ⊢; rw [c3] at hF ⊢; exact kC 99 (Or.inl rfl) c3 hF
  rw [if_neg c3] at hF ⊢
  by_cases c4 : Bq bf n a = 108
  · rw [if_pos c4] at hF ⊢; rw [c4] at hF ⊢; exact kC 108 (Or.inr (Or.inl rfl)) c4 hF
  rw [if_neg c4] at hF ⊢
  by_cases c5 : Bq bf n a = 115
  · rw [if_pos c5] at hF ⊢; rw [c5] at hF ⊢; exact kC 115 (Or.inr (Or.inr rfl)) c5 hF
  rw [if_neg c5] at hF ⊢
  by_cases c6 : Bq bf n a = 111
  · obtain ⟨g1, g2⟩ := hlet _ c6 (by decide)
    rw [c6] at hF ⊢
    have h2 : figW 1 (Bq bf n (a + 1)) 0 7 = 0 := hF
    have eA : (rO bf n (a + evW 111) (evW 111) 111 r 7 rd).1 = a + 1 := by
      show a + 1 + figW 1 (Bq bf n (a + 1)) 0 7 = a + 1
      rw [h2]
    have z := noF (Bq_lt hbf _) (by decide) (by decide) h2
    rw [eA]
    refine ⟨by rw [g2]; decide, fun hlt => ?_⟩
    rw [Sst_s g2, hT _ hlt]
    exact if_neg z
  · have e : evW (Bq bf n a) = 0 := by
      by_cases z : evW (Bq bf n a) = 0
      · exact z
      · have := evW_in z; omega
    have eA : (rO bf n (a + evW (Bq bf n a)) (evW (Bq bf n a)) (Bq bf n a) r 7 rd).1 = a := by
      rw [e]; rfl
    rw [eA]
    refine ⟨by rw [h0]; decide, fun hlt => ?_⟩
    rw [Sst_s h0, hT _ hlt]
    show SLet (Bq bf n a) = 8
    unfold SLet
    rw [if_neg (by omega), if_neg c2, if_neg c1, if_neg c6]
theorem ev_end {bf sg : Nat → Int32} {n : Nat} (hT : ∀ k, k < n → Tq sg n k = Bq bf n k) {p e r : Nat} {rd : Nat → Int32} (h0 : Sst sg n p = 0) (E : evAt bf n p e rd r) : (Sst sg n e = 5 ∨ Sst sg n e = 6 ∨ Sst sg n e = 7) ∧ Sta (Sst sg n e) (Tq sg n e) = SEv (Tq sg n e) := by
  have s7 : ∀ q, Sta 7 q = SEv q := fun _ => rfl
  obtain ⟨hn, -, H⟩ := E
  rcases H with ⟨hq, rfl, d1, d2, -⟩ | ⟨hq, rfl, d1, -⟩ | ⟨hq, rfl, d1, -⟩ | ⟨hq, rfl, d1, hs, -⟩ | ⟨hq, rfl, d1, hs, -⟩
  · have a1 : Sst sg n (p + 1) = 1 := by
      rw [Sst_s h0, hT p (by omega)]
      rcases hq with hq | hq | hq <;> rw [hq] <;> rfl
    have a2 : Sst sg n (p + 2) = 3 := by
      rw [Sst_s a1, hT _ (by omega)]; exact if_pos d1
    have a3 : Sst sg n (p + 3) = 7 := by
      rw [Sst_s a2, hT _ (by omega)]; exact if_pos d2
    rw [a3]; exact ⟨Or.inr (Or.inr rfl), s7 _⟩
  · have a1 : Sst sg n (p + 1) = 3 := by
      rw [Sst_s h0, hT p (by omega), hq]; rfl
    have a2 : Sst sg n (p + 2) = 7 := by
      rw [Sst_s a1, hT _ (by omega)]; exact if_pos d1
    rw [a2]; exact ⟨Or.inr (Or.inr rfl), s7 _⟩
  · have a1 : Sst sg n (p + 1) = 2 := by
      rw [Sst_s h0, hT p (by omega), hq]; rfl
    have a2 : Sst sg n (p + 2) = 7 := by
      rw [Sst_s a1, hT _ (by omega)]; exact if_pos d1
    rw [a2]; exact ⟨Or.inr (Or.inr rfl), s7 _⟩
  · have a1 : Sst sg n (p + 1) = 4 := by
      rw [Sst_s h0, hT p (by omega), hq]; rfl
    have a2 : Sst sg n (p + 2) = SDig (Bq bf n (p + 1)) := by
      rw [Sst_s a1, hT _ (by omega)]; rfl
    have nx : Tq sg n (p + 2) = 59 ∨ Tq sg n (p + 2) = Bq bf n (p + 2) := by
      rcases Nat.lt_or_ge (p + 2) n with z | z
      · exact Or.inr (hT _ z)
      · exact Or.inl (if_pos z)
    rw [a2]
    unfold SDig
    by_cases c1 : 49 ≤ Bq bf n (p + 1) ∧ Bq bf n (p + 1) ≤ 53
    · rw [if_pos c1]
      refine ⟨Or.inl rfl, ?_⟩
      show (if 48 ≤ Tq sg n (p + 2) ∧ Tq sg n (p + 2) ≤ 57 then 7 else SEv (Tq sg n (p + 2))) = _
      rw [if_neg (fun z => by
        rcases nx with y | y
        · omega
        · exact hs ⟨by omega, by omega⟩)]
    · rw [if_neg c1]
      by_cases c2 : ¬ Bq bf n (p + 1) = 54
      · rw [if_pos c2, if_pos (by omega)]; exact ⟨Or.inr (Or.inr rfl), s7 _⟩
      · rw [if_neg c2]
        refine ⟨Or.inr (Or.inl rfl), ?_⟩
        show (if ¬ Tq sg n (p + 2) = 48 then SEv (Tq sg n (p + 2)) else 7) = _
        rw [if_pos (fun z => by
          rcases nx with y | y
          · omega
          · exact hs ⟨by omega, by omega⟩)]
  · have hs := Classical.not_not.mp hs
    have a1 : Sst sg n (p + 1) = 4 := by
      rw [Sst_s h0, hT p (by omega), hq]; rfl
    have a2 : Sst sg n (p + 2) = SDig (Bq bf n (p + 1)) := by
      rw [Sst_s a1, hT _ (by omega)]; rfl
    have a3 : Sst sg n (p + 3) = 7 := by
      have e : Sst sg n (p + 3) = Sta (SDig (Bq bf n (p + 1))) (Bq bf n (p + 2)) := by rw [Sst_s a2, hT _ (by omega)]
      rw [e]
      unfold SDig
      by_cases c1 : 49 ≤ Bq bf n (p + 1) ∧ Bq bf n (p + 1) ≤ 53
      · rw [if_pos c1]; exact if_pos hs.1
      · rw [if_neg c1, if_neg (by omega)]
        show (if ¬ Bq bf n (p + 2) = 48 then SEv (Bq bf n (p + 2)) else 7) = 7
        rw [if_neg (by omega)]
    rw [a3]; exact ⟨Or.inr (Or.inr rfl), s7 _⟩
/-- where the event i begins -/
def Pp (bf : Nat → Int32) (n : Nat) (rd : Nat → Int32) : Nat → Nat
  | 0 => 0
  | i + 1 => (rS bf n rd i).1 + 1
def Pd (bf : Nat → Int32) (n : Nat) (rd : Nat → Int32) : Nat → Nat → Int32
  | 0 => rd
  | i + 1 => (rS bf n rd i).2.2.2
theorem rS_dfa {bf sg : Nat → Int32} {n : Nat} (hbf : Tok bf n) (hT : ∀ k, k < n → Tq sg n k = Bq bf n k) (rd : Nat → Int32) : ∀ i, (∀ j, j < i → rGo n (rS bf n rd j)) → ((rS bf n rd i).2.1 ≠ 0 → rS bf n rd i = rEv bf n (Pp bf n rd i) i (Pd bf n rd i) ∧ Pp bf n rd i ≤ n ∧ Sst sg n (Pp bf n rd i) = 0) ∧ ((rS bf n rd i).2.1 = 0 → (rS bf n rd i).1 ≤ n ∧ Sst sg n (rS bf n rd i).1 ≠ 8 ∧ ((rS bf n rd i).1 < n ∨ Sst sg n (rS bf n rd i).1 < 5) ∧ ((rS bf n rd i).1 < n → Sst sg n ((rS bf n rd i).1 + 1) = 8)) := by
  intro i
  induction i with
  | zero =>
    intro _
    refine ⟨fun _ => ⟨rfl, Nat.zero_le n, rfl⟩, fun h => ?_⟩
    obtain ⟨h1, h2, h3⟩ := rEv_bad (r := 0) (rd := rd) hbf hT (Nat.zero_le n) rfl h
    exact ⟨h1, fun z => by rw [show rS bf n rd 0 = rEv bf n 0 0 rd from rfl] at z; omega, Or.inr h2, h3⟩
  | succ i ih =>
    intro hg
    obtain ⟨hw, hlt⟩ := hg i (Nat.lt_succ_self i)
    obtain ⟨e, hp, h0⟩ := (ih (fun j hj => hg j (by omega))).1 hw
    have W := rEv_well hbf (a := Pp bf n rd i) (r := i) (rd := Pd bf n rd i) (by rw [← e]; exact hw)
    rw [← e] at W
    obtain ⟨E, hc, -⟩ := W
    obtain ⟨g1, g2⟩ := ev_end hT h0 E
    have es : rS bf n rd (i + 1) = if Bq bf n (rS bf n rd i).1 = 59 then rEv bf n ((rS bf n rd i).1 + 1) (rS bf n rd i).2.2.1 (rS bf n rd i).2.2.2 else ((rS bf n rd i).1, 0, (rS bf n rd i).2.2.1, (rS bf n rd i).2.2.2) := rfl
    have en : Sst sg n ((rS bf n rd i).1 + 1) = SEv (Bq bf n (rS bf n rd i).1) := by
      show Sta _ _ = _
      rw [g2, hT _ hlt]
    by_cases c : Bq bf n (rS bf n rd i).1 = 59
    · rw [if_pos c, hc] at es
      have h1 : Sst sg n ((rS bf n rd i).1 + 1) = 0 := by rw [en, c]; rfl
      refine ⟨fun _ => ⟨es, hlt, h1⟩, fun h => ?_⟩
      rw [es] at h ⊢
      obtain ⟨k1, k2, k3⟩ := rEv_bad hbf hT (a := (rS bf n rd i).1 + 1) hlt h1 h
      exact ⟨k1, by omega, Or.inr k2, k3⟩
    · rw [if_neg c] at es
      rw [es]
      refine ⟨fun h => absurd rfl h, fun _ => ⟨Nat.le_of_lt hlt, ?_, Or.inl hlt, fun _ => ?_⟩⟩
      · show Sst sg n (rS bf n rd i).1 ≠ 8; omega
      · show Sst sg n ((rS bf n rd i).1 + 1) = 8
        rw [en]; exact if_pos c
theorem rdEnd_all {bf : Nat → Int32} {n : Nat} {rd : Nat → Int32} : ∀ m i, (∀ j, j < i → rGo n (rS bf n rd j)) → (∀ j, j < rdEnd bf n rd i m → rGo n (rS bf n rd j)) ∧ (¬ rGo n (rS bf n rd (rdEnd bf n rd i m)) ∨ rdEnd bf n rd i m = i + m) := by
  intro m
  induction m with
  | zero => exact fun i h => ⟨h, Or.inr rfl⟩
  | succ m ih =>
    intro i h
    have e : rdEnd bf n rd i (m + 1) = if rGo n (rS bf n rd i) then rdEnd bf n rd (i + 1) m else i := rfl
    rw [e]
    by_cases c : rGo n (rS bf n rd i)
    · rw [if_pos c]
      obtain ⟨h1, h2⟩ := ih (i + 1) (fun j hj => by
        by_cases d : j = i
        · subst d; exact c
        · exact h j (by omega))
      exact ⟨h1, h2.imp id (fun z => by omega)⟩
    · rw [if_neg c]; exact ⟨h, Or.inl c⟩
theorem rd_stop {bf : Nat → Int32} {n : Nat} (hn : n ≤ 60) (hbf : Tok bf n) (rd : Nat → Int32) : ∃ J, rFin bf n rd = rS bf n rd J ∧ (∀ j, j < J → rGo n (rS bf n rd j)) ∧ ¬ rGo n (rS bf n rd J) ∧ (rS bf n rd J).1 ≤ n := by
  obtain ⟨j, e, h1, h2, h3, h4, h5⟩ := rEnd_ok (rd := rd) hn hbf 100 0 (rOK_0 hbf rd)
  obtain ⟨g1, g2⟩ := rdEnd_all (bf := bf) (n := n) (rd := rd) 100 0 (fun j hj => absurd hj (Nat.not_lt_zero j))
  rw [e] at g1 g2
  refine ⟨j, by unfold rFin; rw [e], g1, ?_, h2⟩
  rcases g2 with g2 | g2
  · exact g2
  · omega
theorem Tfw_eq {sg : Nat → Int32} {n p : Nat} (hp : p ≤ n) (h8 : Sst sg n p ≠ 8) (h9 : p < n → Sst sg n (p + 1) = 8) : ∀ m i, i + m = n → i ≤ p → Tfw sg n i m = p := by
  intro m
  induction m with
  | zero => exact fun i h1 h2 => by show i = p; omega
  | succ m ih =>
    intro i h1 h2
    show (if ¬ Sst sg n (i + 1) = 8 then Tfw sg n (i + 1) m else i) = p
    by_cases c : i = p
    · subst c
      rw [if_neg (not_not_intro (h9 (by omega)))]
    · rw [if_pos (fun z => h8 (by
        have e := Sst_8 z (p - (i + 1))
        rw [show i + 1 + (p - (i + 1)) = p by omega] at e
        exact e))]
      exact ih (i + 1) (by omega) (by omega)
theorem reads_eq {bf sg : Nat → Int32} {n : Nat} (hn : n ≤ 60) (hbf : Tok bf n) (hT : ∀ k, k < n → Tq sg n k = Bq bf n k) (rd : Nat → Int32) : ((rFin bf n rd).2.1 ≠ 0 ↔ Tdone sg n) ∧ (if (rFin bf n rd).2.1 = 0 then (rFin bf n rd).1 else n) = Tfw sg n 0 n := by
  obtain ⟨J, eJ, hg, hs, hle⟩ := rd_stop hn hbf rd
  rw [eJ]
  obtain ⟨k1, k2⟩ := rS_dfa hbf hT rd J hg
  by_cases c : (rS bf n rd J).2.1 = 0
  · obtain ⟨g1, g2, g3, g4⟩ := k2 c
    rw [if_pos c]
    refine ⟨⟨fun z => absurd c z, fun z => ?_⟩, (Tfw_eq g1 g2 g4 n 0 (by omega) (Nat.zero_le _)).symm⟩
    exfalso
    rcases g3 with g3 | g3
    · exact Tdone_ne z (i := (rS bf n rd J).1 + 1) g3 (g4 g3)
    · rcases Nat.lt_or_ge (rS bf n rd J).1 n with y | y
      · exact Tdone_ne z (i := (rS bf n rd J).1 + 1) y (g4 y)
      · have e : (rS bf n rd J).1 = n := by omega
        rw [e] at g3
        unfold Tdone at z
        omega
  · obtain ⟨e, hp, h0⟩ := k1 c
    have W := rEv_well hbf (a := Pp bf n rd J) (r := J) (rd := Pd bf n rd J) (by rw [← e]; exact c)
    rw [← e] at W
    have en : (rS bf n rd J).1 = n := by
      rcases Nat.lt_or_ge (rS bf n rd J).1 n with y | y
      · exact absurd ⟨c, y⟩ hs
      · omega
    have g := (ev_end hT h0 W.1).1
    rw [en] at g
    rw [if_neg c]
    refine ⟨⟨fun _ => g, fun _ => c⟩, (Tfw_eq (Nat.le_refl n) (by omega) (fun z => absurd z (Nat.lt_irrefl n)) n 0 (by omega) (Nat.zero_le _)).symm⟩
end
section
/-! doors -/
theorem opb_iff (h : HSt) (r : Nat) : opb (hop h) r = true ↔ Hopen h r := by
  unfold opb
  exact decide_eq_true_iff
theorem bI_opb (h : HSt) (r : Nat) : bI (Hopen h r) = nI (if opb (hop h) r = true then 1 else 0) := bI_b (opb_iff h r).symm
theorem turn_hop {h : HSt} (i : Inv h) {r : Nat} (hr : r < 8) : ∃ w : Nat, w < 256 ∧ hop (Hturn r h) = nI w ∧ ∀ j, j < 8 → opb (hop (Hturn r h)) j = (if j = r then !opb (hop h) r else opb (hop h) j) := by
  obtain ⟨w, hw, e⟩ := i.2.2.2.2.2.2
  obtain ⟨g1, g2⟩ := turn_all w hw r hr
  have e2 : hop (Hturn r h) = nI (w ^^^ (1 <<< r)) := by
    show hop h ^^^ bit r = _
    rw [e, g1]
  refine ⟨_, g2, e2, fun j hj => ?_⟩
  rw [e2, e]
  exact turn_bits w hw r hr j hj
theorem inv_turn {h : HSt} (i : Inv h) {r : Nat} (hr : r < 8) : Inv (Hturn r h) := by
  obtain ⟨w, hw, e, -⟩ := turn_hop i hr
  exact ⟨i.1, i.2.1, i.2.2.1, i.2.2.2.1, i.2.2.2.2.1, i.2.2.2.2.2.1, ⟨w, hw, e⟩⟩
theorem rel_turn {h : HSt} {s : Nat → Int32} (r : RelS h s) (i : Inv h) {k : Nat} (hk : k < 8) {v : Int32} (hv : v = nI (if opb (hop h) k = true then 0 else 1)) : RelS (Hturn k h) (upd s (13 + k) v) := by
  obtain ⟨w, hw, e, hb⟩ := turn_hop i hk
  obtain ⟨r1, r2, r3, r4, r5, r6, r7, r8, r9, r10, r11⟩ := r
  refine ⟨fun j hj => ?_, fun j hj => ?_, fun j hj => ?_, ?_, ?_, ?_, ?_, ?_, ?_, ?_, fun j hj => ?_⟩
  · rw [pk_un (by omega)]; exact r1 j hj
  · rw [pk_un (by omega)]; exact r2 j hj
  · rw [pk_un (by omega)]; exact r3 j hj
  · rw [pk_un (by omega)]; exact r4
  · rw [pk_un (by omega)]; exact r5
  · rw [pk_un (by omega)]; exact r6
  · rw [pk_un (by omega)]; exact r7
  · rw [pk_un (by omega)]; exact r8
  · rw [pk_un (by omega)]; exact r9
  · rw [pk_un (by omega)]; exact r10
  · rw [bI_opb, hb j hj]
    by_cases c : j = k
    · subst c
      rw [pk_us, if_pos rfl, hv]
      cases opb (hop h) j <;> rfl
    · rw [pk_un (by omega), if_neg c, r11 j hj, bI_opb]
theorem one_sub (b : Bool) : nI 1 - nI (if b = true then 1 else 0) = nI (if b = true then 0 else 1) := by cases b <;> decide
theorem rel_turnE {h : HSt} {s : Nat → Int32} (r : RelS h s) (i : Inv h) {k : Nat} (hk : k < 8) : RelS (Hturn k h) (upd s (13 + k) (nI 1 - s (13 + k))) := by
  refine rel_turn r i hk ?_
  rw [r.2.2.2.2.2.2.2.2.2.2 k hk, bI_opb, one_sub]
/-! an event, done by both -/
theorem passQ_le (h : HSt) (n : Nat) : HpassQ h n ≤ n := by
  induction n with
  | zero => exact Nat.le_refl 0
  | succ n ih =>
    show (if hsn (Htk (HpassN h n)) < Htbq (Htk (HpassN h n)) then HpassQ h n else HpassQ h n + 1) ≤ n + 1
    split <;> omega
theorem cnb_le (P : Nat → Bool) (n : Nat) : cnb P n ≤ n := by
  induction n with
  | zero => exact Nat.le_refl 0
  | succ n ih =>
    show cnb P n + (if P n = true then 1 else 0) ≤ n + 1
    split <;> omega
theorem Hseat_L (k : Nat) (h : HSt) : hL (Hseat k h) k = hL h k + nI 1 := by
  show upd (hL h) k (hL h k + nI 1) k = _
  rw [pk_us]
theorem sub48 {q a : Nat} (h : 48 ≤ q) : nI (q - 48) = nI a → q - 48 < 2 ^ 31 → a < 2 ^ 31 → q = a + 48 := fun e h1 h2 => by
  have := (nI_eq h1 h2).mp e
  omega
theorem ev_step {bf sg : Nat → Int32} {n p e j : Nat} {rd s : Nat → Int32} {h : HSt} (r : RelS h s) (i : Inv h) (hb : Hbo h) (hT : ∀ k, k < n → Tq sg n k = Bq bf n k) (E : evAt bf n p e rd j) (h59 : Tq sg n e = 59) : (UdoB sg n p h ↔ MevN rd (3 * j) s ≠ 0) ∧ RelS (Udo sg n p h) (Mev rd (3 * j) s) ∧ Inv (Udo sg n p h) := by
  have n1 : ∀ a b : Nat, a < 200 → b < 200 → a ≠ b → ¬ nI a = nI b := fun a b ha hb hab z => hab ((nI_eq (by omega) (by omega)).mp z)
  obtain ⟨hn, e0, H⟩ := E
  rcases H with ⟨hq, rfl, d1, d2, e1, e2⟩ | ⟨hq, rfl, d1, e1⟩ | ⟨hq, rfl, d1, e1⟩ | ⟨hq, rfl, d1, hs, e1⟩ | ⟨hq, rfl, d1, hs, e1⟩
  · have t0 : Tq sg n p = Bq bf n p := hT p (by omega)
    have t1 : Tq sg n (p + 1) = Bq bf n (p + 1) := hT _ (by omega)
    have t2 : Tq sg n (p + 2) = Bq bf n (p + 2) := hT _ (by omega)
    have hM : Mcl rd (3 * j) = pk2 sg n p := by
      rw [Mcl_eq (by omega) (by omega) e1 e2]
      unfold pk2
      rw [t1, t2]; omega
    have hk : pk2 sg n p < 48 := by unfold pk2; rw [t1, t2]; omega
    have eL : s (21 + pk2 sg n p) = hL h (pk2 sg n p) := r.1 _ hk
    obtain ⟨l, hl, el⟩ := i.1 _ hk
    have kL : ∀ b, (UdoB sg n p h ↔ ¬ hL h (pk2 sg n p) ≤ 0) → Udo sg n p h = (if ¬ hL h (pk2 sg n p) ≤ 0 then Hunseat (pk2 sg n p) b h else h) → MevN rd (3 * j) s = MevLB (pk2 sg n p) b s → Mev rd (3 * j) s = MevL (pk2 sg n p) b s → (UdoB sg n p h ↔ MevN rd (3 * j) s ≠ 0) ∧ RelS (Udo sg n p h) (Mev rd (3 * j) s) ∧ Inv (Udo sg n p h) := by
      intro b u1 u2 u3 u4
      rw [u1, u2, u3, u4]
      unfold MevLB MevL
      rw [eL]
      by_cases c : hL h (pk2 sg n p) ≤ 0
      · rw [if_neg (not_not_intro c), if_pos c, if_pos c]
        exact ⟨⟨fun z => absurd c z, fun z => absurd rfl z⟩, r, i⟩
      · rw [if_pos c, if_neg c, if_neg c]
        have R2 := rel_unseat r i hb b hk c
        have I2 := inv_unseat i b hk c
        obtain ⟨l2, hl2, el2⟩ := I2.1 _ hk
        have e9 : ¬ Mleaves (pk2 sg n p) b s (21 + pk2 sg n p) < 0 := by
          rw [R2.1 _ hk, el2]; exact nI_pos (by omega)
        rw [if_neg e9]
        exact ⟨⟨fun _ => by decide, fun _ => c⟩, R2, I2⟩
    rcases hq with hq | hq | hq
    · have u1 := UdoB_c (sg := sg) (n := n) (k := p) (h := h) (t0.trans hq)
      have e0' : rd (3 * j) = nI 99 := by rw [e0, hq]
      have u2 : Udo sg n p h = if ¬ nI 9 ≤ hL h (pk2 sg n p) then Hseat (pk2 sg n p) h else h := by unfold Udo; rw [if_pos (t0.trans hq)]
      have u3 : MevN rd (3 * j) s = MevCB (pk2 sg n p) s := by unfold MevN; rw [if_pos e0', hM]
      have u4 : Mev rd (3 * j) s = MevC (pk2 sg n p) s := by unfold Mev; rw [if_pos e0', hM]
      rw [u1, u2, u3, u4]
      unfold MevCB MevC
      rw [eL]
      by_cases c : nI 9 ≤ hL h (pk2 sg n p)
      · rw [if_neg (not_not_intro c), if_pos c, if_pos c]
        exact ⟨⟨fun z => absurd c z, fun z => absurd rfl z⟩, r, i⟩
      · rw [if_pos c, if_neg c, if_neg c]
        have R2 := rel_seat r hk
        have e9 : ¬ Mcomes (pk2 sg n p) s (21 + pk2 sg n p) ≤ 0 := by
          rw [R2.1 _ hk, Hseat_L, el, nI_add]
          exact fun z => absurd ((le0 (by omega)).mp z) (by omega)
        rw [if_neg e9]
        exact ⟨⟨fun _ => by decide, fun _ => c⟩, R2, inv_seat i hk c⟩
    · have q1 : Tq sg n p = 108 := t0.trans hq
      have e0' : rd (3 * j) = nI 108 := by rw [e0, hq]
      have g1 : ¬ rd (3 * j) = nI 99 := by rw [e0']; exact n1 _ _ (by decide) (by decide) (by decide)
      refine kL 1 (UdoB_l q1) ?_ ?_ ?_
      · unfold Udo; rw [if_neg (by rw [q1]; decide), if_pos q1]
      · unfold MevN; rw [if_neg g1, if_pos e0', hM]
      · unfold Mev; rw [if_neg g1, if_pos e0', hM]
    · have q1 : Tq sg n p = 115 := t0.trans hq
      have e0' : rd (3 * j) = nI 115 := by rw [e0, hq]
      have g1 : ¬ rd (3 * j) = nI 99 := by rw [e0']; exact n1 _ _ (by decide) (by decide) (by decide)
      have g2 : ¬ rd (3 * j) = nI 108 := by rw [e0']; exact n1 _ _ (by decide) (by decide) (by decide)
      refine kL 0 (UdoB_s q1) ?_ ?_ ?_
      · unfold Udo; rw [if_neg (by rw [q1]; decide), if_neg (by rw [q1]; decide), if_pos q1]
      · unfold MevN; rw [if_neg g1, if_neg g2, if_pos e0', hM]
      · unfold Mev; rw [if_neg g1, if_neg g2, if_pos e0', hM]
  · have q1 : Tq sg n p = 112 := (hT p (by omega)).trans hq
    have t1 : Tq sg n (p + 1) = Bq bf n (p + 1) := hT _ (by omega)
    have e0' : rd (3 * j) = nI 112 := by rw [e0, hq]
    have g1 : ¬ rd (3 * j) = nI 99 := by rw [e0']; exact n1 _ _ (by decide) (by decide) (by decide)
    have g2 : ¬ rd (3 * j) = nI 108 := by rw [e0']; exact n1 _ _ (by decide) (by decide) (by decide)
    have g3 : ¬ rd (3 * j) = nI 115 := by rw [e0']; exact n1 _ _ (by decide) (by decide) (by decide)
    have hc : (rd (3 * j + 1)).toNatClampNeg = Bq bf n (p + 1) - 48 := by rw [e1, nI_clamp (by omega)]
    have hc6 : Bq bf n (p + 1) - 48 < 6 := by omega
    have u2 : Udo sg n p h = Hperf (Bq bf n (p + 1) - 48) h := by
      unfold Udo
      rw [if_neg (by rw [q1]; decide), if_neg (by rw [q1]; decide), if_neg (by rw [q1]; decide), if_pos q1, t1]
    have u4 : Mev rd (3 * j) s = MplayN s (Bq bf n (p + 1) - 48) 8 := by unfold Mev; rw [if_neg g1, if_neg g2, if_neg g3, if_pos e0', hc]
    have u3 : MevN rd (3 * j) s = 1 := by
      unfold MevN
      rw [if_neg g1, if_neg g2, if_neg g3, if_pos e0', hc, (play_st r hc6 8 (Nat.le_refl 8)).2.2.2]
      exact if_neg (nI_pos (Nat.lt_of_le_of_lt (cnb_le _ 8) (by decide)))
    rw [u2, u3, u4]
    exact ⟨⟨fun _ => by decide, fun _ => UdoB_o (by rw [q1]; decide) (by rw [q1]; decide) (by rw [q1]; decide)⟩, rel_play r i hc6, inv_play i _⟩
  · have q1 : Tq sg n p = 111 := (hT p (by omega)).trans hq
    have t1 : Tq sg n (p + 1) = Bq bf n (p + 1) := hT _ (by omega)
    have e0' : rd (3 * j) = nI 111 := by rw [e0, hq]
    have g1 : ¬ rd (3 * j) = nI 99 := by rw [e0']; exact n1 _ _ (by decide) (by decide) (by decide)
    have g2 : ¬ rd (3 * j) = nI 108 := by rw [e0']; exact n1 _ _ (by decide) (by decide) (by decide)
    have g3 : ¬ rd (3 * j) = nI 115 := by rw [e0']; exact n1 _ _ (by decide) (by decide) (by decide)
    have g4 : ¬ rd (3 * j) = nI 112 := by rw [e0']; exact n1 _ _ (by decide) (by decide) (by decide)
    have g5 : ¬ rd (3 * j) = nI 116 := by rw [e0']; exact n1 _ _ (by decide) (by decide) (by decide)
    have hc : (rd (3 * j + 1)).toNatClampNeg = Bq bf n (p + 1) - 48 := by rw [e1, nI_clamp (by omega)]
    have hc8 : Bq bf n (p + 1) - 48 < 8 := by omega
    have u2 : Udo sg n p h = Hturn (Bq bf n (p + 1) - 48) h := by
      unfold Udo
      rw [if_neg (by rw [q1]; decide), if_neg (by rw [q1]; decide), if_neg (by rw [q1]; decide), if_neg (by rw [q1]; decide), if_neg (by rw [q1]; decide), t1]
    have u4 : Mev rd (3 * j) s = upd s (13 + (Bq bf n (p + 1) - 48)) (nI 1 - s (13 + (Bq bf n (p + 1) - 48))) := by unfold Mev; rw [if_neg g1, if_neg g2, if_neg g3, if_neg g4, if_neg g5, hc]
    have u3 : MevN rd (3 * j) s = 1 := by unfold MevN; rw [if_neg g1, if_neg g2, if_neg g3, if_neg g4, if_neg g5]
    rw [u2, u3, u4]
    exact ⟨⟨fun _ => by decide, fun _ => UdoB_o (by rw [q1]; decide) (by rw [q1]; decide) (by rw [q1]; decide)⟩, rel_turnE r i hc8, inv_turn i hc8⟩
  all_goals
    have q1 : Tq sg n p = 116 := (hT p (by omega)).trans hq
    have t1 : Tq sg n (p + 1) = Bq bf n (p + 1) := hT _ (by omega)
    have e0' : rd (3 * j) = nI 116 := by rw [e0, hq]
    have g1 : ¬ rd (3 * j) = nI 99 := by rw [e0']; exact n1 _ _ (by decide) (by decide) (by decide)
    have g2 : ¬ rd (3 * j) = nI 108 := by rw [e0']; exact n1 _ _ (by decide) (by decide) (by decide)
    have g3 : ¬ rd (3 * j) = nI 115 := by rw [e0']; exact n1 _ _ (by decide) (by decide) (by decide)
    have g4 : ¬ rd (3 * j) = nI 112 := by rw [e0']; exact n1 _ _ (by decide) (by decide) (by decide)
    have e48 : nI (Bq bf n (p + 1)) - nI 48 = nI (Bq bf n (p + 1) - 48) := pk_sub (by omega)
    have hN : Tnum sg n (p + 1) = rd (3 * j + 1) ∧ ∃ N : Nat, N ≤ 60 ∧ rd (3 * j + 1) = nI N := by
      unfold Tnum
      first
      | (have t2 : Tq sg n (p + 1 + 1) = Bq bf n (p + 2) := hT _ (by omega)
         have hs2 := Classical.not_not.mp hs
         rw [t2, if_pos (by omega), t1, e48, pk_sub hs2.1.1, pk_mul, nI_add, e1]
         exact ⟨rfl, _, hs2.2, rfl⟩)
      | (rw [if_neg (not_not_intro h59), t1, e48, e1]
         exact ⟨rfl, _, by omega, rfl⟩)
    obtain ⟨hN1, N, hN60, hN2⟩ := hN
    have hc : (rd (3 * j + 1)).toNatClampNeg = N := by rw [hN2, nI_clamp (by omega)]
    have u2 : Udo sg n p h = HpassN h N := by
      unfold Udo
      rw [if_neg (by rw [q1]; decide), if_neg (by rw [q1]; decide), if_neg (by rw [q1]; decide), if_neg (by rw [q1]; decide), if_pos q1, hN1, hc]
    have u4 : Mev rd (3 * j) s = MgoN s N := by unfold Mev; rw [if_neg g1, if_neg g2, if_neg g3, if_neg g4, if_pos e0', hc]
    have u3 : MevN rd (3 * j) s = 1 := by
      unfold MevN
      rw [if_neg g1, if_neg g2, if_neg g3, if_neg g4, if_pos e0', hc, pass_q r]
      exact if_neg (nI_pos (Nat.lt_of_le_of_lt (passQ_le h N) (by omega)))
    rw [u2, u3, u4]
    exact ⟨⟨fun _ => by decide, fun _ => UdoB_o (by rw [q1]; decide) (by rw [q1]; decide) (by rw [q1]; decide)⟩, rel_pass r N, inv_pass i N⟩
/-! all events of a text -/
theorem ev_no59 {bf sg : Nat → Int32} {n p e j : Nat} {rd : Nat → Int32} (hT : ∀ k, k < n → Tq sg n k = Bq bf n k) (E : evAt bf n p e rd j) : p < e ∧ e ≤ n ∧ ∀ k, p ≤ k → k < e → Tq sg n k ≠ 59 := by
  obtain ⟨hn, -, H⟩ := E
  rcases H with ⟨hq, rfl, d1, d2, -⟩ | ⟨hq, rfl, d1, -⟩ | ⟨hq, rfl, d1, -⟩ | ⟨hq, rfl, d1, hs, -⟩ | ⟨hq, rfl, d1, hs, -⟩
  · refine ⟨by omega, hn, fun k h1 h2 => ?_⟩
    rw [hT k (by omega)]
    rcases (by omega : k = p ∨ k = p + 1 ∨ k = p + 2) with rfl | rfl | rfl <;> omega
  · refine ⟨by omega, hn, fun k h1 h2 => ?_⟩
    rw [hT k (by omega)]
    rcases (by omega : k = p ∨ k = p + 1) with rfl | rfl <;> omega
  · refine ⟨by omega, hn, fun k h1 h2 => ?_⟩
    rw [hT k (by omega)]
    rcases (by omega : k = p ∨ k = p + 1) with rfl | rfl <;> omega
  · refine ⟨by omega, hn, fun k h1 h2 => ?_⟩
    rw [hT k (by omega)]
    rcases (by omega : k = p ∨ k = p + 1) with rfl | rfl <;> omega
  · have hs2 := Classical.not_not.mp hs
    refine ⟨by omega, hn, fun k h1 h2 => ?_⟩
    rw [hT k (by omega)]
    rcases (by omega : k = p ∨ k = p + 1 ∨ k = p + 2) with rfl | rfl | rfl <;> omega
theorem Ufin_skip {sg : Nat → Int32} {n b : Nat} (hb : b ≤ n) : ∀ m a (h : HSt) (d : Nat), a + m = b → (∀ k, a ≤ k → k < b → ¬ (k = 0 ∨ Tq sg n (k - 1) = 59)) → Ufin sg n a (n - a) h d = Ufin sg n b (n - b) h d := by
  intro m
  induction m with
  | zero => intro a h d e _; rw [show a = b by omega]
  | succ m ih =>
    intro a h d e hk
    rw [Ufin_go (by omega), if_neg (hk a (Nat.le_refl a) (by omega))]
    exact ih (a + 1) h d (by omega) (fun k h1 h2 => hk k (by omega) h2)
theorem rS_evs {bf sg : Nat → Int32} {n : Nat} (hbf : Tok bf n) (hT : ∀ k, k < n → Tq sg n k = Bq bf n k) (rd : Nat → Int32) : ∀ J, (∀ j, j < J → rGo n (rS bf n rd j)) → (rS bf n rd J).2.1 ≠ 0 → (∀ i, i ≤ J → evAt bf n (Pp bf n rd i) (rS bf n rd i).1 (rS bf n rd J).2.2.2 i) ∧ (∀ i, i < J → Bq bf n (rS bf n rd i).1 = 59) ∧ (rS bf n rd J).2.2.1 = J + 1 := by
  intro J
  induction J with
  | zero =>
    intro hg hw
    obtain ⟨e, -, -⟩ := (rS_dfa hbf hT rd 0 hg).1 hw
    have W := rEv_well hbf (a := Pp bf n rd 0) (r := 0) (rd := Pd bf n rd 0) (by rw [← e]; exact hw)
    rw [← e] at W
    refine ⟨fun i hi => ?_, fun i hi => absurd hi (Nat.not_lt_zero i), W.2.1⟩
    obtain rfl : i = 0 := by omega
    exact W.1
  | succ J ih =>
    intro hg hw
    have hgJ := hg J (Nat.lt_succ_self J)
    obtain ⟨i1, i2, i3⟩ := ih (fun j hj => hg j (by omega)) hgJ.1
    obtain ⟨e, -, -⟩ := (rS_dfa hbf hT rd (J + 1) hg).1 hw
    have W := rEv_well hbf (a := Pp bf n rd (J + 1)) (r := J + 1) (rd := Pd bf n rd (J + 1)) (by rw [← e]; exact hw)
    rw [← e] at W
    obtain ⟨W1, W2, W3⟩ := W
    have c59 : Bq bf n (rS bf n rd J).1 = 59 := by
      by_cases c : Bq bf n (rS bf n rd J).1 = 59
      · exact c
      · have es : rS bf n rd (J + 1) = if Bq bf n (rS bf n rd J).1 = 59 then rEv bf n ((rS bf n rd J).1 + 1) (rS bf n rd J).2.2.1 (rS bf n rd J).2.2.2 else ((rS bf n rd J).1, 0, (rS bf n rd J).2.2.1, (rS bf n rd J).2.2.2) := rfl
        rw [if_neg c] at es
        rw [es] at hw
        exact absurd rfl hw
    refine ⟨fun i hi => ?_, fun i hi => ?_, W2⟩
    · by_cases c : i = J + 1
      · subst c; exact W1
      · refine evAt_congr ?_ ?_ ?_ (i1 i (by omega))
        · exact W3 _ (by omega)
        · exact W3 _ (by omega)
        · exact W3 _ (by omega)
    · by_cases c : i = J
      · subst c; exact c59
      · exact i2 i (by omega)
/-- the reference's state behind the events from i on, m of them left -/
def MrunF (rd s : Nat → Int32) (r i m : Nat) : Nat → Int32 := if MrunE rd s r i m < r then MrunN rd s (MrunE rd s r i m + 1) else MrunN rd s (MrunE rd s r i m)
theorem run_all {bf sg : Nat → Int32} {n : Nat} (hT : ∀ k, k < n → Tq sg n k = Bq bf n k) {rd rdF s0 : Nat → Int32} {J : Nat} (hE : ∀ i, i ≤ J → evAt bf n (Pp bf n rd i) (rS bf n rd i).1 rdF i) (h59 : ∀ i, i < J → Bq bf n (rS bf n rd i).1 = 59) (hlt : ∀ i, i < J → (rS bf n rd i).1 < n) (hend : (rS bf n rd J).1 = n) : ∀ m i h, i + m = J + 1 → RelS h (MrunN rdF s0 i) → Inv h → Hbo h → ∀ q, q = (if i ≤ J then Pp bf n rd i else n) → (Ufin sg n q (n - q) h i).2 = MrunE rdF s0 (J + 1) i m ∧ RelS (Ufin sg n q (n - q) h i).1 (MrunF rdF s0 (J + 1) i m) ∧ Inv (Ufin sg n q (n - q) h i).1 ∧ Hbo (Ufin sg n q (n - q) h i).1 := by
  intro m
  induction m with
  | zero =>
    intro i h hi r iv hb q hq
    rw [if_neg (by omega)] at hq
    subst hq
    rw [Nat.sub_self]
    refine ⟨rfl, ?_, iv, hb⟩
    show RelS h (if i < J + 1 then MrunN rdF s0 (i + 1) else MrunN rdF s0 i)
    rw [if_neg (by omega)]; exact r
  | succ m ih =>
    intro i h hi r iv hb q hq
    have hiJ : i ≤ J := by omega
    rw [if_pos hiJ] at hq
    have E := hE i hiJ
    obtain ⟨z1, z2, z3⟩ := ev_no59 hT E
    have hq59 : Tq sg n (rS bf n rd i).1 = 59 := by
      by_cases c : i = J
      · subst c; rw [hend]; exact if_pos (Nat.le_refl n)
      · rw [hT _ (hlt i (by omega))]; exact h59 i (by omega)
    have hst : q = 0 ∨ Tq sg n (q - 1) = 59 := by
      rw [hq]
      cases i with
      | zero => exact Or.inl rfl
      | succ i =>
        refine Or.inr ?_
        show Tq sg n ((rS bf n rd i).1 + 1 - 1) = 59
        rw [Nat.add_sub_cancel, hT _ (hlt i (by omega))]
        exact h59 i (by omega)
    obtain ⟨s1, s2, s3⟩ := ev_step r iv hb hT E hq59
    rw [← hq] at s1 s2 s3 z1 z3
    have s4 := Hbo_sm hb (Udo_sm sg n q h)
    have eE : MrunE rdF s0 (J + 1) i (m + 1) = if MevN rdF (3 * i) (MrunN rdF s0 i) = 0 then i else MrunE rdF s0 (J + 1) (i + 1) m := rfl
    rw [Ufin_go (by omega), if_pos hst]
    by_cases c : UdoB sg n q h
    · have c2 := s1.mp c
      rw [if_neg c2] at eE
      rw [if_pos c]
      have nxt := ih (i + 1) (Udo sg n q h) (by omega) s2 s3 s4 _ rfl
      have eF : MrunF rdF s0 (J + 1) i (m + 1) = MrunF rdF s0 (J + 1) (i + 1) m := by unfold MrunF; rw [eE]
      rw [eE, eF]
      have skip : Ufin sg n (q + 1) (n - (q + 1)) (Udo sg n q h) (i + 1) = Ufin sg n (if i + 1 ≤ J then Pp bf n rd (i + 1) else n) (n - (if i + 1 ≤ J then Pp bf n rd (i + 1) else n)) (Udo sg n q h) (i + 1) := by
        by_cases d : i + 1 ≤ J
        · rw [if_pos d]
          have hl := hlt i (by omega)
          refine Ufin_skip (b := (rS bf n rd i).1 + 1) hl ((rS bf n rd i).1 + 1 - (q + 1)) (q + 1) _ _ (by omega) (fun k h1 h2 z => ?_)
          rcases z with z | z
          · omega
          · exact z3 (k - 1) (by omega) (by omega) z
        · rw [if_neg d]
          have hJ : i = J := by omega
          rw [hJ, hend] at z1 z3
          refine Ufin_skip (b := n) (Nat.le_refl n) (n - (q + 1)) (q + 1) _ _ (by omega) (fun k h1 h2 z => ?_)
          rcases z with z | z
          · omega
          · exact z3 (k - 1) (by omega) (by omega) z
      rw [skip]
      exact nxt
    · have c2 : MevN rdF (3 * i) (MrunN rdF s0 i) = 0 := Classical.not_not.mp (fun z => c (s1.mpr z))
      rw [if_pos c2] at eE
      rw [if_neg c, eE]
      have eF : MrunF rdF s0 (J + 1) i (m + 1) = Mev rdF (3 * i) (MrunN rdF s0 i) := by
        unfold MrunF
        rw [eE, if_pos (by omega)]; rfl
      rw [eF]
      rw [Udo_id c] at s2
      exact ⟨rfl, s2, iv, hb⟩
theorem run_eq {bf sg : Nat → Int32} {n : Nat} (hn : n ≤ 60) (hbf : Tok bf n) (hT : ∀ k, k < n → Tq sg n k = Bq bf n k) (rd : Nat → Int32) (hD : Tdone sg n) {h : HSt} {s : Nat → Int32} (r : RelS h s) (i : Inv h) (hb : Hbo h) : (Ufin sg n 0 n h 0).2 = MrunE (rFin bf n rd).2.2.2 s (rFin bf n rd).2.2.1 0 (rFin bf n rd).2.2.1 ∧ RelS (Ufin sg n 0 n h 0).1 (MrunS (rFin bf n rd).2.2.2 s (rFin bf n rd).2.2.1) ∧ Inv (Ufin sg n 0 n h 0).1 ∧ Hbo (Ufin sg n 0 n h 0).1 := by
  have hw := (reads_eq hn hbf hT rd).1.mpr hD
  obtain ⟨J, eJ, hg, hs, hle⟩ := rd_stop hn hbf rd
  rw [eJ] at hw ⊢
  obtain ⟨g1, g2, g3⟩ := rS_evs hbf hT rd J hg hw
  have en : (rS bf n rd J).1 = n := by
    rcases Nat.lt_or_ge (rS bf n rd J).1 n with y | y
    · exact absurd ⟨hw, y⟩ hs
    · omega
  rw [g3]
  exact run_all (rd := rd) hT g1 g2 (fun j hj => (hg j hj).2) en (J + 1) 0 h (by omega) r i hb 0 (by rw [if_pos (Nat.zero_le J)]; rfl)
end
section
/-! the usher beside the reference -/
abbrev CSt : Type := HSt × Nat × Nat × (Nat → HSt) × (Nat → Int32) × Nat
abbrev ch (c : CSt) : HSt := c.1
abbrev cod (c : CSt) : Nat := c.2.1
abbrev csz (c : CSt) : Nat := c.2.2.1
abbrev chs (c : CSt) : Nat → HSt := c.2.2.2.1
abbrev csg (c : CSt) : Nat → Int32 := c.2.2.2.2.1
abbrev cn (c : CSt) : Nat := c.2.2.2.2.2
abbrev kpC (c : CSt) (h2 : HSt) : CSt := (h2, kOd (cod c) (csz c), kSz (csz c), va_up (chs c) (kJ (cod c) (csz c)) (ch c), csg c, cn c)
def Sim (c : CSt) (m : MSt) : Prop :=
  RelS (ch c) (ms m) ∧ Inv (ch c) ∧ Hbo (ch c) ∧ cod c < 6 ∧ csz c ≤ 6 ∧ msm m = nI (csz c) ∧ (∀ j, Hbo (chs c j)) ∧ (∀ i, i < csz c → RelS (chs c ((cod c + i) % 6)) (fun x => msv m (120 * i + x)) ∧ Inv (chs c ((cod c + i) % 6))) ∧ cn c ≤ 60 ∧ mln m = nI (cn c) ∧ Tok (csg c) (cn c) ∧ (∀ k, k < cn c → csg c k = mbf m k)
theorem rel_congr {h : HSt} {s s2 : Nat → Int32} (r : RelS h s) (e : ∀ x, x < 120 → s2 x = s x) : RelS h s2 := by
  obtain ⟨r1, r2, r3, r4, r5, r6, r7, r8, r9, r10, r11⟩ := r
  refine ⟨fun j hj => ?_, fun j hj => ?_, fun j hj => ?_, ?_, ?_, ?_, ?_, ?_, ?_, ?_, fun j hj => ?_⟩
  · rw [e _ (by omega)]; exact r1 j hj
  · rw [e _ (by omega)]; exact r2 j hj
  · rw [e _ (by omega)]; exact r3 j hj
  · rw [e _ (by omega)]; exact r4
  · rw [e _ (by omega)]; exact r5
  · rw [e _ (by omega)]; exact r6
  · rw [e _ (by omega)]; exact r7
  · rw [e _ (by omega)]; exact r8
  · rw [e _ (by omega)]; exact r9
  · rw [e _ (by omega)]; exact r10
  · rw [e _ (by omega)]; exact r11 j hj
theorem cpB_at (s v : Nat → Int32) (j k : Nat) : ∀ n, cpB s v j n k = if 120 * j ≤ k ∧ k < 120 * j + n then s (k - 120 * j) else v k := by
  intro n
  induction n with
  | zero => rw [if_neg (by omega)]; rfl
  | succ n ih =>
    show upd (cpB s v j n) (120 * j + n) (s n) k = _
    by_cases c : k = 120 * j + n
    · subst c
      rw [pk_us, if_pos (by omega), Nat.add_sub_cancel_left]
    · rw [pk_un c, ih]
      by_cases d : 120 * j ≤ k ∧ k < 120 * j + n
      · rw [if_pos d, if_pos (by omega)]
      · rw [if_neg d, if_neg (by omega)]
theorem shN_at (v : Nat → Int32) : ∀ n k, shN v n k = if k < n then v (k + 120) else v k := by
  intro n
  induction n with
  | zero => intro k; rw [if_neg (Nat.not_lt_zero k)]; rfl
  | succ n ih =>
    intro k
    show upd (shN v n) n ((shN v n) (n + 120)) k = _
    by_cases c : k = n
    · subst c
      rw [pk_us, ih, if_neg (by omega), if_pos (by omega)]
    · rw [pk_un c, ih]
      by_cases d : k < n
      · rw [if_pos d, if_pos (by omega)]
      · rw [if_neg d, if_neg (by omega)]
theorem sav_at {c : CSt} {m : MSt} (S : Sim c m) : ∀ i, i < kSz (csz c) → RelS (va_up (chs c) (kJ (cod c) (csz c)) (ch c) ((kOd (cod c) (csz c) + i) % 6)) (fun x => Msv (ms m) (msv m) (csz c) (120 * i + x)) ∧ Inv (va_up (chs c) (kJ (cod c) (csz c)) (ch c) ((kOd (cod c) (csz c) + i) % 6)) := by
  obtain ⟨s1, s2, -, s4, s5, -, -, s8, -⟩ := S
  generalize cod c = od at s4 s8 ⊢
  generalize csz c = sz at s5 s8 ⊢
  intro i hi
  unfold kSz at hi
  unfold kOd kJ Msv va_up
  by_cases c6 : sz = 6
  · rw [if_neg (not_not_intro c6)] at hi
    rw [if_neg (not_not_intro c6), if_neg (not_not_intro c6), if_neg (not_not_intro c6)]
    by_cases c5 : i = 5
    · rw [if_pos (by omega)]
      refine ⟨rel_congr s1 (fun x hx => ?_), s2⟩
      show cpB (ms m) (shN (msv m) 600) 5 120 (120 * i + x) = _
      rw [cpB_at, if_pos (by omega)]
      exact congrArg (ms m) (by omega)
    · rw [if_neg (by omega), show ((od + 1) % 6 + i) % 6 = (od + (i + 1)) % 6 by omega]
      obtain ⟨g1, g2⟩ := s8 (i + 1) (by omega)
      refine ⟨rel_congr g1 (fun x hx => ?_), g2⟩
      show cpB (ms m) (shN (msv m) 600) 5 120 (120 * i + x) = msv m (120 * (i + 1) + x)
      rw [cpB_at, if_neg (by omega), shN_at, if_pos (by omega)]
      exact congrArg (msv m) (by omega)
  · rw [if_pos c6] at hi
    rw [if_pos c6, if_pos c6, if_pos c6]
    by_cases c5 : i = sz
    · rw [if_pos (by omega)]
      refine ⟨rel_congr s1 (fun x hx => ?_), s2⟩
      show cpB (ms m) (msv m) sz 120 (120 * i + x) = _
      rw [cpB_at, if_pos (by omega)]
      exact congrArg (ms m) (by omega)
    · rw [if_neg (by omega)]
      obtain ⟨g1, g2⟩ := s8 i (by omega)
      refine ⟨rel_congr g1 (fun x hx => ?_), g2⟩
      show cpB (ms m) (msv m) sz 120 (120 * i + x) = msv m (120 * i + x)
      rw [cpB_at, if_neg (by omega)]
theorem sim_keepG {c : CSt} {m m2 : MSt} (S : Sim c m) {h2 : HSt} (r2 : RelS h2 (ms m2)) (i2 : Inv h2) (b2 : Hbo h2) (e2 : msm m2 = nI (kSz (csz c))) (e3 : msv m2 = Msv (ms m) (msv m) (csz c)) {n2 : Nat} (hn2 : n2 ≤ 60) (e4 : mln m2 = nI n2) (e5 : Tok (csg c) n2) (e6 : ∀ k, k < n2 → csg c k = mbf m2 k) : Sim (h2, kOd (cod c) (csz c), kSz (csz c), va_up (chs c) (kJ (cod c) (csz c)) (ch c), csg c, n2) m2 := by
  have sv := sav_at S
  obtain ⟨s1, s2, s3, s4, s5, -, s7, -⟩ := S
  refine ⟨r2, i2, b2, kOd_lt s4, kSz_le s5, e2, k_bs s7 s3, fun i hi => ?_, hn2, e4, e5, e6⟩
  rw [e3]
  exact sv i hi
theorem sim_keep {c : CSt} {m : MSt} (S : Sim c m) {h2 : HSt} {s2 : Nat → Int32} (r2 : RelS h2 s2) (i2 : Inv h2) (b2 : Hbo h2) : Sim (kpC c h2) (sMs (Mkeep (csz c) (sMth m (nI 0))) s2) := by
  obtain ⟨-, -, -, -, -, -, -, -, s9, s10, s11, s12⟩ := id S
  exact sim_keepG S (m2 := sMs (Mkeep (csz c) (sMth m (nI 0))) s2) r2 i2 b2 rfl rfl s9 s10 s11 s12
theorem sim_th {c : CSt} {m : MSt} (S : Sim c m) (v : Int32) : Sim c (sMth m v) := S
theorem sim_as {c : CSt} {m : MSt} (S : Sim c m) (v : Nat → Int32) : Sim c (sMas m v) := S
theorem sim_hs {c : CSt} {m : MSt} (S : Sim c m) (v : Int64) : Sim c (sMhs m v) := S
theorem sim_MR {c : CSt} {m : MSt} (S : Sim c m) (t : RSt) : Sim c (MR m t) := S
/-! arguments in range -/
theorem ckR_iff {x : Int32} : ckR x = 0 ↔ (nI 0 ≤ x ∧ x ≤ nI 7) := by
  constructor
  · intro h
    obtain ⟨k, hk, rfl⟩ := ckR_ok h
    exact ⟨(nI_leI (by decide) (by omega)).mpr (Nat.zero_le k), (nI_leI (by omega) (by decide)).mpr (by omega)⟩
  · intro h
    obtain ⟨k, hk, rfl⟩ := in_nat (by decide) (by decide) h
    unfold ckR
    rw [if_neg (nI_pos (by omega)), if_pos ((nI_ltI (by omega) (by decide)).mpr (by omega))]
theorem ckC_iff {x : Int32} : ckC x = 0 ↔ (nI 0 ≤ x ∧ x ≤ nI 5) := by
  constructor
  · intro h
    obtain ⟨k, hk, rfl⟩ := ckC_ok h
    exact ⟨(nI_leI (by decide) (by omega)).mpr (Nat.zero_le k), (nI_leI (by omega) (by decide)).mpr (by omega)⟩
  · intro h
    obtain ⟨k, hk, rfl⟩ := in_nat (by decide) (by decide) h
    unfold ckC
    rw [if_neg (nI_pos (by omega)), if_pos ((nI_ltI (by omega) (by decide)).mpr (by omega))]
theorem cdCount_ckC (x : Int32) : cdCount x = ckC x := rfl
theorem ckM_iff {x : Int32} : ckM x = 0 ↔ (nI 1 ≤ x ∧ x ≤ nI 60) := by
  constructor
  · intro h
    obtain ⟨k, hk, rfl⟩ := ckM_ok h
    exact ⟨(nI_leI (by decide) (by omega)).mpr hk.2, (nI_leI (by omega) (by decide)).mpr hk.1⟩
  · intro h
    obtain ⟨k, hk, rfl⟩ := in_nat (by decide) (by decide) h
    unfold ckM
    rw [if_neg (fun z => by have := (nI_ltI (by omega) (by decide)).mp z; omega), if_pos ((nI_leI (by omega) (by decide)).mpr hk.2)]
theorem ckR_1 {x : Int32} (h : ¬ ckR x = 0) : ckR x = 1 := by
  revert h; unfold ckR; (repeat' split) <;> intro h <;> first | rfl | exact absurd rfl h
theorem ckC_1 {x : Int32} (h : ¬ ckC x = 0) : ckC x = 1 := by
  revert h; unfold ckC; (repeat' split) <;> intro h <;> first | rfl | exact absurd rfl h
theorem ckM_1 {x : Int32} (h : ¬ ckM x = 0) : ckM x = 1 := by
  revert h; unfold ckM; (repeat' split) <;> intro h <;> first | rfl | exact absurd rfl h
theorem pl_plM (row con : Int32) : plM row con = pl row con := by unfold plM pl; omega
theorem pair_iff {row con : Int32} : pairOK row con ↔ ckR row = 0 ∧ ckC con = 0 := by rw [ckR_iff, ckC_iff]
theorem pl_lt {row con : Int32} (h1 : ckR row = 0) (h2 : ckC con = 0) : pl row con < 48 := by
  obtain ⟨a, ha, e1⟩ := ckR_ok h1
  obtain ⟨b, hb, e2⟩ := ckC_ok h2
  rw [pl_eq ha hb e1 e2]; omega
theorem cdPair_0 {row con : Int32} : cdPair row con = 0 ↔ pairOK row con := by
  rw [pair_iff]
  unfold cdPair
  by_cases h1 : ckR row = 0
  · rw [if_pos h1]
    by_cases h2 : ckC con = 0
    · rw [if_pos h2]; exact ⟨fun _ => ⟨h1, h2⟩, fun _ => rfl⟩
    · rw [if_neg h2]; exact ⟨fun z => absurd z (by decide), fun z => absurd z.2 h2⟩
  · rw [if_neg h1]; exact ⟨fun z => absurd z (by decide), fun z => absurd z.1 h1⟩
theorem cdPair_1 {row con : Int32} (h : ¬ pairOK row con) : cdPair row con = 1 := by
  rw [pair_iff] at h
  unfold cdPair
  by_cases h1 : ckR row = 0
  · rw [if_pos h1, if_neg (fun z => h ⟨h1, z⟩)]
  · rw [if_neg h1]
/-! call by call: the exception, the answer, the states -/
theorem q_come {c : CSt} {m : MSt} (S : Sim c m) (row con : Int32) : mth (Mcome (csz c) row con m) = nI (cdCome (ch c) row con) ∧ (cdCome (ch c) row con = 0 → hL (Hseat (pl row con) (ch c)) (pl row con) = McomeR row con m ∧ Sim (kpC c (Hseat (pl row con) (ch c))) (Mcome (csz c) row con m)) ∧ (¬ cdCome (ch c) row con = 0 → Sim c (Mcome (csz c) row con m)) := by
  obtain ⟨s1, s2, s3, -⟩ := id S
  unfold Mcome McomeR cdCome
  rw [pl_plM]
  by_cases h1 : ckR row = 0
  · by_cases h2 : ckC con = 0
    · have hk := pl_lt h1 h2
      obtain ⟨l, hl, el⟩ := s2.1 _ hk
      have e := s1.1 _ hk
      rw [if_pos (pair_iff.mpr ⟨h1, h2⟩), if_pos (pair_iff.mpr ⟨h1, h2⟩), if_pos h1, if_pos h2, e, el]
      by_cases h9 : l = 9
      · subst h9
        rw [if_pos rfl, if_neg (not_not_intro (Int32.le_refl _))]
        exact ⟨rfl, fun z => absurd z (by decide), fun _ => S⟩
      · have g1 : ¬ nI l = nI 9 := fun z => h9 ((nI_eq (by omega) (by decide)).mp z)
        have g2 : ¬ nI 9 ≤ nI l := fun z => h9 (by have := (nI_leI (by decide) (by omega)).mp z; omega)
        rw [if_neg g1, if_pos g2, if_neg g1]
        have r2 := rel_seat s1 hk
        refine ⟨rfl, fun _ => ⟨(r2.1 _ hk).symm, sim_keep S r2 (inv_seat s2 hk (by rw [el]; exact g2)) (Hbo_sm s3 (Hseat_sm _ _))⟩, fun z => absurd rfl z⟩
    · rw [if_neg (fun z => h2 (pair_iff.mp z).2), if_neg (fun z => h2 (pair_iff.mp z).2), if_pos h1, if_neg h2]
      exact ⟨rfl, fun z => absurd z (by decide), fun _ => S⟩
  · rw [if_neg (fun z => h1 (pair_iff.mp z).1), if_neg (fun z => h1 (pair_iff.mp z).1), if_neg h1]
    exact ⟨rfl, fun z => absurd z (by decide), fun _ => S⟩
theorem q_leave {c : CSt} {m : MSt} (S : Sim c m) (row con : Int32) (b : Nat) : mth (Mleave (csz c) row con b m) = nI (cdLeave (ch c) row con) ∧ (cdLeave (ch c) row con = 0 → hL (Hunseat (pl row con) b (ch c)) (pl row con) = MleaveR row con b m ∧ Sim (kpC c (Hunseat (pl row con) b (ch c))) (Mleave (csz c) row con b m)) ∧ (¬ cdLeave (ch c) row con = 0 → Sim c (Mleave (csz c) row con b m)) := by
  obtain ⟨s1, s2, s3, -⟩ := id S
  unfold Mleave MleaveR cdLeave
  rw [pl_plM]
  by_cases h1 : ckR row = 0
  · by_cases h2 : ckC con = 0
    · have hk := pl_lt h1 h2
      obtain ⟨l, hl, el⟩ := s2.1 _ hk
      have e := s1.1 _ hk
      rw [if_pos (pair_iff.mpr ⟨h1, h2⟩), if_pos (pair_iff.mpr ⟨h1, h2⟩), if_pos h1, if_pos h2, e]
      by_cases h9 : l = 0
      · subst h9
        have el0 : hL (ch c) (pl row con) = 0 := el
        rw [if_neg (not_not_intro el0), if_neg (not_not_intro (by rw [el0]; exact Int32.le_refl _))]
        exact ⟨rfl, fun z => absurd z (by decide), fun _ => S⟩
      · have g2 : ¬ hL (ch c) (pl row con) ≤ 0 := fun z => h9 ((le0 (by omega)).mp (by rw [← el]; exact z))
        have g1 : ¬ hL (ch c) (pl row con) = 0 := fun z => g2 (by rw [z]; exact Int32.le_refl _)
        rw [if_pos g1, if_pos g2, if_pos g1]
        have r2 := rel_unseat s1 s2 s3 b hk g2
        refine ⟨rfl, fun _ => ⟨(r2.1 _ hk).symm, sim_keep S r2 (inv_unseat s2 b hk g2) (Hbo_sm s3 (Hunseat_sm _ _ _))⟩, fun z => absurd rfl z⟩
    · rw [if_neg (fun z => h2 (pair_iff.mp z).2), if_neg (fun z => h2 (pair_iff.mp z).2), if_pos h1, if_neg h2]
      exact ⟨rfl, fun z => absurd z (by decide), fun _ => S⟩
  · rw [if_neg (fun z => h1 (pair_iff.mp z).1), if_neg (fun z => h1 (pair_iff.mp z).1), if_neg h1]
    exact ⟨rfl, fun z => absurd z (by decide), fun _ => S⟩
theorem q_listeners {c : CSt} {m : MSt} (S : Sim c m) (row con : Int32) : mth (Mpair row con m) = nI (cdPair row con) ∧ (cdPair row con = 0 → hL (ch c) (pl row con) = MlisR row con m ∧ Sim c (Mpair row con m)) ∧ (¬ cdPair row con = 0 → Sim c (Mpair row con m)) := by
  unfold Mpair MlisR
  by_cases h : pairOK row con
  · have hk := pl_lt (pair_iff.mp h).1 (pair_iff.mp h).2
    rw [if_pos h, if_pos h, cdPair_0.mpr h, pl_plM]
    exact ⟨rfl, fun _ => ⟨(S.1.1 _ hk).symm, S⟩, fun _ => S⟩
  · rw [if_neg h, if_neg h, cdPair_1 h]
    exact ⟨rfl, fun z => absurd z (by decide), fun _ => S⟩
theorem q_rest {c : CSt} {m : MSt} (S : Sim c m) (row con : Int32) : mth (Mpair row con m) = nI (cdPair row con) ∧ (cdPair row con = 0 → hR (ch c) (pl row con) = MrestR row con m ∧ Sim c (Mpair row con m)) ∧ (¬ cdPair row con = 0 → Sim c (Mpair row con m)) := by
  unfold Mpair MrestR
  by_cases h : pairOK row con
  · have hk := pl_lt (pair_iff.mp h).1 (pair_iff.mp h).2
    rw [if_pos h, if_pos h, cdPair_0.mpr h, pl_plM]
    exact ⟨rfl, fun _ => ⟨(S.1.2.1 _ hk).symm, S⟩, fun _ => S⟩
  · rw [if_neg h, if_neg h, cdPair_1 h]
    exact ⟨rfl, fun z => absurd z (by decide), fun _ => S⟩
theorem q_minutesToFade {c : CSt} {m : MSt} (S : Sim c m) (row con : Int32) : mth (MfadeS row con m) = nI (cdPair row con) ∧ (cdPair row con = 0 → HfadesIn (pl row con) (ch c) = MfadeR row con m ∧ Sim c (MfadeS row con m)) ∧ (¬ cdPair row con = 0 → Sim c (MfadeS row con m)) := by
  unfold MfadeS MfadeR
  by_cases h : pairOK row con
  · have hk := pl_lt (pair_iff.mp h).1 (pair_iff.mp h).2
    rw [if_pos h, if_pos h, cdPair_0.mpr h, pl_plM]
    exact ⟨rfl, fun _ => ⟨(fades_eq S.1 S.2.1 hk).symm, S⟩, fun _ => S⟩
  · rw [if_neg h, if_neg h, cdPair_1 h]
    exact ⟨rfl, fun z => absurd z (by decide), fun _ => S⟩
theorem q_rows {c : CSt} {m : MSt} (S : Sim c m) (con : Int32) : mth (Mcon con m) = nI (ckC con) ∧ (ckC con = 0 → Hget (ch c) con.toNatClampNeg 8 = MrowsR con m ∧ Sim c (Mcon con m)) ∧ (¬ ckC con = 0 → Sim c (Mcon con m)) := by
  unfold Mcon MrowsR
  by_cases h : ckC con = 0
  · obtain ⟨k, hk, e⟩ := ckC_ok h
    have ek := cl_eq e (by omega)
    rw [if_pos (ckC_iff.mp h), if_pos (ckC_iff.mp h), h, ek]
    exact ⟨rfl, fun _ => ⟨(row_eq S.1 S.2.1 hk).symm, S⟩, fun _ => S⟩
  · rw [if_neg (fun z => h (ckC_iff.mpr z)), if_neg (fun z => h (ckC_iff.mpr z)), ckC_1 h]
    exact ⟨rfl, fun z => absurd z (by decide), fun _ => S⟩
theorem q_wanted {c : CSt} {m : MSt} (S : Sim c m) (con : Int32) : mth (Mcon con m) = nI (ckC con) ∧ (ckC con = 0 → Hwant (ch c) con.toNatClampNeg 8 = MwanR con m ∧ Sim c (Mcon con m)) ∧ (¬ ckC con = 0 → Sim c (Mcon con m)) := by
  unfold Mcon MwanR
  by_cases h : ckC con = 0
  · obtain ⟨k, hk, e⟩ := ckC_ok h
    have ek := cl_eq e (by omega)
    rw [if_pos (ckC_iff.mp h), if_pos (ckC_iff.mp h), h, ek]
    exact ⟨rfl, fun _ => ⟨(wan_eq S.1 hk 8 (Nat.le_refl 8)).symm, S⟩, fun _ => S⟩
  · rw [if_neg (fun z => h (ckC_iff.mpr z)), if_neg (fun z => h (ckC_iff.mpr z)), ckC_1 h]
    exact ⟨rfl, fun z => absurd z (by decide), fun _ => S⟩
theorem q_play {c : CSt} {m : MSt} (S : Sim c m) (con : Int32) : mth (MplayS (csz c) con m) = nI (ckC con) ∧ (ckC con = 0 → bc (Hget (ch c) con.toNatClampNeg 8) = MplayR con m ∧ Sim (kpC c (Hperf con.toNatClampNeg (ch c))) (MplayS (csz c) con m)) ∧ (¬ ckC con = 0 → Sim c (MplayS (csz c) con m)) := by
  unfold MplayS MplayR
  by_cases h : ckC con = 0
  · obtain ⟨k, hk, e⟩ := ckC_ok h
    have ek := cl_eq e (by omega)
    rw [if_pos (ckC_iff.mp h), if_pos (ckC_iff.mp h), h, ek]
    exact ⟨rfl, fun _ => ⟨(play_q S.1 S.2.1 hk).symm, sim_keep S (rel_play S.1 S.2.1 hk) (inv_play S.2.1 k) (Hbo_sm S.2.2.1 (Hperf_sm k _))⟩, fun z => absurd rfl z⟩
  · rw [if_neg (fun z => h (ckC_iff.mpr z)), if_neg (fun z => h (ckC_iff.mpr z)), ckC_1 h]
    exact ⟨rfl, fun z => absurd z (by decide), fun _ => S⟩
theorem q_pass {c : CSt} {m : MSt} (S : Sim c m) (mins : Int32) : mth (MpassS (csz c) mins m) = nI (ckM mins) ∧ (ckM mins = 0 → nI (HpassQ (ch c) mins.toNatClampNeg) = MpassR mins m ∧ Sim (kpC c (HpassN (ch c) mins.toNatClampNeg)) (MpassS (csz c) mins m)) ∧ (¬ ckM mins = 0 → Sim c (MpassS (csz c) mins m)) := by
  unfold MpassS MpassR
  by_cases h : ckM mins = 0
  · rw [if_pos (ckM_iff.mp h), if_pos (ckM_iff.mp h), h]
    exact ⟨rfl, fun _ => ⟨(pass_q S.1 _).symm, sim_keep S (rel_pass S.1 _) (inv_pass S.2.1 _) (Hbo_sm S.2.2.1 (HpassN_sm _ _))⟩, fun z => absurd rfl z⟩
  · rw [if_neg (fun z => h (ckM_iff.mpr z)), if_neg (fun z => h (ckM_iff.mpr z)), ckM_1 h]
    exact ⟨rfl, fun z => absurd z (by decide), fun _ => S⟩
theorem q_count {c : CSt} {m : MSt} (S : Sim c m) (what : Int32) : mth (McntS what m) = nI (cdCount what) ∧ (cdCount what = 0 → hC (ch c) what.toNatClampNeg = McntR what m ∧ Sim c (McntS what m)) ∧ (¬ cdCount what = 0 → Sim c (McntS what m)) := by
  unfold McntS McntR
  rw [cdCount_ckC]
  by_cases h : ckC what = 0
  · obtain ⟨k, hk, e⟩ := ckC_ok h
    have ek := cl_eq e (by omega)
    rw [if_pos (ckC_iff.mp h), if_pos (ckC_iff.mp h), h, ek]
    exact ⟨rfl, fun _ => ⟨(S.1.2.2.1 k hk).symm, S⟩, fun _ => S⟩
  · rw [if_neg (fun z => h (ckC_iff.mpr z)), if_neg (fun z => h (ckC_iff.mpr z)), ckC_1 h]
    exact ⟨rfl, fun z => absurd z (by decide), fun _ => S⟩
theorem q_disturbedAfter {c : CSt} {m : MSt} (S : Sim c m) (con mins : Int32) : mth (MdistS con mins m) = nI (cdDist con mins) ∧ (cdDist con mins = 0 → nI (Hdist (ch c) con.toNatClampNeg mins.toNatClampNeg 8) = MdistR con mins m ∧ Sim c (MdistS con mins m)) ∧ (¬ cdDist con mins = 0 → Sim c (MdistS con mins m)) := by
  unfold MdistS MdistR cdDist
  by_cases h : ckC con = 0
  · rw [if_pos (ckC_iff.mp h), if_pos (ckC_iff.mp h), if_pos h]
    by_cases h2 : ckM mins = 0
    · obtain ⟨k, hk, e⟩ := ckC_ok h
      obtain ⟨x, hx, e2⟩ := ckM_ok h2
      have ek := cl_eq e (by omega)
      have ex := cl_eq e2 (by omega)
      rw [if_pos (ckM_iff.mp h2), if_pos (ckM_iff.mp h2), if_pos h2, ek, ex]
      exact ⟨rfl, fun _ => ⟨(dist_eq S.1 S.2.1 hk hx.1 8 (Nat.le_refl 8)).symm, S⟩, fun _ => S⟩
    · rw [if_neg (fun z => h2 (ckM_iff.mpr z)), if_neg (fun z => h2 (ckM_iff.mpr z)), if_neg h2]
      exact ⟨rfl, fun z => absurd z (by decide), fun _ => S⟩
  · rw [if_neg (fun z => h (ckC_iff.mpr z)), if_neg (fun z => h (ckC_iff.mpr z)), if_neg h]
    exact ⟨rfl, fun z => absurd z (by decide), fun _ => S⟩
theorem open_R {h : HSt} {s : Nat → Int32} (r : RelS h s) {k : Nat} (hk : k < 8) : bI (s (13 + k) = nI 1) = bI (Hopen h k) := by
  rw [r.2.2.2.2.2.2.2.2.2.2 k hk]
  exact bI_iff (by
    by_cases d : Hopen h k
    · rw [bI_t d]; exact ⟨fun _ => d, fun _ => rfl⟩
    · rw [bI_f d]; exact ⟨fun z => absurd z (by decide), fun z => absurd z d⟩)
theorem q_isOpen {c : CSt} {m : MSt} (S : Sim c m) (row : Int32) : mth (MopenQ row m) = nI (ckR row) ∧ (ckR row = 0 → bI (Hopen (ch c) row.toNatClampNeg) = MopenR row m ∧ Sim c (MopenQ row m)) ∧ (¬ ckR row = 0 → Sim c (MopenQ row m)) := by
  unfold MopenQ MopenR
  by_cases h : ckR row = 0
  · obtain ⟨k, hk, e⟩ := ckR_ok h
    have ek := cl_eq e (by omega)
    rw [if_pos (ckR_iff.mp h), if_pos (ckR_iff.mp h), h, ek]
    exact ⟨rfl, fun _ => ⟨(open_R S.1 hk).symm, S⟩, fun _ => S⟩
  · rw [if_neg (fun z => h (ckR_iff.mpr z)), if_neg (fun z => h (ckR_iff.mpr z)), ckR_1 h]
    exact ⟨rfl, fun z => absurd z (by decide), fun _ => S⟩
theorem open_new {h : HSt} {s : Nat → Int32} (r : RelS h s) (i : Inv h) {row : Int32} {k b : Nat} (hb2 : b < 2) (hk : k < 8) (ek : row.toNatClampNeg = k) : RelS (UOpen row b h) (upd s (13 + k) (nI b)) ∧ Inv (UOpen row b h) ∧ Hsm h (UOpen row b h) := by
  unfold UOpen
  rw [ek]
  by_cases c : bI (Hopen h k) = nI b
  · rw [if_pos c, upd_id (by rw [r.2.2.2.2.2.2.2.2.2.2 k hk, c])]
    exact ⟨r, i, Hsm.rf h⟩
  · rw [if_neg c]
    refine ⟨rel_turn r i hk ?_, inv_turn i hk, Hturn_sm k h⟩
    rw [bI_opb] at c
    rcases (by omega : b = 0 ∨ b = 1) with rfl | rfl
    · cases d : opb (hop h) k
      · rw [d] at c; exact absurd rfl c
      · rfl
    · cases d : opb (hop h) k
      · rfl
      · rw [d] at c; exact absurd rfl c
theorem q_setOpen {c : CSt} {m : MSt} (S : Sim c m) (row : Int32) (b : Nat) (hb2 : b < 2) : mth (MopenS (csz c) row b m) = nI (ckR row) ∧ (ckR row = 0 → bI (Hopen (ch c) row.toNatClampNeg) = MopenR row m ∧ Sim (kpC c (UOpen row b (ch c))) (MopenS (csz c) row b m)) ∧ (¬ ckR row = 0 → Sim c (MopenS (csz c) row b m)) := by
  unfold MopenS MopenR
  by_cases h : ckR row = 0
  · obtain ⟨k, hk, e⟩ := ckR_ok h
    have ek := cl_eq e (by omega)
    obtain ⟨g1, g2, g3⟩ := open_new S.1 S.2.1 hb2 hk ek
    rw [if_pos (ckR_iff.mp h), if_pos (ckR_iff.mp h), h, ek]
    exact ⟨rfl, fun _ => ⟨(open_R S.1 hk).symm, sim_keep S g1 g2 (Hbo_sm S.2.2.1 g3)⟩, fun z => absurd rfl z⟩
  · rw [if_neg (fun z => h (ckR_iff.mpr z)), if_neg (fun z => h (ckR_iff.mpr z)), ckR_1 h]
    exact ⟨rfl, fun z => absurd z (by decide), fun _ => S⟩
theorem q_setQuick {c : CSt} {m : MSt} (S : Sim c m) (b : Nat) (hb2 : b < 2) : hqk (ch c) = bI (ms m 3 = nI 1) ∧ Sim (kpC c (sHqk (ch c) (nI b))) (sMs (Mkeep (csz c) (sMth m (nI 0))) (upd (ms m) 3 (nI b))) := by
  refine ⟨?_, sim_keep S (rel_qk S.1 (nI b)) S.2.1 ⟨k_b2 hb2, S.2.2.1.2⟩⟩
  rw [S.1.2.2.2.2.2.2.1]
  rcases S.2.2.1.1 with q | q
  · rw [q]; decide
  · rw [q]; decide
theorem q_setTimes {c : CSt} {m : MSt} (S : Sim c m) (t1 t2 t3 : Int32) : mth (MtimesS (csz c) t1 t2 t3 m) = nI (cdTimes t1 t2 t3) ∧ (cdTimes t1 t2 t3 = 0 → hfd (ch c) = MtimesR t1 t2 t3 m ∧ Sim (kpC c (UTimes t1 t2 t3 (ch c))) (MtimesS (csz c) t1 t2 t3 m)) ∧ (¬ cdTimes t1 t2 t3 = 0 → Sim c (MtimesS (csz c) t1 t2 t3 m)) := by
  have rng : ∀ (x lo hi : Int32) (A B : Nat), (if x < lo then B else if x ≤ hi then A else B) = if lo ≤ x ∧ x ≤ hi then A else B := by
    intro x lo hi A B
    by_cases c1 : x < lo
    · rw [if_pos c1, if_neg (fun z => Int32.lt_irrefl (Int32.lt_of_lt_of_le c1 z.1))]
    · rw [if_neg c1]
      by_cases c2 : x ≤ hi
      · rw [if_pos c2, if_pos ⟨Int32.not_lt.mp c1, c2⟩]
      · rw [if_neg c2, if_neg (fun z => c2 z.2)]
  unfold MtimesS MtimesR cdTimes
  rw [rng, rng, rng]
  by_cases h1 : nI 2 ≤ t1 ∧ t1 ≤ nI 60
  · rw [if_pos h1, if_pos h1, if_pos h1]
    by_cases h2 : nI 1 ≤ t2 ∧ t2 ≤ nI 10
    · rw [if_pos h2, if_pos h2, if_pos h2]
      by_cases h3 : nI 1 ≤ t3 ∧ t3 ≤ nI 30
      · rw [if_pos h3, if_pos h3, if_pos h3]
        obtain ⟨a, ha, rfl⟩ := in_nat (by decide) (by decide) h1
        obtain ⟨b, hb, rfl⟩ := in_nat (by decide) (by decide) h2
        obtain ⟨d, hd, rfl⟩ := in_nat (by decide) (by decide) h3
        have i := S.2.1
        refine ⟨rfl, fun _ => ⟨S.1.2.2.2.1.symm, sim_keep S (rel_as (rel_pt (rel_fd S.1 _) _) _) ?_ S.2.2.1⟩, fun z => absurd rfl z⟩
        exact ⟨i.1, i.2.1, ⟨a, ha, rfl⟩, ⟨b, hb, rfl⟩, ⟨d, hd, rfl⟩, i.2.2.2.2.2⟩
      · rw [if_neg h3, if_neg h3, if_neg h3]
        exact ⟨rfl, fun z => absurd z (by decide), fun _ => S⟩
    · rw [if_neg h2, if_neg h2, if_neg h2]
      exact ⟨rfl, fun z => absurd z (by decide), fun _ => S⟩
  · rw [if_neg h1, if_neg h1, if_neg h1]
    exact ⟨rfl, fun z => absurd z (by decide), fun _ => S⟩
theorem rel_f1 {h : HSt} {s : Nat → Int32} (r : RelS h s) (v : Int32) : RelS (sHf1 h v) (upd s 4 (mask (sHf1 h v))) := by
  obtain ⟨r1, r2, r3, r4, r5, r6, r7, r8, r9, r10, r11⟩ := r
  refine ⟨fun j hj => ?_, fun j hj => ?_, fun j hj => ?_, ?_, ?_, ?_, ?_, ?_, ?_, ?_, fun j hj => ?_⟩
  · rw [pk_un (by omega)]; exact r1 j hj
  · rw [pk_un (by omega)]; exact r2 j hj
  · rw [pk_un (by omega)]; exact r3 j hj
  · rw [pk_un (by decide)]; exact r4
  · rw [pk_un (by decide)]; exact r5
  · rw [pk_un (by decide)]; exact r6
  · rw [pk_un (by decide)]; exact r7
  · exact pk_us
  · rw [pk_un (by decide)]; exact r9
  · rw [pk_un (by decide)]; exact r10
  · rw [pk_un (by omega)]; exact r11 j hj
theorem rel_f2 {h : HSt} {s : Nat → Int32} (r : RelS h s) (v : Int32) : RelS (sHf2 h v) (upd s 4 (mask (sHf2 h v))) := by
  obtain ⟨r1, r2, r3, r4, r5, r6, r7, r8, r9, r10, r11⟩ := r
  refine ⟨fun j hj => ?_, fun j hj => ?_, fun j hj => ?_, ?_, ?_, ?_, ?_, ?_, ?_, ?_, fun j hj => ?_⟩
  · rw [pk_un (by omega)]; exact r1 j hj
  · rw [pk_un (by omega)]; exact r2 j hj
  · rw [pk_un (by omega)]; exact r3 j hj
  · rw [pk_un (by decide)]; exact r4
  · rw [pk_un (by decide)]; exact r5
  · rw [pk_un (by decide)]; exact r6
  · rw [pk_un (by decide)]; exact r7
  · exact pk_us
  · rw [pk_un (by decide)]; exact r9
  · rw [pk_un (by decide)]; exact r10
  · rw [pk_un (by omega)]; exact r11 j hj
theorem pres_new {h : HSt} {s : Nat → Int32} (r : RelS h s) (hb : Hbo h) {u : Int32} {b : Nat} (hb2 : b < 2) (hu : u = nI 1 ∨ u = nI 2) : RelS (UPres u b h) (Mpres u b s) ∧ Hbo (UPres u b h) := by
  have e4 : s 4 = mask h := r.2.2.2.2.2.2.2.1
  unfold UPres Mpres
  rw [e4]
  rcases hu with rfl | rfl
  · rw [if_neg (not_not_intro rfl)]
    refine ⟨?_, hb.1, k_b2 hb2, hb.2.2⟩
    have e : (mask h &&& ((nI 1 <<< (nI 1 &&& 31)) ^^^ (-1))) ||| (if b = 0 then nI 0 else (nI 1 <<< (nI 1 &&& 31))) = mask (sHf1 h (nI b)) := by
      show _ = (if hf2 h = 0 then (if nI b = 0 then nI 0 else nI 2) else (if nI b = 0 then nI 4 else nI 6))
      unfold mask
      rcases hb.2.1 with q1 | q1 <;> rcases hb.2.2 with q2 | q2 <;> rcases (by omega : b = 0 ∨ b = 1) with rfl | rfl <;> rw [q1, q2] <;> decide
    rw [e]
    exact rel_f1 r (nI b)
  · rw [if_pos (by decide)]
    refine ⟨?_, hb.1, hb.2.1, k_b2 hb2⟩
    have e : (mask h &&& ((nI 1 <<< (nI 2 &&& 31)) ^^^ (-1))) ||| (if b = 0 then nI 0 else (nI 1 <<< (nI 2 &&& 31))) = mask (sHf2 h (nI b)) := by
      show _ = (if nI b = 0 then (if hf1 h = 0 then nI 0 else nI 2) else (if hf1 h = 0 then nI 4 else nI 6))
      unfold mask
      rcases hb.2.1 with q1 | q1 <;> rcases hb.2.2 with q2 | q2 <;> rcases (by omega : b = 0 ∨ b = 1) with rfl | rfl <;> rw [q1, q2] <;> decide
    rw [e]
    exact rel_f2 r (nI b)
theorem q_setPresent {c : CSt} {m : MSt} (S : Sim c m) (w9 : Int32) (b : Nat) (hb2 : b < 2) : mth (MpresS (csz c) w9 b m) = nI (cdPres w9) ∧ (cdPres w9 = 0 → Hchief (UPres w9 b (ch c)) = MpresR w9 b m ∧ Sim (kpC c (UPres w9 b (ch c))) (MpresS (csz c) w9 b m)) ∧ (¬ cdPres w9 = 0 → Sim c (MpresS (csz c) w9 b m)) := by
  have ok : (nI 1 ≤ w9 ∧ w9 ≤ nI 2) ↔ (w9 = nI 1 ∨ w9 = nI 2) := by
    constructor
    · intro h
      obtain ⟨k, hk, rfl⟩ := in_nat (by decide) (by decide) h
      rcases (by omega : k = 1 ∨ k = 2) with rfl | rfl
      · exact Or.inl rfl
      · exact Or.inr rfl
    · intro h
      rcases h with rfl | rfl <;> decide
  unfold MpresS MpresR
  by_cases h : w9 = nI 1 ∨ w9 = nI 2
  · have e : cdPres w9 = 0 := by
      unfold cdPres
      rcases h with rfl | rfl
      · rw [if_pos rfl]
      · rw [if_neg (by decide), if_pos rfl]
    obtain ⟨g1, g2⟩ := pres_new S.1 S.2.2.1 hb2 h
    have i2 : Inv (UPres w9 b (ch c)) := by
      unfold UPres
      split
      · exact S.2.1
      · exact S.2.1
    rw [if_pos (ok.mpr h), if_pos (ok.mpr h), e]
    exact ⟨rfl, fun _ => ⟨(chief_eq g1).symm, sim_keep S g1 i2 g2⟩, fun z => absurd rfl z⟩
  · have e : cdPres w9 = 1 := by
      unfold cdPres
      rw [if_neg (fun z => h (Or.inl z)), if_neg (fun z => h (Or.inr z))]
    rw [if_neg (fun z => h (ok.mp z)), if_neg (fun z => h (ok.mp z)), e]
    exact ⟨rfl, fun z => absurd z (by decide), fun _ => S⟩
theorem q_append {c : CSt} {m : MSt} (S : Sim c m) (x : Int32) : mth (MappS (cn c) x m) = nI (cdApp (cn c) x) ∧ (cdApp (cn c) x = 0 → nI (cn c + 1) = MappR (cn c) x ∧ Sim (ch c, cod c, csz c, chs c, upd (csg c) (cn c) x, cn c + 1) (MappS (cn c) x m)) ∧ (¬ cdApp (cn c) x = 0 → Sim c (MappS (cn c) x m)) := by
  obtain ⟨s1, s2, s3, s4, s5, s6, s7, s8, s9, s10, s11, s12⟩ := id S
  unfold MappS MappR cdApp
  by_cases c1 : x < nI 33
  · have g : ¬ codeOK x := fun z => Int32.lt_irrefl (Int32.lt_of_lt_of_le c1 z.1)
    rw [if_neg g, if_neg g, if_pos c1]
    exact ⟨rfl, fun z => absurd z (by decide), fun _ => S⟩
  rw [if_neg c1]
  by_cases c2 : x ≤ nI 126
  · have g : codeOK x := ⟨Int32.not_lt.mp c1, c2⟩
    rw [if_pos g, if_pos g, if_pos c2]
    by_cases c3 : cn c = 60
    · rw [if_pos c3, if_pos c3, if_neg (by omega)]
      exact ⟨rfl, fun z => absurd z (by decide), fun _ => S⟩
    · rw [if_neg c3, if_neg c3, if_pos (by omega)]
      obtain ⟨q, hq, e⟩ := app_nat c1 c2
      refine ⟨rfl, fun _ => ⟨rfl, s1, s2, s3, s4, s5, s6, s7, s8, by show cn c + 1 ≤ 60; omega, rfl, fun k hk => ?_, fun k hk => ?_⟩, fun z => absurd rfl z⟩
      · show ∃ q, q < 65536 ∧ upd (csg c) (cn c) x k = nI q
        have hk : k < cn c + 1 := hk
        by_cases d : k = cn c
        · rw [d, pk_us]; exact ⟨q, hq.1, e⟩
        · rw [pk_un d]; exact s11 k (by omega)
      · show upd (csg c) (cn c) x k = upd (mbf m) (cn c) x k
        have hk : k < cn c + 1 := hk
        by_cases d : k = cn c
        · rw [d, pk_us, pk_us]
        · rw [pk_un d, pk_un d]; exact s12 k (by omega)
  · have g : ¬ codeOK x := fun z => c2 z.2
    rw [if_neg g, if_neg g, if_neg c2]
    exact ⟨rfl, fun z => absurd z (by decide), fun _ => S⟩
theorem q_clearText {c : CSt} {m : MSt} (S : Sim c m) : Sim (ch c, cod c, csz c, chs c, csg c, 0) (sMln (sMth m (nI 0)) (nI 0)) := by
  obtain ⟨s1, s2, s3, s4, s5, s6, s7, s8, s9, s10, s11, s12⟩ := id S
  exact ⟨s1, s2, s3, s4, s5, s6, s7, s8, Nat.zero_le _, rfl, fun k hk => absurd hk (Nat.not_lt_zero k), fun k hk => absurd hk (Nat.not_lt_zero k)⟩
theorem sim_bf {c : CSt} {m : MSt} (S : Sim c m) : Tok (mbf m) (cn c) ∧ ∀ k, k < cn c → Tq (csg c) (cn c) k = Bq (mbf m) (cn c) k := by
  obtain ⟨-, -, -, -, -, -, -, -, -, -, s11, s12⟩ := id S
  refine ⟨fun k hk => ?_, fun k hk => ?_⟩
  · rw [← s12 k hk]; exact s11 k hk
  · unfold Tq Bq
    rw [if_neg (by omega), if_neg (by omega), s12 k hk]
theorem q_firstError {c : CSt} {m : MSt} (S : Sim c m) : nI (Tfw (csg c) (cn c) 0 (cn c)) = nI (if (rFin (mbf m) (cn c) (mrd m)).2.1 = 0 then (rFin (mbf m) (cn c) (mrd m)).1 else cn c) ∧ Sim c (MR (sMth m (nI 0)) (rFin (mbf m) (cn c) (mrd m))) := by
  obtain ⟨b1, b2⟩ := sim_bf S
  rw [(reads_eq S.2.2.2.2.2.2.2.2.1 b1 b2 (mrd m)).2]
  exact ⟨rfl, S⟩
theorem q_run {c : CSt} {m : MSt} (S : Sim c m) : mth (MrunM (csz c) (cn c) m) = nI (if Tdone (csg c) (cn c) then 0 else 1) ∧ ((if Tdone (csg c) (cn c) then 0 else 1) = 0 → nI ((Ufin (csg c) (cn c) 0 (cn c) (ch c) 0).2) = nI (MrunR (cn c) m) ∧ Sim ((Ufin (csg c) (cn c) 0 (cn c) (ch c) 0).1, kOd (cod c) (csz c), kSz (csz c), va_up (chs c) (kJ (cod c) (csz c)) (ch c), csg c, 0) (MrunM (csz c) (cn c) m)) ∧ (¬ (if Tdone (csg c) (cn c) then 0 else 1) = 0 → Sim c (MrunM (csz c) (cn c) m)) := by
  obtain ⟨b1, b2⟩ := sim_bf S
  have hn := S.2.2.2.2.2.2.2.2.1
  obtain ⟨g1, -⟩ := reads_eq hn b1 b2 (mrd m)
  unfold MrunM MrunR
  by_cases h : Tdone (csg c) (cn c)
  · have hw := g1.mpr h
    rw [if_pos h, if_neg hw, if_neg hw]
    obtain ⟨k1, k2, k3, k4⟩ := run_eq hn b1 b2 (mrd m) h S.1 S.2.1 S.2.2.1
    refine ⟨rfl, fun _ => ⟨by rw [k1], ?_⟩, fun z => absurd rfl z⟩
    exact sim_keepG S (n2 := 0) k2 k3 k4 rfl rfl (Nat.zero_le _) rfl (fun k hk => absurd hk (Nat.not_lt_zero k)) (fun k hk => absurd hk (Nat.not_lt_zero k))
  · have hw : (rFin (mbf m) (cn c) (mrd m)).2.1 = 0 := Classical.not_not.mp (fun z => h (g1.mp z))
    rw [if_neg h, if_pos hw]
    exact ⟨rfl, fun z => absurd z (by decide), fun _ => S⟩
theorem q_undo {c : CSt} {m : MSt} (S : Sim c m) : mth (MundoS (csz c) m) = nI (if csz c = 0 then 1 else 0) ∧ ((if csz c = 0 then 1 else 0) = 0 → nI (csz c - 1) = MundoR (csz c) ∧ Sim (chs c ((cod c + (csz c - 1)) % 6), cod c, csz c - 1, chs c, csg c, cn c) (MundoS (csz c) m)) ∧ (¬ (if csz c = 0 then 1 else 0) = 0 → Sim c (MundoS (csz c) m)) := by
  obtain ⟨s1, s2, s3, s4, s5, s6, s7, s8, s9, s10, s11, s12⟩ := id S
  unfold MundoS MundoR
  by_cases h : csz c = 0
  · rw [if_pos h, if_pos h, if_pos h]
    exact ⟨rfl, fun z => absurd z (by decide), fun _ => S⟩
  · rw [if_neg h, if_neg h, if_neg h]
    obtain ⟨g1, g2⟩ := s8 (csz c - 1) (by omega)
    refine ⟨rfl, fun _ => ⟨rfl, ?_, g2, s7 _, s4, ?_, rfl, s7, fun i hi => ?_, s9, s10, s11, s12⟩, fun z => absurd rfl z⟩
    · exact rel_congr g1 (fun x hx => cpN_in hx)
    · show csz c - 1 ≤ 6; omega
    · have hi : i < csz c - 1 := hi
      exact s8 i (by omega)
theorem q_digest {c : CSt} {m : MSt} (S : Sim c m) : Udig (ch c) = Mdig (ms m) ∧ Sim c (MdigS m) := ⟨(dig_eq S.1 S.2.1).symm, S⟩
theorem q_chief {c : CSt} {m : MSt} (S : Sim c m) : Hchief (ch c) = Mchief (ms m) := (chief_eq S.1).symm
theorem q_entries {c : CSt} {m : MSt} (S : Sim c m) : nI (Hent (hR (ch c)) 48) = Ment (ms m) 48 := (ent_eq S.1 48 (Nat.le_refl 48)).symm
theorem q_minutes {c : CSt} {m : MSt} (S : Sim c m) : hmn (ch c) = ms m 5 := S.1.2.2.2.2.2.2.2.2.1.symm
theorem q_sinceQuestion {c : CSt} {m : MSt} (S : Sim c m) : hsn (ch c) = ms m 6 := S.1.2.2.2.2.2.2.2.2.2.1.symm
theorem q_minutesToQuestion {c : CSt} {m : MSt} (S : Sim c m) : HasksIn (ch c) = MasksIn (ms m) := (asks_eq S.1 S.2.1).symm
theorem q_usefulShare {c : CSt} {m : MSt} (S : Sim c m) : dSh (hC (ch c) 0) (hC (ch c) 1) = dSh (ms m 7) (ms m 8) := by
  have e0 : ms m 7 = hC (ch c) 0 := S.1.2.2.1 0 (by decide)
  have e1 : ms m 8 = hC (ch c) 1 := S.1.2.2.1 1 (by decide)
  rw [e0, e1]
end
