/-! states, answers and helpers that stand on the kit alone -/
abbrev HSt : Type := (Nat → Int32) × (Nat → Int32) × (Nat → Int32) × Int32 × Int32 × Int32 × Int32 × Int32 × Int32 × Int32 × Int32 × Int32
abbrev hL (x : HSt) : Nat → Int32 := x.1
abbrev hR (x : HSt) : Nat → Int32 := x.2.1
abbrev hC (x : HSt) : Nat → Int32 := x.2.2.1
abbrev hop (x : HSt) : Int32 := x.2.2.2.1
abbrev hqk (x : HSt) : Int32 := x.2.2.2.2.1
abbrev hf1 (x : HSt) : Int32 := x.2.2.2.2.2.1
abbrev hf2 (x : HSt) : Int32 := x.2.2.2.2.2.2.1
abbrev hfd (x : HSt) : Int32 := x.2.2.2.2.2.2.2.1
abbrev hpt (x : HSt) : Int32 := x.2.2.2.2.2.2.2.2.1
abbrev has (x : HSt) : Int32 := x.2.2.2.2.2.2.2.2.2.1
abbrev hmn (x : HSt) : Int32 := x.2.2.2.2.2.2.2.2.2.2.1
abbrev hsn (x : HSt) : Int32 := x.2.2.2.2.2.2.2.2.2.2.2
abbrev sHL (x : HSt) (v : Nat → Int32) : HSt := (v, x.2)
abbrev sHR (x : HSt) (v : Nat → Int32) : HSt := (x.1, v, x.2.2)
abbrev sHC (x : HSt) (v : Nat → Int32) : HSt := (x.1, x.2.1, v, x.2.2.2)
abbrev sHop (x : HSt) (v : Int32) : HSt := (x.1, x.2.1, x.2.2.1, v, x.2.2.2.2)
abbrev sHqk (x : HSt) (v : Int32) : HSt := (x.1, x.2.1, x.2.2.1, x.2.2.2.1, v, x.2.2.2.2.2)
abbrev sHf1 (x : HSt) (v : Int32) : HSt := (x.1, x.2.1, x.2.2.1, x.2.2.2.1, x.2.2.2.2.1, v, x.2.2.2.2.2.2)
abbrev sHf2 (x : HSt) (v : Int32) : HSt := (x.1, x.2.1, x.2.2.1, x.2.2.2.1, x.2.2.2.2.1, x.2.2.2.2.2.1, v, x.2.2.2.2.2.2.2)
abbrev sHfd (x : HSt) (v : Int32) : HSt := (x.1, x.2.1, x.2.2.1, x.2.2.2.1, x.2.2.2.2.1, x.2.2.2.2.2.1, x.2.2.2.2.2.2.1, v, x.2.2.2.2.2.2.2.2)
abbrev sHpt (x : HSt) (v : Int32) : HSt := (x.1, x.2.1, x.2.2.1, x.2.2.2.1, x.2.2.2.2.1, x.2.2.2.2.2.1, x.2.2.2.2.2.2.1, x.2.2.2.2.2.2.2.1, v, x.2.2.2.2.2.2.2.2.2)
abbrev sHas (x : HSt) (v : Int32) : HSt := (x.1, x.2.1, x.2.2.1, x.2.2.2.1, x.2.2.2.2.1, x.2.2.2.2.2.1, x.2.2.2.2.2.2.1, x.2.2.2.2.2.2.2.1, x.2.2.2.2.2.2.2.2.1, v, x.2.2.2.2.2.2.2.2.2.2)
abbrev sHmn (x : HSt) (v : Int32) : HSt := (x.1, x.2.1, x.2.2.1, x.2.2.2.1, x.2.2.2.2.1, x.2.2.2.2.2.1, x.2.2.2.2.2.2.1, x.2.2.2.2.2.2.2.1, x.2.2.2.2.2.2.2.2.1, x.2.2.2.2.2.2.2.2.2.1, v, x.2.2.2.2.2.2.2.2.2.2.2)
abbrev sHsn (x : HSt) (v : Int32) : HSt := (x.1, x.2.1, x.2.2.1, x.2.2.2.1, x.2.2.2.2.1, x.2.2.2.2.2.1, x.2.2.2.2.2.2.1, x.2.2.2.2.2.2.2.1, x.2.2.2.2.2.2.2.2.1, x.2.2.2.2.2.2.2.2.2.1, x.2.2.2.2.2.2.2.2.2.2.1, v)
abbrev MSt : Type := Int32 × (Nat → Int32) × (Nat → Int32) × (Nat → Int32) × Int32 × (Nat → Int32) × Int32 × Int32 × Int32 × (Nat → Int32) × Int32 × Int64
abbrev mth (x : MSt) : Int32 := x.1
abbrev ms (x : MSt) : Nat → Int32 := x.2.1
abbrev mas (x : MSt) : Nat → Int32 := x.2.2.1
abbrev msv (x : MSt) : Nat → Int32 := x.2.2.2.1
abbrev msm (x : MSt) : Int32 := x.2.2.2.2.1
abbrev mbf (x : MSt) : Nat → Int32 := x.2.2.2.2.2.1
abbrev mln (x : MSt) : Int32 := x.2.2.2.2.2.2.1
abbrev mat (x : MSt) : Int32 := x.2.2.2.2.2.2.2.1
abbrev miw (x : MSt) : Int32 := x.2.2.2.2.2.2.2.2.1
abbrev mrd (x : MSt) : Nat → Int32 := x.2.2.2.2.2.2.2.2.2.1
abbrev mrm (x : MSt) : Int32 := x.2.2.2.2.2.2.2.2.2.2.1
abbrev mhs (x : MSt) : Int64 := x.2.2.2.2.2.2.2.2.2.2.2
abbrev sMth (x : MSt) (v : Int32) : MSt := (v, x.2)
abbrev sMs (x : MSt) (v : Nat → Int32) : MSt := (x.1, v, x.2.2)
abbrev sMas (x : MSt) (v : Nat → Int32) : MSt := (x.1, x.2.1, v, x.2.2.2)
abbrev sMsv (x : MSt) (v : Nat → Int32) : MSt := (x.1, x.2.1, x.2.2.1, v, x.2.2.2.2)
abbrev sMsm (x : MSt) (v : Int32) : MSt := (x.1, x.2.1, x.2.2.1, x.2.2.2.1, v, x.2.2.2.2.2)
abbrev sMbf (x : MSt) (v : Nat → Int32) : MSt := (x.1, x.2.1, x.2.2.1, x.2.2.2.1, x.2.2.2.2.1, v, x.2.2.2.2.2.2)
abbrev sMln (x : MSt) (v : Int32) : MSt := (x.1, x.2.1, x.2.2.1, x.2.2.2.1, x.2.2.2.2.1, x.2.2.2.2.2.1, v, x.2.2.2.2.2.2.2)
abbrev sMat (x : MSt) (v : Int32) : MSt := (x.1, x.2.1, x.2.2.1, x.2.2.2.1, x.2.2.2.2.1, x.2.2.2.2.2.1, x.2.2.2.2.2.2.1, v, x.2.2.2.2.2.2.2.2)
abbrev sMiw (x : MSt) (v : Int32) : MSt := (x.1, x.2.1, x.2.2.1, x.2.2.2.1, x.2.2.2.2.1, x.2.2.2.2.2.1, x.2.2.2.2.2.2.1, x.2.2.2.2.2.2.2.1, v, x.2.2.2.2.2.2.2.2.2)
abbrev sMrd (x : MSt) (v : Nat → Int32) : MSt := (x.1, x.2.1, x.2.2.1, x.2.2.2.1, x.2.2.2.2.1, x.2.2.2.2.2.1, x.2.2.2.2.2.2.1, x.2.2.2.2.2.2.2.1, x.2.2.2.2.2.2.2.2.1, v, x.2.2.2.2.2.2.2.2.2.2)
abbrev sMrm (x : MSt) (v : Int32) : MSt := (x.1, x.2.1, x.2.2.1, x.2.2.2.1, x.2.2.2.2.1, x.2.2.2.2.2.1, x.2.2.2.2.2.2.1, x.2.2.2.2.2.2.2.1, x.2.2.2.2.2.2.2.2.1, x.2.2.2.2.2.2.2.2.2.1, v, x.2.2.2.2.2.2.2.2.2.2.2)
abbrev sMhs (x : MSt) (v : Int64) : MSt := (x.1, x.2.1, x.2.2.1, x.2.2.2.1, x.2.2.2.2.1, x.2.2.2.2.2.1, x.2.2.2.2.2.2.1, x.2.2.2.2.2.2.2.1, x.2.2.2.2.2.2.2.2.1, x.2.2.2.2.2.2.2.2.2.1, x.2.2.2.2.2.2.2.2.2.2.1, v)
abbrev TSt : Type := (Nat → Int32) × Int32
abbrev tsg (x : TSt) : Nat → Int32 := x.1
abbrev tln (x : TSt) : Int32 := x.2
abbrev sTsg (x : TSt) (v : Nat → Int32) : TSt := (v, x.2)
abbrev sTln (x : TSt) (v : Int32) : TSt := (x.1, v)
abbrev KSt : Type := Int32 × Int32
abbrev kod (x : KSt) : Int32 := x.1
abbrev ksz (x : KSt) : Int32 := x.2
abbrev sKod (x : KSt) (v : Int32) : KSt := (v, x.2)
abbrev sKsz (x : KSt) (v : Int32) : KSt := (x.1, v)
theorem k_inc1 (a : Nat) : nI a + Int32.ofInt 1 = nI (a + 1) := by rw [show Int32.ofInt 1 = nI 1 from by decide]; exact nI_add a 1
theorem k_inc4 (a : Nat) : nI a + Int32.ofInt 4 = nI (a + 4) := by rw [show Int32.ofInt 4 = nI 4 from by decide]; exact nI_add a 4
theorem k_inci1 (x : Int32) : x + Int32.ofInt 1 = x + nI 1 := by rw [show Int32.ofInt 1 = nI 1 from by decide]
/-- an answer 0 or 1 -/
def bI (P : Prop) [Decidable P] : Int32 := if P then nI 1 else nI 0
theorem bI_t {P : Prop} [Decidable P] (h : P) : bI P = nI 1 := if_pos h
theorem bI_f {P : Prop} [Decidable P] (h : ¬ P) : bI P = nI 0 := if_neg h
theorem bI_ne {P : Prop} [Decidable P] : ¬ bI P = 0 ↔ P := by
  by_cases h : P
  · rw [bI_t h]; exact ⟨fun _ => h, fun _ => by decide⟩
  · rw [bI_f h]; exact ⟨fun z => absurd (by decide) z, fun z => absurd z h⟩
theorem bI_eq {P : Prop} [Decidable P] : bI P = 0 ↔ ¬ P := by
  by_cases h : P
  · rw [bI_t h]; exact ⟨fun z => absurd z (by decide), fun z => absurd h z⟩
  · rw [bI_f h]; exact ⟨fun _ => h, fun _ => by decide⟩
theorem bI_nar {P : Prop} [Decidable P] : narrow .boolean (.int (bI P)) = .int (bI P) := by
  by_cases h : P
  · rw [bI_t h]; rfl
  · rw [bI_f h]; rfl
theorem bI_fits {P : Prop} [Decidable P] : fits .boolean (.int (bI P)) = true := by
  by_cases h : P
  · rw [bI_t h]; rfl
  · rw [bI_f h]; rfl
abbrev Hcnt (c : Nat) (h : HSt) : HSt := sHC h (upd (hC h) c (hC h c + nI 1))
def Hcall (k : Nat) (h : HSt) : HSt := sHC (sHR h (upd (hR h) k (hfd h))) (upd (hC h) 5 (hC h 5 + nI 1))
def Hhear (k : Nat) (h : HSt) : HSt := if ¬ hL h k ≤ 0 then Hcall k h else h
def Hseat (k : Nat) (h : HSt) : HSt := Hhear k (sHL h (upd (hL h) k (hL h k + nI 1)))
def Hask (k : Nat) (h : HSt) : HSt := if ¬ hL h k ≤ 0 then Hcall k (Hcnt 4 h) else Hcnt 4 h
theorem Hask_hear (k : Nat) (h : HSt) : Hask k h = Hhear k (Hcnt 4 h) := rfl
def Hfare2 (k : Nat) (h : HSt) : HSt := if hR h k ≤ hpt h then h else Hask k (sHR h (upd (hR h) k (hpt h)))
def Hfare (k : Nat) (h : HSt) : HSt := if hqk h = 0 then Hfare2 k h else if ¬ hL h k ≤ 0 then Hfare2 k h else sHR h (upd (hR h) k (nI 0))
def Hunseat (k b : Nat) (h : HSt) : HSt := if b = 0 then sHL h (upd (hL h) k (hL h k - nI 1)) else Hfare k (sHL h (upd (hL h) k (hL h k - nI 1)))
def HaskN (h : HSt) : Nat → HSt
  | 0 => h
  | n + 1 => if ¬ hL (HaskN h n) n ≤ 0 then Hcall n (HaskN h n) else HaskN h n
def HaskAll (h : HSt) : HSt := HaskN (Hcnt 3 h) 48
abbrev Hopen (h : HSt) (r : Nat) : Prop := (hop h >>> (nI r &&& 31)) &&& nI 1 = nI 1
def Hturn (r : Nat) (h : HSt) : HSt := sHop h (hop h ^^^ (nI 1 <<< (nI r &&& 31)))
def Hchief (h : HSt) : Int32 := if hf2 h = 0 then (if hf1 h = 0 then nI 0 else nI 1) else nI 2
def Hent (f : Nat → Int32) : Nat → Nat
  | 0 => 0
  | n + 1 => if f n ≤ 0 then Hent f n else Hent f n + 1
def Hget (h : HSt) (c : Nat) : Nat → Int32
  | 0 => hop h
  | n + 1 => if hR h (n * 6 + c) ≤ 0 then Hget h c n else Hget h c n ||| (nI 1 <<< (nI n &&& 31))
def Hwant (h : HSt) (c : Nat) : Nat → Int32
  | 0 => nI 0
  | n + 1 => if ¬ hL h (n * 6 + c) ≤ 0 then Hwant h c n ||| (nI 1 <<< (nI n &&& 31)) else Hwant h c n
def HfadeN (R : Nat → Int32) : Nat → Nat → Int32
  | 0 => R
  | n + 1 => if HfadeN R n n ≤ 0 then HfadeN R n else upd (HfadeN R n) n (HfadeN R n n - nI 1)
def Hfade (h : HSt) : HSt := sHR h (HfadeN (hR h) 48)
def Htbq (h : HSt) : Int32 := if Hchief h = 0 then has h else nI 2 * has h
def Htk (h : HSt) : HSt := sHsn (Hfade (sHmn h (hmn h + nI 1))) (hsn (Hfade (sHmn h (hmn h + nI 1))) + nI 1)
theorem hsn_sHsn (h : HSt) (v : Int32) : hsn (sHsn h v) = v := rfl
def Hmin (h : HSt) : HSt := if hsn (Htk h) < Htbq (Htk h) then Htk h else HaskAll (sHsn (Htk h) (nI 0))
def HpassN (h : HSt) : Nat → HSt
  | 0 => h
  | n + 1 => Hmin (HpassN h n)
def HpassQ (h : HSt) : Nat → Nat
  | 0 => 0
  | n + 1 => if hsn (Htk (HpassN h n)) < Htbq (Htk (HpassN h n)) then HpassQ h n else HpassQ h n + 1
/-- Integer.bitCount, step by step -/
def bc1 (x : Int32) : Int32 := x - ((x.toUInt32 >>> ((nI 1).toUInt32 &&& Int32.toUInt32 31)).toInt32 &&& 1431655765)
def bc2 (x : Int32) : Int32 := (x &&& 858993459) + ((x.toUInt32 >>> ((nI 2).toUInt32 &&& Int32.toUInt32 31)).toInt32 &&& 858993459)
def bc3 (x : Int32) : Int32 := (x + (x.toUInt32 >>> ((nI 4).toUInt32 &&& Int32.toUInt32 31)).toInt32) &&& 252645135
def bc4 (x : Int32) : Int32 := x + (x.toUInt32 >>> ((nI 8).toUInt32 &&& Int32.toUInt32 31)).toInt32
def bc5 (x : Int32) : Int32 := x + (x.toUInt32 >>> ((nI 16).toUInt32 &&& Int32.toUInt32 31)).toInt32
def bc (x : Int32) : Int32 := bc5 (bc4 (bc3 (bc2 (bc1 x)))) &&& nI 63
def HperfC (C : Nat → Int32) (g w : Int32) : Nat → Int32 :=
  upd (upd (upd C 0 (C 0 + bc (g &&& w))) 1 ((upd C 0 (C 0 + bc (g &&& w))) 1 + bc (g &&& (w ^^^ (-1))))) 2 ((upd (upd C 0 (C 0 + bc (g &&& w))) 1 ((upd C 0 (C 0 + bc (g &&& w))) 1 + bc (g &&& (w ^^^ (-1))))) 2 + bc (w &&& (g ^^^ (-1))))
def Hperf (c : Nat) (h : HSt) : HSt := sHC h (HperfC (hC h) (Hget h c 8) (Hwant h c 8))
def HasksIn (h : HSt) : Int32 := if nI 1 < Htbq h - hsn h then Htbq h - hsn h else nI 1
def HfadesIn (k : Nat) (h : HSt) : Int32 := if ¬ hL h k ≤ 0 then (if HasksIn h ≤ hR h k then (if Htbq h ≤ hfd h then (-1) else HasksIn h + hfd h) else hR h k) else hR h k
def Hdist (h : HSt) (c sp : Nat) : Nat → Nat
  | 0 => 0
  | n + 1 => if ¬ hL h (n * 6 + c) ≤ 0 then Hdist h c sp n else if Hopen h n then Hdist h c sp n + 1 else if hR h (n * 6 + c) ≤ nI sp then Hdist h c sp n else Hdist h c sp n + 1
def Tok (sg : Nat → Int32) (n : Nat) : Prop := ∀ k, k < n → ∃ q, q < 65536 ∧ sg k = nI q
theorem Tok_cl {sg : Nat → Int32} {n k : Nat} (h : Tok sg n) (hk : k < n) : nI (sg k).toNatClampNeg = sg k ∧ (sg k).toNatClampNeg < 65536 := by
  obtain ⟨q, hq, e⟩ := h k hk
  rw [e, nI_clamp (by omega)]
  exact ⟨rfl, hq⟩
/-- the sign at k: behind the last one an end -/
def Tq (sg : Nat → Int32) (n k : Nat) : Nat := if n ≤ k then 59 else (sg k).toNatClampNeg
theorem Tq_lt {sg : Nat → Int32} {n : Nat} (h : Tok sg n) (k : Nat) : Tq sg n k < 65536 := by
  unfold Tq
  by_cases c : n ≤ k
  · rw [if_pos c]; decide
  · rw [if_neg c]; exact (Tok_cl h (by omega)).2
theorem Tq_lt31 {sg : Nat → Int32} {n : Nat} (h : Tok sg n) (k : Nat) : Tq sg n k < 2 ^ 31 := Nat.lt_of_lt_of_le (Tq_lt h k) (by decide)
theorem Tq_nar (q : Nat) (hq : q < 65536) : narrow .char (.int (nI q)) = .int (nI q) := (pk_charN hq).1
theorem Tq_vnar (q : Nat) (hq : q < 65536) : vp_nar .char (nI q) = nI q := by unfold vp_nar; rw [(pk_charN hq).1]
def SEv (q : Nat) : Nat := if ¬ q = 59 then 8 else 0
def SDig (q : Nat) : Nat := if 49 ≤ q ∧ q ≤ 53 then 5 else if ¬ q = 54 then (if 55 ≤ q ∧ q ≤ 57 then 7 else 8) else 6
def SLet (q : Nat) : Nat := if q = 99 ∨ q = 108 ∨ q = 115 then 1 else if q = 112 then 3 else if q = 116 then 4 else if q = 111 then 2 else 8
def Sta (s q : Nat) : Nat :=
  if s = 0 then SLet q else if s = 1 then (if 48 ≤ q ∧ q ≤ 55 then 3 else 8) else if s = 2 then (if 48 ≤ q ∧ q ≤ 55 then 7 else 8) else if s = 3 then (if 48 ≤ q ∧ q ≤ 53 then 7 else 8)
  else if s = 4 then SDig q else if s = 5 then (if 48 ≤ q ∧ q ≤ 57 then 7 else SEv q) else if s = 6 then (if ¬ q = 48 then SEv q else 7) else if s = 7 then SEv q else 8
theorem SEv_le (q : Nat) : SEv q ≤ 8 := by unfold SEv; split <;> omega
theorem SDig_le (q : Nat) : SDig q ≤ 8 := by unfold SDig; (repeat' split) <;> omega
theorem SLet_le (q : Nat) : SLet q ≤ 8 := by unfold SLet; (repeat' split) <;> omega
theorem Sta_le (s q : Nat) : Sta s q ≤ 8 := by
  have h1 := SEv_le q
  have h2 := SDig_le q
  have h3 := SLet_le q
  unfold Sta
  repeat' split
  all_goals omega
/-- the reader's state ahead of the sign i -/
def Sst (sg : Nat → Int32) (n : Nat) : Nat → Nat
  | 0 => 0
  | i + 1 => Sta (Sst sg n i) (Tq sg n i)
theorem Sst_le (sg : Nat → Int32) (n i : Nat) : Sst sg n i ≤ 8 := by cases i with
  | zero => exact Nat.zero_le _
  | succ i => exact Sta_le _ _
theorem Sst_lt (sg : Nat → Int32) (n i : Nat) : Sst sg n i < 2 ^ 31 := Nat.lt_of_le_of_lt (Sst_le sg n i) (by decide)
/-- the first wrong sign from i on, m signs ahead -/
def Tfw (sg : Nat → Int32) (n : Nat) : Nat → Nat → Nat
  | i, 0 => i
  | i, m + 1 => if ¬ Sst sg n (i + 1) = 8 then Tfw sg n (i + 1) m else i
theorem Tfw_go {sg : Nat → Int32} {n i : Nat} (hi : i < n) : Tfw sg n i (n - i) = if ¬ Sst sg n (i + 1) = 8 then Tfw sg n (i + 1) (n - (i + 1)) else i := by
  rw [show n - i = (n - (i + 1)) + 1 by omega]; rfl
def Tnum (sg : Nat → Int32) (n k : Nat) : Int32 := if ¬ Tq sg n (k + 1) = 59 then nI 10 * (nI (Tq sg n k) - nI 48) + (nI (Tq sg n (k + 1)) - nI 48) else nI (Tq sg n k) - nI 48
def Hbo (h : HSt) : Prop := (hqk h = nI 0 ∨ hqk h = nI 1) ∧ (hf1 h = nI 0 ∨ hf1 h = nI 1) ∧ (hf2 h = nI 0 ∨ hf2 h = nI 1)
theorem bo_nar {x : Int32} (h : x = nI 0 ∨ x = nI 1) : narrow .boolean (.int x) = .int x := by rcases h with rfl | rfl <;> rfl
theorem bo_fits {x : Int32} (h : x = nI 0 ∨ x = nI 1) : fits .boolean (.int x) = true := by rcases h with rfl | rfl <;> rfl
theorem k_b2 {b : Nat} (h : b < 2) : nI b = nI 0 ∨ nI b = nI 1 := by rcases (by omega : b = 0 ∨ b = 1) with rfl | rfl <;> simp
theorem k_D_set {A : Nat → Prop} {p a : Nat} {ws : va_W} {e0 e : va_E} (hD : va_D A (ws.set p (a, e0))) (hp : p < ws.length) : va_D A (ws.set p (a, e)) := by
  have h := hD.set (p := p) (a := a) (e0 := e0) (e := e) (by rw [List.getElem?_set_self hp])
  rw [List.set_set] at h
  exact h
theorem pm_swap {α : Type} {a b c : List α} : (a ++ (b ++ c)).Perm (b ++ (a ++ c)) := by
  classical exact List.perm_iff_count.mpr (fun x => by simp only [List.count_append]; omega)
theorem pm_ring {α : Type} {k hs s d x : List α} (h : hs.Perm (d ++ x)) : (k ++ (hs ++ s)).Perm ((d ++ s) ++ (k ++ x)) := by
  classical exact List.perm_iff_count.mpr (fun y => by have z := h.count_eq y; simp only [List.count_append] at z ⊢; omega)
theorem pm_ring2 {α : Type} {k hs s d x : List α} (h : hs.Perm (d ++ x)) : (k ++ (hs ++ s)).Perm ((s ++ d) ++ (k ++ x)) := by
  classical exact List.perm_iff_count.mpr (fun y => by have z := h.count_eq y; simp only [List.count_append] at z ⊢; omega)
def kOd (od sz : Nat) : Nat := if ¬ sz = 6 then od else (od + 1) % 6
def kSz (sz : Nat) : Nat := if ¬ sz = 6 then sz + 1 else 5 + 1
def kJ (od sz : Nat) : Nat := if ¬ sz = 6 then (od + sz) % 6 else ((od + 1) % 6 + 5) % 6
theorem kOd_lt {od sz : Nat} (h : od < 6) : kOd od sz < 6 := by unfold kOd; split <;> omega
theorem kSz_le {sz : Nat} (h : sz ≤ 6) : kSz sz ≤ 6 := by unfold kSz; split <;> omega
theorem k_bs {hs : Nat → HSt} {j0 : Nat} {h : HSt} (h1 : ∀ j, Hbo (hs j)) (h2 : Hbo h) : ∀ j, Hbo (va_up hs j0 h j) := fun j => by
  unfold va_up
  split
  · exact h2
  · exact h1 j
def ckR (x : Int32) : Nat := if x < 0 then 1 else if x < nI 8 then 0 else 1
def ckC (x : Int32) : Nat := if x < 0 then 1 else if x < nI 6 then 0 else 1
def ckM (x : Int32) : Nat := if x < nI 1 then 1 else if x ≤ nI 60 then 0 else 1
theorem ck_nat {x : Int32} {n : Nat} (hn : n < 2 ^ 31) (h : ¬ x < 0) (h2 : x < nI n) : ∃ k : Nat, k < n ∧ x = nI k := by
  obtain ⟨j, hj, rfl⟩ := nI_of h
  exact ⟨j, (nI_ltI hj hn).mp h2, rfl⟩
theorem ckR_ok {x : Int32} (h : ckR x = 0) : ∃ k : Nat, k < 8 ∧ x = nI k := by
  unfold ckR at h
  by_cases h1 : x < 0
  · rw [if_pos h1] at h; cases h
  · rw [if_neg h1] at h
    by_cases h2 : x < nI 8
    · exact ck_nat (by decide) h1 h2
    · rw [if_neg h2] at h; cases h
theorem ckC_ok {x : Int32} (h : ckC x = 0) : ∃ k : Nat, k < 6 ∧ x = nI k := by
  unfold ckC at h
  by_cases h1 : x < 0
  · rw [if_pos h1] at h; cases h
  · rw [if_neg h1] at h
    by_cases h2 : x < nI 6
    · exact ck_nat (by decide) h1 h2
    · rw [if_neg h2] at h; cases h
theorem ckM_ok {x : Int32} (h : ckM x = 0) : ∃ k : Nat, (k ≤ 60 ∧ 1 ≤ k) ∧ x = nI k := by
  unfold ckM at h
  by_cases h1 : x < nI 1
  · rw [if_pos h1] at h; cases h
  · rw [if_neg h1] at h
    by_cases h2 : x ≤ nI 60
    · have h0 : ¬ x < 0 := fun z => h1 (Int32.lt_of_lt_of_le z (nI_pos' (by decide)))
      obtain ⟨j, hj, rfl⟩ := nI_of h0
      refine ⟨j, ⟨(nI_leI hj (by decide)).mp h2, ?_⟩, rfl⟩
      exact Nat.le_of_not_lt fun z => h1 ((nI_ltI hj (by decide)).mpr z)
    · rw [if_neg h2] at h; cases h
theorem ckR_n1 {x : Int32} (c : x < 0) : nI 0 = bI (ckR x = 0) := (bI_f (by unfold ckR; rw [if_pos c]; decide)).symm
theorem ckR_n2 {x : Int32} (c : ¬ x < 0) (d : nI 8 ≤ x) : nI 0 = bI (ckR x = 0) := (bI_f (by unfold ckR; rw [if_neg c, if_neg (Int32.not_lt.mpr d)]; decide)).symm
theorem ckR_y {x : Int32} (c : ¬ x < 0) (d : ¬ nI 8 ≤ x) : nI 1 = bI (ckR x = 0) := (bI_t (by unfold ckR; rw [if_neg c, if_pos (Int32.not_le.mp d)])).symm
theorem ckR_1 {x : Int32} (c : ¬ ckR x = 0) : ckR x = 1 := by
  unfold ckR at c ⊢
  by_cases h1 : x < 0
  · rw [if_pos h1]
  · rw [if_neg h1] at c ⊢
    by_cases h2 : x < nI 8
    · rw [if_pos h2] at c; exact absurd rfl c
    · rw [if_neg h2]
theorem ckR_in {k : Nat} (h : k < 8) : ckR (nI k) = 0 := by
  unfold ckR
  rw [if_neg (nI_pos (by omega)), if_pos ((nI_ltI (by omega) (by decide)).mpr h)]
theorem ckC_n1 {x : Int32} (c : x < 0) : nI 0 = bI (ckC x = 0) := (bI_f (by unfold ckC; rw [if_pos c]; decide)).symm
theorem ckC_n2 {x : Int32} (c : ¬ x < 0) (d : nI 6 ≤ x) : nI 0 = bI (ckC x = 0) := (bI_f (by unfold ckC; rw [if_neg c, if_neg (Int32.not_lt.mpr d)]; decide)).symm
theorem ckC_y {x : Int32} (c : ¬ x < 0) (d : ¬ nI 6 ≤ x) : nI 1 = bI (ckC x = 0) := (bI_t (by unfold ckC; rw [if_neg c, if_pos (Int32.not_le.mp d)])).symm
theorem ckC_1 {x : Int32} (c : ¬ ckC x = 0) : ckC x = 1 := by
  unfold ckC at c ⊢
  by_cases h1 : x < 0
  · rw [if_pos h1]
  · rw [if_neg h1] at c ⊢
    by_cases h2 : x < nI 6
    · rw [if_pos h2] at c; exact absurd rfl c
    · rw [if_neg h2]
theorem ckC_in {k : Nat} (h : k < 6) : ckC (nI k) = 0 := by
  unfold ckC
  rw [if_neg (nI_pos (by omega)), if_pos ((nI_ltI (by omega) (by decide)).mpr h)]
def pl (r c : Int32) : Nat := r.toNatClampNeg * 6 + c.toNatClampNeg
theorem pl_eq {row con : Int32} {r c : Nat} (hr : r < 8) (hc : c < 6) (h1 : row = nI r) (h2 : con = nI c) : pl row con = r * 6 + c := by
  unfold pl
  rw [h1, h2, nI_clamp (by omega), nI_clamp (by omega)]
theorem cl_eq {x : Int32} {n : Nat} (h : x = nI n) (hn : n < 2 ^ 31) : x.toNatClampNeg = n := by rw [h, nI_clamp hn]
def cdPair (row con : Int32) : Nat := if ckR row = 0 then (if ckC con = 0 then 0 else 1) else 1
def cdCome (h : HSt) (row con : Int32) : Nat := if ckR row = 0 then (if ckC con = 0 then (if ¬ nI 9 ≤ hL h (pl row con) then 0 else 2) else 1) else 1
def cdLeave (h : HSt) (row con : Int32) : Nat := if ckR row = 0 then (if ckC con = 0 then (if ¬ hL h (pl row con) ≤ 0 then 0 else 2) else 1) else 1
def cdTimes (a b c : Int32) : Nat := if a < nI 2 then 1 else if a ≤ nI 60 then (if b < nI 1 then 1 else if b ≤ nI 10 then (if c < nI 1 then 1 else if c ≤ nI 30 then 0 else 1) else 1) else 1
def cdPres (u : Int32) : Nat := if u = nI 1 then 0 else if u = nI 2 then 0 else 1
def cdCount (x : Int32) : Nat := if x < 0 then 1 else if x < nI 6 then 0 else 1
def cdDist (con mins : Int32) : Nat := if ckC con = 0 then (if ckM mins = 0 then 0 else 2) else 1
def cdApp (n : Nat) (x : Int32) : Nat := if x < nI 33 then 1 else if x ≤ nI 126 then (if n < 60 then 0 else 2) else 1
def UOpen (row : Int32) (b : Nat) (h : HSt) : HSt := if bI (Hopen h row.toNatClampNeg) = nI b then h else Hturn row.toNatClampNeg h
def UTimes (a b c : Int32) (h : HSt) : HSt := sHas (sHpt (sHfd h a) b) c
def UPres (u : Int32) (b : Nat) (h : HSt) : HSt := if ¬ u = nI 1 then sHf2 h (nI b) else sHf1 h (nI b)
def mixI (x : Int64) (v : Int32) : Int64 := 31 * x + v.toInt64
def DgC (f : Nat → Int32) (x : Int64) : Nat → Int64
  | 0 => x
  | n + 1 => mixI (DgC f x n) (f n)
def DgM (h : HSt) (x : Int64) : Nat → Int64
  | 0 => x
  | n + 1 => mixI (mixI (DgM h x n) (Hget h n 8)) (Hwant h n 8)
def DgK (h : HSt) (r : Nat) (x : Int64) : Nat → Int64
  | 0 => x
  | n + 1 => mixI (mixI (mixI (DgK h r x n) (hL h (r * 6 + n))) (hR h (r * 6 + n))) (HfadesIn (r * 6 + n) h)
def DgRow (h : HSt) (x : Int64) (r : Nat) : Int64 := DgK h r (mixI x (bI (Hopen h r))) 6
def DgR (h : HSt) (x : Int64) : Nat → Int64
  | 0 => x
  | n + 1 => DgRow h (DgR h x n) n
def Udig (h : HSt) : Int64 := DgR h (DgM h (DgC (hC h) (mixI (mixI (mixI (mixI (mixI 4701 (hmn h)) (hsn h)) (Hchief h)) (nI (Hent (hR h) 48))) (HasksIn h)) 6) 6) 8
/-- an event stands at k: its row, concert or number are there -/
def evA (sg : Nat → Int32) (n k : Nat) : Prop := (48 ≤ Tq sg n (k + 1) ∧ Tq sg n (k + 1) ≤ 55) ∧ 48 ≤ Tq sg n (k + 2) ∧ Tq sg n (k + 2) ≤ 53
def evOK (sg : Nat → Int32) (n k : Nat) : Prop :=
  (Tq sg n k = 99 ∧ evA sg n k) ∨ (Tq sg n k = 108 ∧ evA sg n k) ∨ (Tq sg n k = 115 ∧ evA sg n k) ∨ (Tq sg n k = 112 ∧ 48 ≤ Tq sg n (k + 1) ∧ Tq sg n (k + 1) ≤ 53)
  ∨ (Tq sg n k = 116 ∧ ∃ N : Nat, (N ≤ 60 ∧ 1 ≤ N) ∧ Tnum sg n (k + 1) = nI N) ∨ (Tq sg n k = 111 ∧ 48 ≤ Tq sg n (k + 1) ∧ Tq sg n (k + 1) ≤ 55)
abbrev dg (sg : Nat → Int32) (n k : Nat) : Nat := Tq sg n k - 48
abbrev pk2 (sg : Nat → Int32) (n k : Nat) : Nat := (Tq sg n (k + 1) - 48) * 6 + (Tq sg n (k + 2) - 48)
def Udo (sg : Nat → Int32) (n k : Nat) (h : HSt) : HSt :=
  if Tq sg n k = 99 then (if ¬ nI 9 ≤ hL h (pk2 sg n k) then Hseat (pk2 sg n k) h else h) else if Tq sg n k = 108 then (if ¬ hL h (pk2 sg n k) ≤ 0 then Hunseat (pk2 sg n k) 1 h else h) else if Tq sg n k = 115 then (if ¬ hL h (pk2 sg n k) ≤ 0 then Hunseat (pk2 sg n k) 0 h else h)
  else if Tq sg n k = 112 then Hperf (Tq sg n (k + 1) - 48) h else if Tq sg n k = 116 then HpassN h (Tnum sg n (k + 1)).toNatClampNeg else Hturn (Tq sg n (k + 1) - 48) h
/-- whether its method would not throw -/
abbrev UdoB (sg : Nat → Int32) (n k : Nat) (h : HSt) : Prop :=
  (Tq sg n k = 99 ∧ ¬ nI 9 ≤ hL h (pk2 sg n k)) ∨ ((Tq sg n k = 108 ∨ Tq sg n k = 115) ∧ ¬ hL h (pk2 sg n k) ≤ 0) ∨ (¬ Tq sg n k = 99 ∧ ¬ Tq sg n k = 108 ∧ ¬ Tq sg n k = 115)
theorem UdoB_c {sg : Nat → Int32} {n k : Nat} {h : HSt} (e : Tq sg n k = 99) : UdoB sg n k h ↔ ¬ nI 9 ≤ hL h (pk2 sg n k) := by simp [UdoB, e]
theorem UdoB_l {sg : Nat → Int32} {n k : Nat} {h : HSt} (e : Tq sg n k = 108) : UdoB sg n k h ↔ ¬ hL h (pk2 sg n k) ≤ 0 := by simp [UdoB, e]
theorem UdoB_s {sg : Nat → Int32} {n k : Nat} {h : HSt} (e : Tq sg n k = 115) : UdoB sg n k h ↔ ¬ hL h (pk2 sg n k) ≤ 0 := by simp [UdoB, e]
theorem UdoB_o {sg : Nat → Int32} {n k : Nat} {h : HSt} (h1 : ¬ Tq sg n k = 99) (h2 : ¬ Tq sg n k = 108) (h3 : ¬ Tq sg n k = 115) : UdoB sg n k h := Or.inr (Or.inr ⟨h1, h2, h3⟩)
theorem Udo_id {sg : Nat → Int32} {n k : Nat} {h : HSt} (c : ¬ UdoB sg n k h) : Udo sg n k h = h := by
  have c1 : ¬ (Tq sg n k = 99 ∧ ¬ nI 9 ≤ hL h (pk2 sg n k)) := fun z => c (Or.inl z)
  have c2 : ¬ ((Tq sg n k = 108 ∨ Tq sg n k = 115) ∧ ¬ hL h (pk2 sg n k) ≤ 0) := fun z => c (Or.inr (Or.inl z))
  have c3 : ¬ (¬ Tq sg n k = 99 ∧ ¬ Tq sg n k = 108 ∧ ¬ Tq sg n k = 115) := fun z => c (Or.inr (Or.inr z))
  unfold Udo
  by_cases e1 : Tq sg n k = 99
  · rw [if_pos e1]
    by_cases e : ¬ nI 9 ≤ hL h (pk2 sg n k)
    · exact absurd ⟨e1, e⟩ c1
    · rw [if_neg e]
  · rw [if_neg e1]
    by_cases e2 : Tq sg n k = 108
    · rw [if_pos e2]
      by_cases e : ¬ hL h (pk2 sg n k) ≤ 0
      · exact absurd ⟨Or.inl e2, e⟩ c2
      · rw [if_neg e]
    · rw [if_neg e2]
      by_cases e3 : Tq sg n k = 115
      · rw [if_pos e3]
        by_cases e : ¬ hL h (pk2 sg n k) ≤ 0
        · exact absurd ⟨Or.inr e3, e⟩ c2
        · rw [if_neg e]
      · exact absurd ⟨e1, e2, e3⟩ c3
theorem bI_iff {P Q : Prop} [Decidable P] [Decidable Q] (h : P ↔ Q) : bI P = bI Q := by
  unfold bI
  by_cases c : P
  · rw [if_pos c, if_pos (h.mp c)]
  · rw [if_neg c, if_neg (fun z => c (h.mpr z))]
def Hsm (h h' : HSt) : Prop := hqk h' = hqk h ∧ hf1 h' = hf1 h ∧ hf2 h' = hf2 h
theorem Hsm.rf (h : HSt) : Hsm h h := ⟨rfl, rfl, rfl⟩
theorem Hsm.tr {a b c : HSt} (h1 : Hsm a b) (h2 : Hsm b c) : Hsm a c := ⟨h2.1.trans h1.1, h2.2.1.trans h1.2.1, h2.2.2.trans h1.2.2⟩
theorem Hbo_sm {h h' : HSt} (hb : Hbo h) (e : Hsm h h') : Hbo h' := by
  obtain ⟨e1, e2, e3⟩ := e
  unfold Hbo
  rw [e1, e2, e3]; exact hb
theorem HL_sm (h : HSt) (F : Nat → Int32) : Hsm h (sHL h F) := ⟨rfl, rfl, rfl⟩
theorem HR_sm (h : HSt) (F : Nat → Int32) : Hsm h (sHR h F) := ⟨rfl, rfl, rfl⟩
theorem HC_sm (h : HSt) (F : Nat → Int32) : Hsm h (sHC h F) := ⟨rfl, rfl, rfl⟩
theorem Hop_sm (h : HSt) (v : Int32) : Hsm h (sHop h v) := ⟨rfl, rfl, rfl⟩
theorem Hmn_sm (h : HSt) (v : Int32) : Hsm h (sHmn h v) := ⟨rfl, rfl, rfl⟩
theorem Hsn_sm (h : HSt) (v : Int32) : Hsm h (sHsn h v) := ⟨rfl, rfl, rfl⟩
theorem Hcall_sm (k : Nat) (h : HSt) : Hsm h (Hcall k h) := (HR_sm h _).tr (HC_sm _ _)
theorem Hhear_sm (k : Nat) (h : HSt) : Hsm h (Hhear k h) := by
  unfold Hhear
  by_cases c : ¬ hL h k ≤ 0
  · rw [if_pos c]; exact Hcall_sm k h
  · rw [if_neg c]; exact Hsm.rf h
theorem Hseat_sm (k : Nat) (h : HSt) : Hsm h (Hseat k h) := (HL_sm h _).tr (Hhear_sm k _)
theorem Hask_sm (k : Nat) (h : HSt) : Hsm h (Hask k h) := by
  unfold Hask
  by_cases c : ¬ hL h k ≤ 0
  · rw [if_pos c]; exact (HC_sm h _).tr (Hcall_sm k _)
  · rw [if_neg c]; exact HC_sm h _
theorem Hfare2_sm (k : Nat) (h : HSt) : Hsm h (Hfare2 k h) := by
  unfold Hfare2
  by_cases c : hR h k ≤ hpt h
  · rw [if_pos c]; exact Hsm.rf h
  · rw [if_neg c]; exact (HR_sm h _).tr (Hask_sm k _)
theorem Hfare_sm (k : Nat) (h : HSt) : Hsm h (Hfare k h) := by
  unfold Hfare
  by_cases c : hqk h = 0
  · rw [if_pos c]; exact Hfare2_sm k h
  · rw [if_neg c]
    by_cases d : ¬ hL h k ≤ 0
    · rw [if_pos d]; exact Hfare2_sm k h
    · rw [if_neg d]; exact HR_sm h _
theorem Hunseat_sm (k b : Nat) (h : HSt) : Hsm h (Hunseat k b h) := by
  unfold Hunseat
  by_cases c : b = 0
  · rw [if_pos c]; exact HL_sm h _
  · rw [if_neg c]; exact (HL_sm h _).tr (Hfare_sm k _)
theorem HaskN_sm (h : HSt) (n : Nat) : Hsm h (HaskN h n) := by
  induction n with
  | zero => exact Hsm.rf h
  | succ n ih =>
    show Hsm h (if ¬ hL (HaskN h n) n ≤ 0 then Hcall n (HaskN h n) else HaskN h n)
    by_cases c : ¬ hL (HaskN h n) n ≤ 0
    · rw [if_pos c]; exact ih.tr (Hcall_sm n _)
    · rw [if_neg c]; exact ih
theorem HaskAll_sm (h : HSt) : Hsm h (HaskAll h) := (HC_sm h _).tr (HaskN_sm _ 48)
theorem Hfade_sm (h : HSt) : Hsm h (Hfade h) := HR_sm h _
theorem Htk_sm (h : HSt) : Hsm h (Htk h) := ((Hmn_sm h _).tr (Hfade_sm _)).tr (Hsn_sm _ _)
theorem Hmin_sm (h : HSt) : Hsm h (Hmin h) := by
  unfold Hmin
  by_cases c : hsn (Htk h) < Htbq (Htk h)
  · rw [if_pos c]; exact Htk_sm h
  · rw [if_neg c]; exact (Htk_sm h).tr ((Hsn_sm _ _).tr (HaskAll_sm _))
theorem HpassN_sm (h : HSt) (n : Nat) : Hsm h (HpassN h n) := by
  induction n with
  | zero => exact Hsm.rf h
  | succ n ih => exact ih.tr (Hmin_sm _)
theorem Hperf_sm (c : Nat) (h : HSt) : Hsm h (Hperf c h) := HC_sm h _
theorem Hturn_sm (r : Nat) (h : HSt) : Hsm h (Hturn r h) := Hop_sm h _
theorem Udo_sm (sg : Nat → Int32) (n k : Nat) (h : HSt) : Hsm h (Udo sg n k h) := by
  unfold Udo
  by_cases c1 : Tq sg n k = 99
  · rw [if_pos c1]
    by_cases d : ¬ nI 9 ≤ hL h (pk2 sg n k)
    · rw [if_pos d]; exact Hseat_sm _ h
    · rw [if_neg d]; exact Hsm.rf h
  rw [if_neg c1]
  by_cases c2 : Tq sg n k = 108
  · rw [if_pos c2]
    by_cases d : ¬ hL h (pk2 sg n k) ≤ 0
    · rw [if_pos d]; exact Hunseat_sm _ _ h
    · rw [if_neg d]; exact Hsm.rf h
  rw [if_neg c2]
  by_cases c3 : Tq sg n k = 115
  · rw [if_pos c3]
    by_cases d : ¬ hL h (pk2 sg n k) ≤ 0
    · rw [if_pos d]; exact Hunseat_sm _ _ h
    · rw [if_neg d]; exact Hsm.rf h
  rw [if_neg c3]
  by_cases c4 : Tq sg n k = 112
  · rw [if_pos c4]; exact Hperf_sm _ h
  rw [if_neg c4]
  by_cases c5 : Tq sg n k = 116
  · rw [if_pos c5]; exact HpassN_sm h _
  rw [if_neg c5]; exact Hturn_sm _ h
/-- from the sign i on, m signs ahead, d events done -/
def Ufin (sg : Nat → Int32) (n : Nat) : Nat → Nat → HSt → Nat → HSt × Nat
  | _, 0, h, d => (h, d)
  | i, m + 1, h, d => if i = 0 ∨ Tq sg n (i - 1) = 59 then (if UdoB sg n i h then Ufin sg n (i + 1) m (Udo sg n i h) (d + 1) else (h, d)) else Ufin sg n (i + 1) m h d
theorem Ufin_go {sg : Nat → Int32} {n i : Nat} (hi : i < n) (h : HSt) (d : Nat) : Ufin sg n i (n - i) h d = if i = 0 ∨ Tq sg n (i - 1) = 59 then (if UdoB sg n i h then Ufin sg n (i + 1) (n - (i + 1)) (Udo sg n i h) (d + 1) else (h, d)) else Ufin sg n (i + 1) (n - (i + 1)) h d := by
  rw [show n - i = (n - (i + 1)) + 1 by omega]; rfl
theorem Ufin_le {sg : Nat → Int32} {n : Nat} : ∀ (m i : Nat) (h : HSt) (d : Nat), (Ufin sg n i m h d).2 ≤ d + m
  | 0, _, _, _ => Nat.le_refl _
  | m + 1, i, h, d => by
    unfold Ufin
    split
    · split
      · exact Nat.le_trans (Ufin_le m _ _ _) (by omega)
      · exact Nat.le_add_right _ _
    · exact Nat.le_trans (Ufin_le m _ _ _) (by omega)
theorem k_i2c (q : Nat) (hq : q < 65536) : ((nI q).toUInt32 % 65536).toInt32 = nI q := by
  rw [pk_char, pk_tn (by omega), Nat.mod_eq_of_lt hq]
theorem app_nat {x : Int32} (h1 : ¬ x < nI 33) (h2 : x ≤ nI 126) : ∃ q : Nat, (q < 65536 ∧ 33 ≤ q ∧ q ≤ 126) ∧ x = nI q := by
  have h0 : ¬ x < 0 := fun z => h1 (Int32.lt_of_lt_of_le z (nI_pos' (by decide)))
  obtain ⟨j, hj, rfl⟩ := nI_of h0
  have h3 := (nI_leI hj (by decide)).mp h2
  exact ⟨j, ⟨by omega, Nat.le_of_not_lt fun z => h1 ((nI_ltI hj (by decide)).mpr z), h3⟩, rfl⟩
theorem Sta_8 (q : Nat) : Sta 8 q = 8 := rfl
theorem Sst_8 {sg : Nat → Int32} {n i : Nat} (h : Sst sg n i = 8) : ∀ m, Sst sg n (i + m) = 8
  | 0 => h
  | m + 1 => by show Sta (Sst sg n (i + m)) _ = 8; rw [Sst_8 h m]; rfl
theorem Sta_end {s : Nat} (hs : s ≤ 8) : Sta s 59 = 0 ∨ Sta s 59 = 8 := by
  rcases (by omega : s = 0 ∨ s = 1 ∨ s = 2 ∨ s = 3 ∨ s = 4 ∨ s = 5 ∨ s = 6 ∨ s = 7 ∨ s = 8) with rfl | rfl | rfl | rfl | rfl | rfl | rfl | rfl | rfl <;> decide
theorem Sta1 {q : Nat} (h : ¬ Sta 1 q = 8) : (48 ≤ q ∧ q ≤ 55) ∧ Sta 1 q = 3 := by
  have e : Sta 1 q = if 48 ≤ q ∧ q ≤ 55 then 3 else 8 := rfl
  rw [e] at h ⊢
  by_cases c : 48 ≤ q ∧ q ≤ 55
  · rw [if_pos c]; exact ⟨c, rfl⟩
  · rw [if_neg c] at h; exact absurd rfl h
theorem Sta2 {q : Nat} (h : ¬ Sta 2 q = 8) : (48 ≤ q ∧ q ≤ 55) ∧ Sta 2 q = 7 := by
  have e : Sta 2 q = if 48 ≤ q ∧ q ≤ 55 then 7 else 8 := rfl
  rw [e] at h ⊢
  by_cases c : 48 ≤ q ∧ q ≤ 55
  · rw [if_pos c]; exact ⟨c, rfl⟩
  · rw [if_neg c] at h; exact absurd rfl h
theorem Sta3 {q : Nat} (h : ¬ Sta 3 q = 8) : (48 ≤ q ∧ q ≤ 53) ∧ Sta 3 q = 7 := by
  have e : Sta 3 q = if 48 ≤ q ∧ q ≤ 53 then 7 else 8 := rfl
  rw [e] at h ⊢
  by_cases c : 48 ≤ q ∧ q ≤ 53
  · rw [if_pos c]; exact ⟨c, rfl⟩
  · rw [if_neg c] at h; exact absurd rfl h
theorem SDig_5 {q : Nat} (h : ¬ SDig q = 8) : (49 ≤ q ∧ q ≤ 53 ∧ SDig q = 5) ∨ (q = 54 ∧ SDig q = 6) ∨ (55 ≤ q ∧ q ≤ 57 ∧ SDig q = 7) := by
  unfold SDig at h ⊢
  by_cases c1 : 49 ≤ q ∧ q ≤ 53
  · rw [if_pos c1]; exact Or.inl ⟨c1.1, c1.2, rfl⟩
  · rw [if_neg c1] at h ⊢
    by_cases c2 : ¬ q = 54
    · rw [if_pos c2] at h ⊢
      by_cases c3 : 55 ≤ q ∧ q ≤ 57
      · rw [if_pos c3]; exact Or.inr (Or.inr ⟨c3.1, c3.2, rfl⟩)
      · rw [if_neg c3] at h; exact absurd rfl h
    · rw [if_neg c2]; exact Or.inr (Or.inl ⟨Nat.le_antisymm (by omega) (by omega), rfl⟩)
theorem SLet_5 {q : Nat} (h : ¬ SLet q = 8) : ((q = 99 ∨ q = 108 ∨ q = 115) ∧ SLet q = 1) ∨ (q = 112 ∧ SLet q = 3) ∨ (q = 116 ∧ SLet q = 4) ∨ (q = 111 ∧ SLet q = 2) := by
  by_cases c1 : q = 99 ∨ q = 108 ∨ q = 115
  · exact Or.inl ⟨c1, by unfold SLet; rw [if_pos c1]⟩
  · by_cases c2 : q = 112
    · subst c2; exact Or.inr (Or.inl ⟨rfl, rfl⟩)
    · by_cases c3 : q = 116
      · subst c3; exact Or.inr (Or.inr (Or.inl ⟨rfl, rfl⟩))
      · by_cases c4 : q = 111
        · subst c4; exact Or.inr (Or.inr (Or.inr ⟨rfl, rfl⟩))
        · exact absurd (by unfold SLet; rw [if_neg c1, if_neg c2, if_neg c3, if_neg c4]) h
abbrev Tdone (sg : Nat → Int32) (n : Nat) : Prop := Sst sg n n = 5 ∨ Sst sg n n = 6 ∨ Sst sg n n = 7
theorem Tdone_ne {sg : Nat → Int32} {n i : Nat} (h : Tdone sg n) (hi : i ≤ n) : ¬ Sst sg n i = 8 := fun z => by
  have e := Sst_8 z (n - i)
  rw [show i + (n - i) = n by omega] at e
  rw [Tdone, e] at h
  omega
theorem Tdone_start {sg : Nat → Int32} {n k : Nat} (h : Tdone sg n) (hk : k < n) (hs : k = 0 ∨ Tq sg n (k - 1) = 59) : Sst sg n k = 0 := by
  cases k with
  | zero => rfl
  | succ k =>
    have hq : Tq sg n k = 59 := by rcases hs with hs | hs; exact absurd hs (by omega); exact hs
    have e : Sst sg n (k + 1) = Sta (Sst sg n k) (Tq sg n k) := rfl
    have hne := Tdone_ne h (Nat.le_of_lt hk)
    rw [e, hq] at hne ⊢
    exact (Sta_end (Sst_le sg n k)).resolve_right hne
theorem Tev_ok {sg : Nat → Int32} {n : Nat} (h : Tdone sg n) : ∀ k, k < n → (k = 0 ∨ Tq sg n (k - 1) = 59) → evOK sg n k := by
  intro k hk hs
  have e0 := Tdone_start h hk hs
  have e1 : Sst sg n (k + 1) = SLet (Tq sg n k) := by show Sta (Sst sg n k) _ = _; rw [e0]; rfl
  have n1 := Tdone_ne h (i := k + 1) hk
  rw [e1] at n1
  have nxt : ∀ j s, Sst sg n j = s → j ≤ n → ¬ (s = 5 ∨ s = 6 ∨ s = 7) → j < n := by
    intro j s hj hle hz
    rcases Nat.lt_or_ge j n with z | z
    · exact z
    · have e : j = n := by omega
      subst e
      rw [Tdone, hj] at h
      exact absurd h hz
  rcases SLet_5 n1 with ⟨c, e⟩ | ⟨c, e⟩ | ⟨c, e⟩ | ⟨c, e⟩
  · rw [e] at e1
    have k1 := nxt _ _ e1 hk (by omega)
    have e2 : Sst sg n (k + 2) = Sta 1 (Tq sg n (k + 1)) := by show Sta (Sst sg n (k + 1)) _ = _; rw [e1]
    have n2 := Tdone_ne h (i := k + 2) k1
    rw [e2] at n2
    obtain ⟨d1, s2⟩ := Sta1 n2
    rw [s2] at e2
    have k2 := nxt _ _ e2 k1 (by omega)
    have e3 : Sst sg n (k + 3) = Sta 3 (Tq sg n (k + 2)) := by show Sta (Sst sg n (k + 2)) _ = _; rw [e2]
    have n3 := Tdone_ne h (i := k + 3) k2
    rw [e3] at n3
    obtain ⟨d2, -⟩ := Sta3 n3
    rcases c with c | c | c
    · exact Or.inl ⟨c, d1, d2⟩
    · exact Or.inr (Or.inl ⟨c, d1, d2⟩)
    · exact Or.inr (Or.inr (Or.inl ⟨c, d1, d2⟩))
  · rw [e] at e1
    have k1 := nxt _ _ e1 hk (by omega)
    have n2 := Tdone_ne h (i := k + 2) k1
    rw [show Sst sg n (k + 2) = Sta 3 (Tq sg n (k + 1)) by show Sta (Sst sg n (k + 1)) _ = _; rw [e1]] at n2
    exact Or.inr (Or.inr (Or.inr (Or.inl ⟨c, (Sta3 n2).1⟩)))
  · rw [e] at e1
    have k1 := nxt _ _ e1 hk (by omega)
    have e2 : Sst sg n (k + 2) = SDig (Tq sg n (k + 1)) := by show Sta (Sst sg n (k + 1)) _ = _; rw [e1]; rfl
    have n2 := Tdone_ne h (i := k + 2) k1
    rw [e2] at n2
    refine Or.inr (Or.inr (Or.inr (Or.inr (Or.inl ⟨c, ?_⟩))))
    have sub : ∀ q, 48 ≤ q → nI q - nI 48 = nI (q - 48) := fun q hq => pk_sub hq
    have two : ∀ a b, 48 ≤ a → 48 ≤ b → nI 10 * (nI a - nI 48) + (nI b - nI 48) = nI (10 * (a - 48) + (b - 48)) := fun a b ha hb => by rw [sub a ha, sub b hb, pk_mul, nI_add]
    have e3 : k + 2 < n → Sst sg n (k + 3) = Sta (SDig (Tq sg n (k + 1))) (Tq sg n (k + 2)) := fun _ => by show Sta (Sst sg n (k + 2)) _ = _; rw [e2]
    have q59 : ¬ k + 2 < n → Tq sg n (k + 2) = 59 := fun z => if_pos (by omega)
    rcases SDig_5 n2 with ⟨a1, a2, s2⟩ | ⟨a1, s2⟩ | ⟨a1, a2, s2⟩
    · by_cases z : Tq sg n (k + 2) = 59
      · exact ⟨Tq sg n (k + 1) - 48, ⟨by omega, by omega⟩, by unfold Tnum; rw [if_neg (not_not_intro z)]; exact sub _ (by omega)⟩
      · have k2 : k + 2 < n := by rcases Nat.lt_or_ge (k + 2) n with y | y; exact y; exact absurd (q59 (by omega)) z
        have n3 := Tdone_ne h (i := k + 3) k2
        rw [e3 k2, s2, show Sta 5 (Tq sg n (k + 2)) = if 48 ≤ Tq sg n (k + 2) ∧ Tq sg n (k + 2) ≤ 57 then 7 else SEv (Tq sg n (k + 2)) from rfl] at n3
        by_cases y : 48 ≤ Tq sg n (k + 2) ∧ Tq sg n (k + 2) ≤ 57
        · exact ⟨10 * (Tq sg n (k + 1) - 48) + (Tq sg n (k + 2) - 48), ⟨by omega, by omega⟩, by unfold Tnum; rw [if_pos z]; exact two _ _ (by omega) y.1⟩
        · rw [if_neg y, show SEv (Tq sg n (k + 2)) = 8 from if_pos z] at n3
          exact absurd rfl n3
    · by_cases z : Tq sg n (k + 2) = 59
      · exact ⟨6, ⟨by omega, by omega⟩, by unfold Tnum; rw [if_neg (not_not_intro z), a1]; exact sub 54 (by decide)⟩
      · have k2 : k + 2 < n := by rcases Nat.lt_or_ge (k + 2) n with y | y; exact y; exact absurd (q59 (by omega)) z
        have n3 := Tdone_ne h (i := k + 3) k2
        rw [e3 k2, s2, show Sta 6 (Tq sg n (k + 2)) = if ¬ Tq sg n (k + 2) = 48 then SEv (Tq sg n (k + 2)) else 7 from rfl] at n3
        by_cases y : Tq sg n (k + 2) = 48
        · exact ⟨60, ⟨by omega, by omega⟩, by unfold Tnum; rw [if_pos z, a1, y]; exact two 54 48 (by decide) (by decide)⟩
        · rw [if_pos y, show SEv (Tq sg n (k + 2)) = 8 from if_pos z] at n3
          exact absurd rfl n3
    · by_cases z : Tq sg n (k + 2) = 59
      · exact ⟨Tq sg n (k + 1) - 48, ⟨by omega, by omega⟩, by unfold Tnum; rw [if_neg (not_not_intro z)]; exact sub _ (by omega)⟩
      · have k2 : k + 2 < n := by rcases Nat.lt_or_ge (k + 2) n with y | y; exact y; exact absurd (q59 (by omega)) z
        have n3 := Tdone_ne h (i := k + 3) k2
        rw [e3 k2, s2, show Sta 7 (Tq sg n (k + 2)) = SEv (Tq sg n (k + 2)) from rfl, show SEv (Tq sg n (k + 2)) = 8 from if_pos z] at n3
        exact absurd rfl n3
  · rw [e] at e1
    have k1 := nxt _ _ e1 hk (by omega)
    have n2 := Tdone_ne h (i := k + 2) k1
    rw [show Sst sg n (k + 2) = Sta 2 (Tq sg n (k + 1)) by show Sta (Sst sg n (k + 1)) _ = _; rw [e1]] at n2
    exact Or.inr (Or.inr (Or.inr (Or.inr (Or.inr ⟨c, (Sta2 n2).1⟩))))
theorem k_D_ext {A : Nat → Prop} {a : Nat} {e0 e : va_E} {ws ws2 : va_W} (p : Nat) (hq : ws[p]? = some (a, e0)) (hw : ws.set p (a, e) = ws2) (hD : va_D A ws) : va_D A ws2 := by
  subst hw
  exact hD.set (p := p) (a := a) (e0 := e0) (e := e) hq
def b01 (P : Prop) [Decidable P] : Nat := if P then 1 else 0
theorem b01_lt {P : Prop} [Decidable P] : b01 P < 2 := by unfold b01; split <;> omega
theorem b01_lt31 {P : Prop} [Decidable P] : b01 P < 2 ^ 31 := Nat.lt_trans b01_lt (by decide)
theorem b01_t {P : Prop} [Decidable P] (h : P) : b01 P = 1 := if_pos h
theorem b01_f {P : Prop} [Decidable P] (h : ¬ P) : b01 P = 0 := if_neg h
theorem b01_0 {P : Prop} [Decidable P] : b01 P = 0 ↔ ¬ P := by
  by_cases h : P
  · rw [b01_t h]; exact ⟨fun z => absurd z (by decide), fun z => absurd h z⟩
  · rw [b01_f h]; exact ⟨fun _ => h, fun _ => rfl⟩
abbrev pairOK (row con : Int32) : Prop := (nI 0 ≤ row ∧ row ≤ nI 7) ∧ nI 0 ≤ con ∧ con ≤ nI 5
def Mcalls (k : Nat) (s : Nat → Int32) : Nat → Int32 := upd (upd s (69 + k) (s 0)) 12 ((upd s (69 + k) (s 0)) 12 + nI 1)
def Mcomes (k : Nat) (s : Nat → Int32) : Nat → Int32 := Mcalls k (upd s (21 + k) (s (21 + k) + nI 1))
def Mask (k : Nat) (s : Nat → Int32) : Nat → Int32 := if s (21 + k) ≤ 0 then s else Mcalls k s
def Mfare2 (k : Nat) (s : Nat → Int32) : Nat → Int32 := if s (69 + k) ≤ s 1 then s else Mask k (upd (upd s (69 + k) (s 1)) 11 ((upd s (69 + k) (s 1)) 11 + nI 1))
def Mfare (k : Nat) (s : Nat → Int32) : Nat → Int32 := if s 3 = nI 1 then (if s (21 + k) = 0 then upd s (69 + k) (nI 0) else Mfare2 k s) else Mfare2 k s
def Mleaves (k b : Nat) (s : Nat → Int32) : Nat → Int32 := if b = 0 then upd s (21 + k) (s (21 + k) - nI 1) else Mfare k (upd s (21 + k) (s (21 + k) - nI 1))
/-- the first n of f, laid into h -/
def cpN (f h : Nat → Int32) : Nat → Nat → Int32
  | 0 => h
  | n + 1 => upd (cpN f h n) n (f n)
theorem cpN_in {f h : Nat → Int32} {n k : Nat} (hk : k < n) : cpN f h n k = f k := by
  induction n with
  | zero => exact absurd hk (Nat.not_lt_zero k)
  | succ n ih =>
    show upd (cpN f h n) n (f n) k = f k
    unfold upd
    by_cases e : k = n
    · rw [if_pos e, e]
    · rw [if_neg e]; exact ih (by omega)
def shN (v : Nat → Int32) : Nat → Nat → Int32
  | 0 => v
  | n + 1 => upd (shN v n) n ((shN v n) (n + 120))
def cpB (s v : Nat → Int32) (j : Nat) : Nat → Nat → Int32
  | 0 => v
  | n + 1 => upd (cpB s v j n) (120 * j + n) (s n)
def Msv (s v : Nat → Int32) (j : Nat) : Nat → Int32 := if ¬ j = 6 then cpB s v j 120 else cpB s (shN v 600) 5 120
def Mchief (s : Nat → Int32) : Int32 := if s 4 ≤ nI 3 then (if s 4 ≤ nI 1 then nI 0 else nI 1) else nI 2
abbrev Mgoes (s : Nat → Int32) (r c : Nat) : Prop := s (13 + r) = nI 1 ∨ ¬ s (69 + (6 * r + c)) ≤ 0
abbrev Mwants (s : Nat → Int32) (r c : Nat) : Prop := ¬ s (21 + (6 * r + c)) ≤ 0
def Ment (s : Nat → Int32) : Nat → Int32
  | 0 => nI 0
  | n + 1 => Ment s n + bI (¬ s (69 + n) ≤ 0)
def Mrow (s : Nat → Int32) (c : Nat) : Nat → Int32
  | 0 => nI 0
  | n + 1 => Mrow s c n ||| (if Mgoes s n c then (nI 1 <<< (nI n &&& 31)) else nI 0)
def Mwan (s : Nat → Int32) (c : Nat) : Nat → Int32
  | 0 => nI 0
  | n + 1 => Mwan s c n ||| (if Mwants s n c then (nI 1 <<< (nI n &&& 31)) else nI 0)
def Mdue (s : Nat → Int32) : Int32 := if Mchief s = 0 then s 2 else nI 2 * s 2
def MfadeN (s : Nat → Int32) : Nat → Nat → Int32
  | 0 => s
  | n + 1 => upd (MfadeN s n) (69 + n) (MfadeN s n (69 + n) - bI (¬ MfadeN s n (69 + n) ≤ 0))
def MaskN (s : Nat → Int32) : Nat → Nat → Int32
  | 0 => s
  | n + 1 => if MaskN s n (21 + n) ≤ 0 then MaskN s n else Mcalls n (MaskN s n)
def Mt1 (s : Nat → Int32) : Nat → Int32 := upd (MfadeN s 48) 5 (MfadeN s 48 5 + nI 1)
def Mtk (s : Nat → Int32) : Nat → Int32 := upd (Mt1 s) 6 (Mt1 s 6 + nI 1)
def Mq1 (s : Nat → Int32) : Nat → Int32 := upd (upd (Mtk s) 6 (nI 0)) 10 ((upd (Mtk s) 6 (nI 0)) 10 + nI 1)
abbrev Masks (s : Nat → Int32) : Prop := ¬ Mtk s 6 < Mdue (Mtk s)
def Mgo (s : Nat → Int32) : Nat → Int32 := if ¬ Mtk s 6 < Mdue (Mtk s) then MaskN (Mq1 s) 48 else Mtk s
def MgoN (s : Nat → Int32) : Nat → Nat → Int32
  | 0 => s
  | n + 1 => Mgo (MgoN s n)
def MgoQ (s : Nat → Int32) : Nat → Int32
  | 0 => nI 0
  | n + 1 => MgoQ s n + bI (Masks (MgoN s n))
def Mp0 (s : Nat → Int32) (n c : Nat) : Nat → Int32 := upd s 7 (s 7 + bI (Mgoes s n c ∧ Mwants s n c))
def Mp1 (s : Nat → Int32) (P Q : Prop) [Decidable P] [Decidable Q] : Nat → Int32 :=
  upd (upd (upd s 7 (s 7 + bI (P ∧ Q))) 8 ((upd s 7 (s 7 + bI (P ∧ Q))) 8 + bI (P ∧ ¬ Q))) 9 ((upd (upd s 7 (s 7 + bI (P ∧ Q))) 8 ((upd s 7 (s 7 + bI (P ∧ Q))) 8 + bI (P ∧ ¬ Q))) 9 + bI (¬ P ∧ Q))
def MplayN (s : Nat → Int32) (c : Nat) : Nat → Nat → Int32
  | 0 => s
  | n + 1 => Mp1 (MplayN s c n) (Mgoes (MplayN s c n) n c) (Mwants (MplayN s c n) n c)
def MplayQ (s : Nat → Int32) (c : Nat) : Nat → Int32
  | 0 => nI 0
  | n + 1 => MplayQ s c n + bI (Mgoes (MplayN s c n) n c)
/-- how many minutes until the entry is gone, from the minute i on, m more at most -/
def Mst (s : Nat → Int32) (k : Nat) : Nat → Nat → Nat
  | i, 0 => i
  | i, m + 1 => if MgoN s i (69 + k) ≤ 0 then i else Mst s k (i + 1) m
theorem Mst_go {s : Nat → Int32} {k i : Nat} (hi : i < 150) : Mst s k i (150 - i) = if MgoN s i (69 + k) ≤ 0 then i else Mst s k (i + 1) (150 - (i + 1)) := by
  rw [show 150 - i = (150 - (i + 1)) + 1 by omega]; rfl
def Mfd (s : Nat → Int32) (k : Nat) : Int32 := if MgoN s (Mst s k 0 150) (69 + k) ≤ 0 then nI (Mst s k 0 150) else (-1)
def MasksIn (s : Nat → Int32) : Int32 := if nI 1 ≤ Mdue s - s 6 then Mdue s - s 6 else nI 1
def Mdist (s : Nat → Int32) (c : Nat) : Nat → Int32
  | 0 => nI 0
  | n + 1 => Mdist s c n + bI (Mgoes s n c ∧ ¬ Mwants s n c)
theorem in_nat {x : Int32} {a b : Nat} (ha : a < 2 ^ 31) (hb : b < 2 ^ 31) (h : nI a ≤ x ∧ x ≤ nI b) : ∃ k : Nat, (a ≤ k ∧ k ≤ b) ∧ x = nI k := by
  have h0 : ¬ x < 0 := fun z => absurd (Int32.lt_of_le_of_lt h.1 z) (nI_pos ha)
  obtain ⟨j, hj, rfl⟩ := nI_of h0
  exact ⟨j, ⟨(nI_leI ha hj).mp h.1, (nI_leI hj hb).mp h.2⟩, rfl⟩
def plM (row con : Int32) : Nat := 6 * row.toNatClampNeg + con.toNatClampNeg
theorem plM_eq {row con : Int32} {r c : Nat} (hr : r ≤ 7) (hc : c ≤ 5) (h1 : row = nI r) (h2 : con = nI c) : plM row con = 6 * r + c := by
  unfold plM
  rw [h1, h2, nI_clamp (by omega), nI_clamp (by omega)]
abbrev Mkeep (j : Nat) (m : MSt) : MSt := sMsm (sMsv m (Msv (ms m) (msv m) j)) (nI (kSz j))
abbrev conOK (con : Int32) : Prop := nI 0 ≤ con ∧ con ≤ nI 5
abbrev minOK (x : Int32) : Prop := nI 1 ≤ x ∧ x ≤ nI 60
def Mcome (j : Nat) (row con : Int32) (m : MSt) : MSt := if pairOK row con then (if ms m (21 + plM row con) = nI 9 then sMth m (nI 2) else sMs (Mkeep j (sMth m (nI 0))) (Mcomes (plM row con) (ms m))) else sMth m (nI 1)
def McomeR (row con : Int32) (m : MSt) : Int32 := if pairOK row con then (if ms m (21 + plM row con) = nI 9 then nI 0 else Mcomes (plM row con) (ms m) (21 + plM row con)) else nI 0
def Mleave (j : Nat) (row con : Int32) (b : Nat) (m : MSt) : MSt := if pairOK row con then (if ¬ ms m (21 + plM row con) = 0 then sMs (Mkeep j (sMth m (nI 0))) (Mleaves (plM row con) b (ms m)) else sMth m (nI 2)) else sMth m (nI 1)
def MleaveR (row con : Int32) (b : Nat) (m : MSt) : Int32 := if pairOK row con then (if ¬ ms m (21 + plM row con) = 0 then Mleaves (plM row con) b (ms m) (21 + plM row con) else nI 0) else nI 0
def Mpair (row con : Int32) (m : MSt) : MSt := if pairOK row con then sMth m (nI 0) else sMth m (nI 1)
def Mcon (con : Int32) (m : MSt) : MSt := if conOK con then sMth m (nI 0) else sMth m (nI 1)
def MlisR (row con : Int32) (m : MSt) : Int32 := if pairOK row con then ms m (21 + plM row con) else nI 0
def MrestR (row con : Int32) (m : MSt) : Int32 := if pairOK row con then ms m (69 + plM row con) else nI 0
abbrev rowOK (row : Int32) : Prop := nI 0 ≤ row ∧ row ≤ nI 7
def MopenS (j : Nat) (row : Int32) (b : Nat) (m : MSt) : MSt := if rowOK row then sMs (Mkeep j (sMth m (nI 0))) (upd (ms m) (13 + row.toNatClampNeg) (nI b)) else sMth m (nI 1)
def MopenR (row : Int32) (m : MSt) : Int32 := if rowOK row then bI (ms m (13 + row.toNatClampNeg) = nI 1) else nI 0
def MopenQ (row : Int32) (m : MSt) : MSt := if rowOK row then sMth m (nI 0) else sMth m (nI 1)
def MtimesS (j : Nat) (a b c : Int32) (m : MSt) : MSt := if nI 2 ≤ a ∧ a ≤ nI 60 then (if nI 1 ≤ b ∧ b ≤ nI 10 then (if nI 1 ≤ c ∧ c ≤ nI 30 then sMs (Mkeep j (sMth m (nI 0))) (upd (upd (upd (ms m) 0 a) 1 b) 2 c) else sMth m (nI 1)) else sMth m (nI 1)) else sMth m (nI 1)
def MtimesR (a b c : Int32) (m : MSt) : Int32 := if nI 2 ≤ a ∧ a ≤ nI 60 then (if nI 1 ≤ b ∧ b ≤ nI 10 then (if nI 1 ≤ c ∧ c ≤ nI 30 then ms m 0 else nI 0) else nI 0) else nI 0
def Mpres (u : Int32) (b : Nat) (s : Nat → Int32) : Nat → Int32 := upd s 4 ((s 4 &&& ((nI 1 <<< (u &&& 31)) ^^^ (-1))) ||| (if b = 0 then nI 0 else (nI 1 <<< (u &&& 31))))
def MpresS (j : Nat) (u : Int32) (b : Nat) (m : MSt) : MSt := if nI 1 ≤ u ∧ u ≤ nI 2 then sMs (Mkeep j (sMth m (nI 0))) (Mpres u b (ms m)) else sMth m (nI 1)
def MpresR (u : Int32) (b : Nat) (m : MSt) : Int32 := if nI 1 ≤ u ∧ u ≤ nI 2 then Mchief (Mpres u b (ms m)) else nI 0
def MrowsR (con : Int32) (m : MSt) : Int32 := if conOK con then Mrow (ms m) con.toNatClampNeg 8 else nI 0
def MwanR (con : Int32) (m : MSt) : Int32 := if conOK con then Mwan (ms m) con.toNatClampNeg 8 else nI 0
def MpassS (j : Nat) (x : Int32) (m : MSt) : MSt := if minOK x then sMs (Mkeep j (sMth m (nI 0))) (MgoN (ms m) x.toNatClampNeg) else sMth m (nI 1)
def MpassR (x : Int32) (m : MSt) : Int32 := if minOK x then MgoQ (ms m) x.toNatClampNeg else nI 0
def MplayS (j : Nat) (con : Int32) (m : MSt) : MSt := if conOK con then sMs (Mkeep j (sMth m (nI 0))) (MplayN (ms m) con.toNatClampNeg 8) else sMth m (nI 1)
def MplayR (con : Int32) (m : MSt) : Int32 := if conOK con then MplayQ (ms m) con.toNatClampNeg 8 else nI 0
def McntS (x : Int32) (m : MSt) : MSt := if nI 0 ≤ x ∧ x ≤ nI 5 then sMth m (nI 0) else sMth m (nI 1)
def McntR (x : Int32) (m : MSt) : Int32 := if nI 0 ≤ x ∧ x ≤ nI 5 then ms m (7 + x.toNatClampNeg) else nI 0
def MfadeS (row con : Int32) (m : MSt) : MSt := if pairOK row con then sMas (sMth m (nI 0)) (ms m) else sMth m (nI 1)
def MfadeR (row con : Int32) (m : MSt) : Int32 := if pairOK row con then Mfd (ms m) (plM row con) else nI 0
def MdistS (con x : Int32) (m : MSt) : MSt := if conOK con then (if minOK x then sMas (sMth m (nI 0)) (ms m) else sMth m (nI 2)) else sMth m (nI 1)
def MdistR (con x : Int32) (m : MSt) : Int32 := if conOK con then (if minOK x then Mdist (MgoN (ms m) x.toNatClampNeg) con.toNatClampNeg 8 else nI 0) else nI 0
abbrev codeOK (x : Int32) : Prop := nI 33 ≤ x ∧ x ≤ nI 126
def MappS (n : Nat) (x : Int32) (m : MSt) : MSt := if codeOK x then (if n = 60 then sMth m (nI 2) else sMln (sMbf (sMth m (nI 0)) (upd (mbf m) n x)) (nI (n + 1))) else sMth m (nI 1)
def MappR (n : Nat) (x : Int32) : Int32 := if codeOK x then (if n = 60 then nI 0 else nI (n + 1)) else nI 0
def MundoS (j : Nat) (m : MSt) : MSt := if j = 0 then sMth m (nI 1) else sMs (sMsm (sMth m (nI 0)) (nI (j - 1))) (cpN (fun k => msv m (120 * (j - 1) + k)) (ms m) 120)
def MundoR (j : Nat) : Int32 := if j = 0 then nI 0 else nI (j - 1)
def MdgC (f : Nat → Int32) (x : Int64) : Nat → Int64
  | 0 => x
  | n + 1 => mixI (MdgC f x n) (f (7 + n))
def MdgM (s : Nat → Int32) (x : Int64) : Nat → Int64
  | 0 => x
  | n + 1 => mixI (mixI (MdgM s x n) (Mrow s n 8)) (Mwan s n 8)
def MdgK1 (s : Nat → Int32) (x : Int64) (n : Nat) : Int64 := if n % 6 = 0 then mixI x (s (13 + n / 6)) else x
def MdgK (s : Nat → Int32) (x : Int64) : Nat → Int64
  | 0 => x
  | n + 1 => mixI (mixI (mixI (MdgK1 s (MdgK s x n) n) (s (21 + n))) (s (69 + n))) (Mfd s n)
def Mdig (s : Nat → Int32) : Int64 := MdgK s (MdgM s (MdgC s (mixI (mixI (mixI (mixI (mixI 4701 (s 5)) (s 6)) (Mchief s)) (Ment s 48)) (MasksIn s)) 6) 6) 48
def MdigS (m : MSt) : MSt := sMas (sMhs (sMth m (nI 0)) (Mdig (ms m))) (ms m)
def Bq (bf : Nat → Int32) (n a : Nat) : Nat := if n ≤ a then 0 else (bf a).toNatClampNeg
theorem Bq_lt {bf : Nat → Int32} {n : Nat} (h : Tok bf n) (a : Nat) : Bq bf n a < 65536 := by
  unfold Bq
  by_cases c : n ≤ a
  · rw [if_pos c]; decide
  · rw [if_neg c]; exact (Tok_cl h (by omega)).2
theorem Bq_lt31 {bf : Nat → Int32} {n : Nat} (h : Tok bf n) (a : Nat) : Bq bf n a < 2 ^ 31 := Nat.lt_of_lt_of_le (Bq_lt h a) (by decide)
theorem Bq_in {bf : Nat → Int32} {n a : Nat} (h : Bq bf n a ≠ 0) : a < n := by
  unfold Bq at h
  by_cases c : n ≤ a
  · rw [if_pos c] at h; exact absurd rfl h
  · omega
def figW (w q lo hi : Nat) : Nat := if w = 0 then 0 else if nI (48 + lo) ≤ nI q ∧ nI q ≤ nI (48 + hi) then 1 else 0
theorem figW_lt (w q lo hi : Nat) : figW w q lo hi < 2 := by unfold figW; (repeat' split) <;> omega
theorem figW_lt31 (w q lo hi : Nat) : figW w q lo hi < 2 ^ 31 := Nat.lt_trans (figW_lt w q lo hi) (by decide)
theorem figW_1 {w q lo hi : Nat} (hq : q < 65536) (hlo : lo ≤ 9) (hhi : hi ≤ 9) (h : figW w q lo hi ≠ 0) : w ≠ 0 ∧ 48 + lo ≤ q ∧ q ≤ 48 + hi := by
  unfold figW at h
  by_cases c : w = 0
  · rw [if_pos c] at h; exact absurd rfl h
  · rw [if_neg c] at h
    by_cases d : nI (48 + lo) ≤ nI q ∧ nI q ≤ nI (48 + hi)
    · exact ⟨c, (nI_leI (by omega) (by omega)).mp d.1, (nI_leI (by omega) (by omega)).mp d.2⟩
    · rw [if_neg d] at h; exact absurd rfl h
theorem figW_t {w q lo hi : Nat} (hq : q < 65536) (hlo : lo ≤ 9) (hhi : hi ≤ 9) (hw : w ≠ 0) (h1 : 48 + lo ≤ q) (h2 : q ≤ 48 + hi) : figW w q lo hi = 1 := by
  unfold figW
  rw [if_neg hw, if_pos ⟨(nI_leI (by omega) (by omega)).mpr h1, (nI_leI (by omega) (by omega)).mpr h2⟩]
theorem figW_f {w q lo hi : Nat} (hq : q < 65536) (hlo : lo ≤ 9) (hhi : hi ≤ 9) (h : ¬ (w ≠ 0 ∧ 48 + lo ≤ q ∧ q ≤ 48 + hi)) : figW w q lo hi = 0 := by
  by_cases c : figW w q lo hi = 0
  · exact c
  · exact absurd (figW_1 hq hlo hhi c) h
/-- the number's first figure as it is -/
def numF (bf : Nat → Int32) (n a : Nat) : Int32 := nI (Bq bf n a) - nI 48
def numW (bf : Nat → Int32) (n a w : Nat) : Nat := figW w (Bq bf n a) 1 9
abbrev numX (bf : Nat → Int32) (n a w : Nat) : Int32 := nI 10 * (nI (Bq bf n a) - nI 48) + nI (Bq bf n (a + figW w (Bq bf n a) 1 9)) - nI 48
abbrev numP (bf : Nat → Int32) (n a w : Nat) : Prop := nI 48 ≤ nI (Bq bf n (a + figW w (Bq bf n a) 1 9)) ∧ nI (Bq bf n (a + figW w (Bq bf n a) 1 9)) ≤ nI 57
def numV (bf : Nat → Int32) (n a w : Nat) : Int32 := if figW w (Bq bf n a) 1 9 = 0 then nI (Bq bf n a) - nI 48 else if numP bf n a w then (if nI 60 < numX bf n a w then nI (Bq bf n a) - nI 48 else numX bf n a w) else nI (Bq bf n a) - nI 48
def numA (bf : Nat → Int32) (n a w : Nat) : Nat := if figW w (Bq bf n a) 1 9 = 0 then a + figW w (Bq bf n a) 1 9 else if numP bf n a w then (if nI 60 < numX bf n a w then a + figW w (Bq bf n a) 1 9 else a + figW w (Bq bf n a) 1 9 + 1) else a + figW w (Bq bf n a) 1 9
def evW (q : Nat) : Nat := if q = 99 then 1 else if q = 108 then 1 else if q = 115 then 1 else if q = 112 then 1 else if q = 116 then 1 else if q = 111 then 1 else 0
theorem evW_lt (q : Nat) : evW q < 2 := by unfold evW; (repeat' split) <;> omega
abbrev RSt := Nat × Nat × Nat × (Nat → Int32)
def MR (m : MSt) (t : RSt) : MSt := sMrm (sMrd (sMat (sMiw m (nI t.2.1)) (nI t.1)) t.2.2.2) (nI t.2.2.1)
def rT (bf : Nat → Int32) (n a w q r : Nat) (rd : Nat → Int32) : RSt := (numA bf n a w, figW w (Bq bf n a) 1 9, r + figW w (Bq bf n a) 1 9, upd (upd rd (3 * r) (nI q)) (3 * r + 1) (numV bf n a w))
def rO (bf : Nat → Int32) (n a w q r hi : Nat) (rd : Nat → Int32) : RSt := (a + figW w (Bq bf n a) 0 hi, figW w (Bq bf n a) 0 hi, r + figW w (Bq bf n a) 0 hi, upd (upd rd (3 * r) (nI q)) (3 * r + 1) (nI (Bq bf n a) - nI 48))
def rC2 (bf : Nat → Int32) (n a w q r : Nat) (rd : Nat → Int32) (b : Nat) : RSt := (b + figW (figW w (Bq bf n a) 0 7) (Bq bf n b) 0 5, figW (figW w (Bq bf n a) 0 7) (Bq bf n b) 0 5, r + figW (figW w (Bq bf n a) 0 7) (Bq bf n b) 0 5, upd (upd (upd rd (3 * r) (nI q)) (3 * r + 1) (nI (Bq bf n a) - nI 48)) (3 * r + 2) (nI (Bq bf n b) - nI 48))
def rC (bf : Nat → Int32) (n a w q r : Nat) (rd : Nat → Int32) : RSt := rC2 bf n a w q r rd (a + figW w (Bq bf n a) 0 7)
def rEv (bf : Nat → Int32) (n a r : Nat) (rd : Nat → Int32) : RSt :=
  if Bq bf n a = 116 then rT bf n (a + evW (Bq bf n a)) (evW (Bq bf n a)) (Bq bf n a) r rd
  else if Bq bf n a = 112 then rO bf n (a + evW (Bq bf n a)) (evW (Bq bf n a)) (Bq bf n a) r 5 rd
  else if Bq bf n a = 99 then rC bf n (a + evW (Bq bf n a)) (evW (Bq bf n a)) (Bq bf n a) r rd
  else if Bq bf n a = 108 then rC bf n (a + evW (Bq bf n a)) (evW (Bq bf n a)) (Bq bf n a) r rd
  else if Bq bf n a = 115 then rC bf n (a + evW (Bq bf n a)) (evW (Bq bf n a)) (Bq bf n a) r rd
  else rO bf n (a + evW (Bq bf n a)) (evW (Bq bf n a)) (Bq bf n a) r 7 rd
def rStep (bf : Nat → Int32) (n : Nat) (t : RSt) : RSt := if Bq bf n t.1 = 59 then rEv bf n (t.1 + 1) t.2.2.1 t.2.2.2 else (t.1, 0, t.2.2.1, t.2.2.2)
def rS (bf : Nat → Int32) (n : Nat) (rd : Nat → Int32) : Nat → RSt
  | 0 => rEv bf n 0 0 rd
  | i + 1 => rStep bf n (rS bf n rd i)
abbrev rGo (n : Nat) (t : RSt) : Prop := ¬ t.2.1 = 0 ∧ t.1 < n
def rdEnd (bf : Nat → Int32) (n : Nat) (rd : Nat → Int32) : Nat → Nat → Nat
  | i, 0 => i
  | i, m + 1 => if rGo n (rS bf n rd i) then rdEnd bf n rd (i + 1) m else i
theorem rdEnd_go {bf : Nat → Int32} {n i : Nat} {rd : Nat → Int32} (hi : i < 100) : rdEnd bf n rd i (100 - i) = if rGo n (rS bf n rd i) then rdEnd bf n rd (i + 1) (100 - (i + 1)) else i := by
  rw [show 100 - i = (100 - (i + 1)) + 1 by omega]; rfl
def rFin (bf : Nat → Int32) (n : Nat) (rd : Nat → Int32) : RSt := rS bf n rd (rdEnd bf n rd 0 100)
def rOK (n : Nat) (t : RSt) (i : Nat) : Prop := t.2.1 < 2 ∧ t.1 ≤ n ∧ 3 * t.2.2.1 ≤ t.1 + 1 ∧ i ≤ t.1 + 1 ∧ (t.2.1 ≠ 0 → i ≤ t.1)
theorem evW_in {q : Nat} (h : evW q ≠ 0) : q = 99 ∨ q = 108 ∨ q = 115 ∨ q = 112 ∨ q = 116 ∨ q = 111 := by
  unfold evW at h
  by_cases c1 : q = 99
  · exact Or.inl c1
  by_cases c2 : q = 108
  · exact Or.inr (Or.inl c2)
  by_cases c3 : q = 115
  · exact Or.inr (Or.inr (Or.inl c3))
  by_cases c4 : q = 112
  · exact Or.inr (Or.inr (Or.inr (Or.inl c4)))
  by_cases c5 : q = 116
  · exact Or.inr (Or.inr (Or.inr (Or.inr (Or.inl c5))))
  by_cases c6 : q = 111
  · exact Or.inr (Or.inr (Or.inr (Or.inr (Or.inr c6))))
  rw [if_neg c1, if_neg c2, if_neg c3, if_neg c4, if_neg c5, if_neg c6] at h
  exact absurd rfl h
theorem numA_le (bf : Nat → Int32) (n a w : Nat) : numA bf n a w ≤ a + 2 := by
  have h := figW_lt w (Bq bf n a) 1 9
  unfold numA
  (repeat' split) <;> omega
/-- what a step of the reader keeps: k = 0 or the figure at b is there -/
theorem fig_step {bf : Nat → Int32} {n : Nat} (hbf : Tok bf n) (w b lo hi : Nat) (hlo : lo ≤ 9) (hhi : hi ≤ 9) (hb : b ≤ n) : b + figW w (Bq bf n b) lo hi ≤ n ∧ (figW w (Bq bf n b) lo hi ≠ 0 → w ≠ 0) := by
  have h1 := figW_lt w (Bq bf n b) lo hi
  by_cases c : figW w (Bq bf n b) lo hi = 0
  · exact ⟨by omega, fun z => absurd c z⟩
  · have h2 := figW_1 (Bq_lt hbf b) hlo hhi c
    have h3 : b < n := Bq_in (bf := bf) (by omega)
    exact ⟨by omega, fun _ => h2.1⟩
theorem num_step {bf : Nat → Int32} {n : Nat} (hbf : Tok bf n) (w b : Nat) (hb : b ≤ n) : numA bf n b w ≤ n ∧ b + figW w (Bq bf n b) 1 9 ≤ numA bf n b w := by
  have h1 := (fig_step hbf w b 1 9 (by decide) (by decide) hb).1
  unfold numA
  by_cases c : figW w (Bq bf n b) 1 9 = 0
  · rw [if_pos c]; exact ⟨h1, Nat.le_refl _⟩
  · rw [if_neg c]
    by_cases d : numP bf n b w
    · rw [if_pos d]
      by_cases e : nI 60 < numX bf n b w
      · rw [if_pos e]; exact ⟨h1, Nat.le_refl _⟩
      · rw [if_neg e]
        have h3 : 48 ≤ Bq bf n (b + figW w (Bq bf n b) 1 9) := (nI_leI (by decide) (Bq_lt31 hbf _)).mp d.1
        have h4 : b + figW w (Bq bf n b) 1 9 < n := Bq_in (bf := bf) (by omega)
        exact ⟨h4, Nat.le_succ _⟩
    · rw [if_neg d]; exact ⟨h1, Nat.le_refl _⟩
theorem rEv_step {bf : Nat → Int32} {n : Nat} (hbf : Tok bf n) (a r : Nat) (rd : Nat → Int32) (ha : a ≤ n) : (rEv bf n a r rd).2.1 < 2 ∧ a ≤ (rEv bf n a r rd).1 ∧ (rEv bf n a r rd).1 ≤ n ∧ (rEv bf n a r rd).2.2.1 = r + (rEv bf n a r rd).2.1 ∧ a + 2 * (rEv bf n a r rd).2.1 ≤ (rEv bf n a r rd).1 := by
  have h0 : a + evW (Bq bf n a) ≤ n := by
    have h1 := evW_lt (Bq bf n a)
    by_cases c : evW (Bq bf n a) = 0
    · omega
    · have h2 := evW_in c
      have h3 : a < n := Bq_in (bf := bf) (by omega)
      omega
  have k1 : ∀ w : Nat, w = evW (Bq bf n a) → ∀ hi : Nat, hi ≤ 9 → (figW w (Bq bf n (a + w)) 0 hi < 2 ∧ a + w + figW w (Bq bf n (a + w)) 0 hi ≤ n ∧ a + 2 * figW w (Bq bf n (a + w)) 0 hi ≤ a + w + figW w (Bq bf n (a + w)) 0 hi) := by
    intro w hw hi hhi
    have h1 := figW_lt w (Bq bf n (a + w)) 0 hi
    have h2 := fig_step hbf w (a + w) 0 hi (by decide) hhi (by rw [hw]; exact h0)
    refine ⟨h1, h2.1, ?_⟩
    by_cases c : figW w (Bq bf n (a + w)) 0 hi = 0
    · omega
    · have := h2.2 c; omega
  have kC : (rC bf n (a + evW (Bq bf n a)) (evW (Bq bf n a)) (Bq bf n a) r rd).2.1 < 2 ∧ a ≤ (rC bf n (a + evW (Bq bf n a)) (evW (Bq bf n a)) (Bq bf n a) r rd).1 ∧ (rC bf n (a + evW (Bq bf n a)) (evW (Bq bf n a)) (Bq bf n a) r rd).1 ≤ n ∧ (rC bf n (a + evW (Bq bf n a)) (evW (Bq bf n a)) (Bq bf n a) r rd).2.2.1 = r + (rC bf n (a + evW (Bq bf n a)) (evW (Bq bf n a)) (Bq bf n a) r rd).2.1 ∧ a + 2 * (rC bf n (a + evW (Bq bf n a)) (evW (Bq bf n a)) (Bq bf n a) r rd).2.1 ≤ (rC bf n (a + evW (Bq bf n a)) (evW (Bq bf n a)) (Bq bf n a) r rd).1 := by
    obtain ⟨p1, p2, p3⟩ := k1 _ rfl 7 (by decide)
    show figW (figW (evW (Bq bf n a)) (Bq bf n (a + evW (Bq bf n a))) 0 7) (Bq bf n (a + evW (Bq bf n a) + figW (evW (Bq bf n a)) (Bq bf n (a + evW (Bq bf n a))) 0 7)) 0 5 < 2 ∧ a ≤ a + evW (Bq bf n a) + figW (evW (Bq bf n a)) (Bq bf n (a + evW (Bq bf n a))) 0 7 + figW (figW (evW (Bq bf n a)) (Bq bf n (a + evW (Bq bf n a))) 0 7) (Bq bf n (a + evW (Bq bf n a) + figW (evW (Bq bf n a)) (Bq bf n (a + evW (Bq bf n a))) 0 7)) 0 5 ∧ a + evW (Bq bf n a) + figW (evW (Bq bf n a)) (Bq bf n (a + evW (Bq bf n a))) 0 7 + figW (figW (evW (Bq bf n a)) (Bq bf n (a + evW (Bq bf n a))) 0 7) (Bq bf n (a + evW (Bq bf n a) + figW (evW (Bq bf n a)) (Bq bf n (a + evW (Bq bf n a))) 0 7)) 0 5 ≤ n ∧ r + figW (figW (evW (Bq bf n a)) (Bq bf n (a + evW (Bq bf n a))) 0 7) (Bq bf n (a + evW (Bq bf n a) + figW (evW (Bq bf n a)) (Bq bf n (a + evW (Bq bf n a))) 0 7)) 0 5 = r + figW (figW (evW (Bq bf n a)) (Bq bf n (a + evW (Bq bf n a))) 0 7) (Bq bf n (a + evW (Bq bf n a) + figW (evW (Bq bf n a)) (Bq bf n (a + evW (Bq bf n a))) 0 7)) 0 5 ∧ a + 2 * figW (figW (evW (Bq bf n a)) (Bq bf n (a + evW (Bq bf n a))) 0 7) (Bq bf n (a + evW (Bq bf n a) + figW (evW (Bq bf n a)) (Bq bf n (a + evW (Bq bf n a))) 0 7)) 0 5 ≤ a + evW (Bq bf n a) + figW (evW (Bq bf n a)) (Bq bf n (a + evW (Bq bf n a))) 0 7 + figW (figW (evW (Bq bf n a)) (Bq bf n (a + evW (Bq bf n a))) 0 7) (Bq bf n (a + evW (Bq bf n a) + figW (evW (Bq bf n a)) (Bq bf n (a + evW (Bq bf n a))) 0 7)) 0 5
    generalize figW (evW (Bq bf n a)) (Bq bf n (a + evW (Bq bf n a))) 0 7 = w1 at p1 p2 p3 ⊢
    generalize a + evW (Bq bf n a) = a1 at p2 p3 ⊢
    have h1 := figW_lt w1 (Bq bf n (a1 + w1)) 0 5
    have h2 := fig_step hbf w1 (a1 + w1) 0 5 (by decide) (by decide) p2
    generalize figW w1 (Bq bf n (a1 + w1)) 0 5 = w2 at h1 h2 ⊢
    by_cases c : w2 = 0
    · exact ⟨h1, by omega, h2.1, rfl, by omega⟩
    · have := h2.2 c
      exact ⟨h1, by omega, h2.1, rfl, by omega⟩
  have kO : ∀ hi : Nat, hi ≤ 9 → ((rO bf n (a + evW (Bq bf n a)) (evW (Bq bf n a)) (Bq bf n a) r hi rd).2.1 < 2 ∧ a ≤ (rO bf n (a + evW (Bq bf n a)) (evW (Bq bf n a)) (Bq bf n a) r hi rd).1 ∧ (rO bf n (a + evW (Bq bf n a)) (evW (Bq bf n a)) (Bq bf n a) r hi rd).1 ≤ n ∧ (rO bf n (a + evW (Bq bf n a)) (evW (Bq bf n a)) (Bq bf n a) r hi rd).2.2.1 = r + (rO bf n (a + evW (Bq bf n a)) (evW (Bq bf n a)) (Bq bf n a) r hi rd).2.1 ∧ a + 2 * (rO bf n (a + evW (Bq bf n a)) (evW (Bq bf n a)) (Bq bf n a) r hi rd).2.1 ≤ (rO bf n (a + evW (Bq bf n a)) (evW (Bq bf n a)) (Bq bf n a) r hi rd).1) := by
    intro hi hhi
    obtain ⟨p1, p2, p3⟩ := k1 _ rfl hi hhi
    exact ⟨p1, by show a ≤ a + evW (Bq bf n a) + figW (evW (Bq bf n a)) (Bq bf n (a + evW (Bq bf n a))) 0 hi; omega, p2, rfl, p3⟩
  unfold rEv
  by_cases c1 : Bq bf n a = 116
  · rw [if_pos c1]
    have h1 := figW_lt (evW (Bq bf n a)) (Bq bf n (a + evW (Bq bf n a))) 1 9
    have h2 := fig_step hbf (evW (Bq bf n a)) (a + evW (Bq bf n a)) 1 9 (by decide) (by decide) h0
    have h3 := num_step hbf (evW (Bq bf n a)) (a + evW (Bq bf n a)) h0
    refine ⟨h1, ?_, h3.1, rfl, ?_⟩
    · show a ≤ numA bf n (a + evW (Bq bf n a)) (evW (Bq bf n a)); omega
    · show a + 2 * figW (evW (Bq bf n a)) (Bq bf n (a + evW (Bq bf n a))) 1 9 ≤ numA bf n (a + evW (Bq bf n a)) (evW (Bq bf n a))
      by_cases c : figW (evW (Bq bf n a)) (Bq bf n (a + evW (Bq bf n a))) 1 9 = 0
      · omega
      · have := h2.2 c; omega
  rw [if_neg c1]
  by_cases c2 : Bq bf n a = 112
  · rw [if_pos c2]; exact kO 5 (by decide)
  rw [if_neg c2]
  by_cases c3 : Bq bf n a = 99
  · rw [if_pos c3]; exact kC
  rw [if_neg c3]
  by_cases c4 : Bq bf n a = 108
  · rw [if_pos c4]; exact kC
  rw [if_neg c4]
  by_cases c5 : Bq bf n a = 115
  · rw [if_pos c5]; exact kC
  rw [if_neg c5]; exact kO 7 (by decide)
theorem rOK_0 {bf : Nat → Int32} {n : Nat} (hbf : Tok bf n) (rd : Nat → Int32) : rOK n (rS bf n rd 0) 0 := by
  obtain ⟨h1, h2, h3, h4, h5⟩ := rEv_step hbf 0 0 rd (Nat.zero_le n)
  exact ⟨h1, h3, by show 3 * (rEv bf n 0 0 rd).2.2.1 ≤ (rEv bf n 0 0 rd).1 + 1; omega, Nat.zero_le _, fun _ => Nat.zero_le _⟩
theorem rOK_s {bf : Nat → Int32} {n i : Nat} {rd : Nat → Int32} (hbf : Tok bf n) (h : rOK n (rS bf n rd i) i) (hw : ¬ (rS bf n rd i).2.1 = 0) (ha : (rS bf n rd i).1 < n) : rOK n (rS bf n rd (i + 1)) (i + 1) := by
  obtain ⟨g1, g2, g3, g4, g5⟩ := h
  have g6 := g5 hw
  show rOK n (rStep bf n (rS bf n rd i)) (i + 1)
  generalize rS bf n rd i = t at g1 g2 g3 g4 g5 g6 hw ha ⊢
  unfold rStep
  by_cases c : Bq bf n t.1 = 59
  · rw [if_pos c]
    obtain ⟨h1, h2, h3, h4, h5⟩ := rEv_step hbf (t.1 + 1) t.2.2.1 t.2.2.2 ha
    exact ⟨h1, h3, by omega, by omega, fun _ => by omega⟩
  · rw [if_neg c]
    exact ⟨Nat.zero_lt_two, g2, g3, by show i + 1 ≤ t.1 + 1; omega, fun z => absurd rfl z⟩
theorem rOK_lt {n i : Nat} {t : RSt} (hn : n ≤ 60) (h : rOK n t i) : i < 100 := by obtain ⟨g1, g2, g3, g4, g5⟩ := h; omega
def rdP (rd : Nat → Int32) (k : Nat) : Prop := ∃ x y : Nat, x < 8 ∧ y < 6 ∧ rd (k + 1) = nI x ∧ rd (k + 2) = nI y
def rdOK (rd : Nat → Int32) (k : Nat) : Prop :=
  (rd k = nI 99 ∧ rdP rd k) ∨ (rd k = nI 108 ∧ rdP rd k) ∨ (rd k = nI 115 ∧ rdP rd k) ∨ (rd k = nI 112 ∧ ∃ x : Nat, x < 6 ∧ rd (k + 1) = nI x) ∨ (rd k = nI 116 ∧ ∃ x : Nat, (1 ≤ x ∧ x ≤ 60) ∧ rd (k + 1) = nI x) ∨ (rd k = nI 111 ∧ ∃ x : Nat, x < 8 ∧ rd (k + 1) = nI x)
theorem rdOK_congr {rd rd' : Nat → Int32} {k : Nat} (h0 : rd' k = rd k) (h1 : rd' (k + 1) = rd (k + 1)) (h2 : rd' (k + 2) = rd (k + 2)) (h : rdOK rd k) : rdOK rd' k := by
  unfold rdOK rdP at *
  rw [h0, h1, h2]; exact h
theorem num_val {bf : Nat → Int32} {n : Nat} (hbf : Tok bf n) (a w : Nat) (h : figW w (Bq bf n a) 1 9 ≠ 0) : ∃ x : Nat, (1 ≤ x ∧ x ≤ 60) ∧ numV bf n a w = nI x := by
  have h2 := figW_1 (Bq_lt hbf a) (by decide) (by decide) h
  have e1 : nI (Bq bf n a) - nI 48 = nI (Bq bf n a - 48) := pk_sub (by omega)
  unfold numV
  rw [if_neg h]
  by_cases d : numP bf n a w
  · rw [if_pos d]
    by_cases e : nI 60 < numX bf n a w
    · rw [if_pos e]; exact ⟨_, ⟨by omega, by omega⟩, e1⟩
    · rw [if_neg e]
      have h3 : 48 ≤ Bq bf n (a + figW w (Bq bf n a) 1 9) := (nI_leI (by decide) (Bq_lt31 hbf _)).mp d.1
      have h4 : Bq bf n (a + figW w (Bq bf n a) 1 9) ≤ 57 := (nI_leI (Bq_lt31 hbf _) (by decide)).mp d.2
      have e2 : numX bf n a w = nI (10 * (Bq bf n a - 48) + Bq bf n (a + figW w (Bq bf n a) 1 9) - 48) := by
        unfold numX
        rw [e1, pk_mul, nI_add, pk_sub (by omega)]
      rw [e2] at e ⊢
      refine ⟨_, ⟨by omega, ?_⟩, rfl⟩
      exact Nat.le_of_not_lt fun z => e ((nI_ltI (by decide) (by omega)).mpr z)
  · rw [if_neg d]; exact ⟨_, ⟨by omega, by omega⟩, e1⟩
theorem rEv_ok {bf : Nat → Int32} {n : Nat} (hbf : Tok bf n) (a r : Nat) (rd : Nat → Int32) (hall : ∀ i, i < r → rdOK rd (3 * i)) : ∀ i, i < (rEv bf n a r rd).2.2.1 → rdOK (rEv bf n a r rd).2.2.2 (3 * i) := by
  have fig1 : ∀ w b hi : Nat, hi ≤ 9 → figW w (Bq bf n b) 0 hi ≠ 0 → w ≠ 0 ∧ ∃ x : Nat, x ≤ hi ∧ nI (Bq bf n b) - nI 48 = nI x := by
    intro w b hi hhi h
    have h2 := figW_1 (Bq_lt hbf b) (by decide) hhi h
    exact ⟨h2.1, Bq bf n b - 48, by omega, pk_sub (by omega)⟩
  have kT : Bq bf n a = 116 → ∀ i, i < (rT bf n (a + evW (Bq bf n a)) (evW (Bq bf n a)) (Bq bf n a) r rd).2.2.1 → rdOK (rT bf n (a + evW (Bq bf n a)) (evW (Bq bf n a)) (Bq bf n a) r rd).2.2.2 (3 * i) := by
    intro hq i hi
    show rdOK (upd (upd rd (3 * r) (nI (Bq bf n a))) (3 * r + 1) (numV bf n (a + evW (Bq bf n a)) (evW (Bq bf n a)))) (3 * i)
    have hi : i < r + figW (evW (Bq bf n a)) (Bq bf n (a + evW (Bq bf n a))) 1 9 := hi
    have h1 := figW_lt (evW (Bq bf n a)) (Bq bf n (a + evW (Bq bf n a))) 1 9
    by_cases c : i < r
    · exact rdOK_congr (by rw [pk_un (by omega), pk_un (by omega)]) (by rw [pk_un (by omega), pk_un (by omega)]) (by rw [pk_un (by omega), pk_un (by omega)]) (hall i c)
    · obtain rfl : i = r := by omega
      obtain ⟨x, hx, ex⟩ := num_val hbf (a + evW (Bq bf n a)) (evW (Bq bf n a)) (by omega)
      refine Or.inr (Or.inr (Or.inr (Or.inr (Or.inl ⟨?_, x, hx, ?_⟩))))
      · rw [pk_un (by omega), pk_us, hq]
      · rw [pk_us, ex]
  have kO : ∀ hi : Nat, (hi = 5 ∧ Bq bf n a = 112) ∨ (hi = 7 ∧ (evW (Bq bf n a) ≠ 0 → Bq bf n a = 111)) → ∀ i, i < (rO bf n (a + evW (Bq bf n a)) (evW (Bq bf n a)) (Bq bf n a) r hi rd).2.2.1 → rdOK (rO bf n (a + evW (Bq bf n a)) (evW (Bq bf n a)) (Bq bf n a) r hi rd).2.2.2 (3 * i) := by
    intro hi hq i hlt
    show rdOK (upd (upd rd (3 * r) (nI (Bq bf n a))) (3 * r + 1) (nI (Bq bf n (a + evW (Bq bf n a))) - nI 48)) (3 * i)
    have hlt : i < r + figW (evW (Bq bf n a)) (Bq bf n (a + evW (Bq bf n a))) 0 hi := hlt
    have h1 := figW_lt (evW (Bq bf n a)) (Bq bf n (a + evW (Bq bf n a))) 0 hi
    by_cases c : i < r
    · exact rdOK_congr (by rw [pk_un (by omega), pk_un (by omega)]) (by rw [pk_un (by omega), pk_un (by omega)]) (by rw [pk_un (by omega), pk_un (by omega)]) (hall i c)
    · obtain rfl : i = r := by omega
      obtain ⟨hw, x, hx, ex⟩ := fig1 (evW (Bq bf n a)) (a + evW (Bq bf n a)) hi (by omega) (by omega)
      rcases hq with ⟨rfl, hq⟩ | ⟨rfl, hq⟩
      · refine Or.inr (Or.inr (Or.inr (Or.inl ⟨?_, x, by omega, ?_⟩)))
        · rw [pk_un (by omega), pk_us, hq]
        · rw [pk_us, ex]
      · refine Or.inr (Or.inr (Or.inr (Or.inr (Or.inr ⟨?_, x, by omega, ?_⟩))))
        · rw [pk_un (by omega), pk_us, hq hw]
        · rw [pk_us, ex]
  have kC : (Bq bf n a = 99 ∨ Bq bf n a = 108 ∨ Bq bf n a = 115) → ∀ i, i < (rC bf n (a + evW (Bq bf n a)) (evW (Bq bf n a)) (Bq bf n a) r rd).2.2.1 → rdOK (rC bf n (a + evW (Bq bf n a)) (evW (Bq bf n a)) (Bq bf n a) r rd).2.2.2 (3 * i) := by
    intro hq i hlt
    unfold rC at hlt ⊢
    generalize hw0 : evW (Bq bf n a) = w0 at hlt ⊢
    generalize ha1 : a + w0 = a1 at hlt ⊢
    generalize ha2 : a1 + figW w0 (Bq bf n a1) 0 7 = a2 at hlt ⊢
    show rdOK (upd (upd (upd rd (3 * r) (nI (Bq bf n a))) (3 * r + 1) (nI (Bq bf n a1) - nI 48)) (3 * r + 2) (nI (Bq bf n a2) - nI 48)) (3 * i)
    have hlt : i < r + figW (figW w0 (Bq bf n a1) 0 7) (Bq bf n a2) 0 5 := hlt
    have h1 := figW_lt (figW w0 (Bq bf n a1) 0 7) (Bq bf n a2) 0 5
    by_cases c : i < r
    · exact rdOK_congr (by rw [pk_un (by omega), pk_un (by omega), pk_un (by omega)]) (by rw [pk_un (by omega), pk_un (by omega), pk_un (by omega)]) (by rw [pk_un (by omega), pk_un (by omega), pk_un (by omega)]) (hall i c)
    · obtain rfl : i = r := by omega
      obtain ⟨hw, y, hy, ey⟩ := fig1 (figW w0 (Bq bf n a1) 0 7) a2 5 (by decide) (by omega)
      obtain ⟨hw1, x, hx, ex⟩ := fig1 w0 a1 7 (by decide) hw
      have hp : rdP (upd (upd (upd rd (3 * i) (nI (Bq bf n a))) (3 * i + 1) (nI (Bq bf n a1) - nI 48)) (3 * i + 2) (nI (Bq bf n a2) - nI 48)) (3 * i) := by
        refine ⟨x, y, by omega, by omega, ?_, ?_⟩
        · rw [pk_un (by omega), pk_us, ex]
        · rw [pk_us, ey]
      have h0 : upd (upd (upd rd (3 * i) (nI (Bq bf n a))) (3 * i + 1) (nI (Bq bf n a1) - nI 48)) (3 * i + 2) (nI (Bq bf n a2) - nI 48) (3 * i) = nI (Bq bf n a) := by
        rw [pk_un (by omega), pk_un (by omega), pk_us]
      rcases hq with hq | hq | hq
      · exact Or.inl ⟨by rw [h0, hq], hp⟩
      · exact Or.inr (Or.inl ⟨by rw [h0, hq], hp⟩)
      · exact Or.inr (Or.inr (Or.inl ⟨by rw [h0, hq], hp⟩))
  unfold rEv
  by_cases c1 : Bq bf n a = 116
  · rw [if_pos c1]; exact kT c1
  rw [if_neg c1]
  by_cases c2 : Bq bf n a = 112
  · rw [if_pos c2]; exact kO 5 (Or.inl ⟨rfl, c2⟩)
  rw [if_neg c2]
  by_cases c3 : Bq bf n a = 99
  · rw [if_pos c3]; exact kC (Or.inl c3)
  rw [if_neg c3]
  by_cases c4 : Bq bf n a = 108
  · rw [if_pos c4]; exact kC (Or.inr (Or.inl c4))
  rw [if_neg c4]
  by_cases c5 : Bq bf n a = 115
  · rw [if_pos c5]; exact kC (Or.inr (Or.inr c5))
  rw [if_neg c5]; exact kO 7 (Or.inr ⟨rfl, fun z => by have := evW_in z; omega⟩)
theorem rS_ok {bf : Nat → Int32} {n : Nat} (hbf : Tok bf n) (rd : Nat → Int32) (j : Nat) : ∀ i, i < (rS bf n rd j).2.2.1 → rdOK (rS bf n rd j).2.2.2 (3 * i) := by
  induction j with
  | zero => exact rEv_ok hbf 0 0 rd (fun i h => absurd h (Nat.not_lt_zero i))
  | succ j ih =>
    show ∀ i, i < (rStep bf n (rS bf n rd j)).2.2.1 → rdOK (rStep bf n (rS bf n rd j)).2.2.2 (3 * i)
    unfold rStep
    by_cases c : Bq bf n (rS bf n rd j).1 = 59
    · rw [if_pos c]; exact rEv_ok hbf _ _ _ ih
    · rw [if_neg c]; exact ih
theorem rFin_ok {bf : Nat → Int32} {n : Nat} (hbf : Tok bf n) (rd : Nat → Int32) : ∀ i, i < (rFin bf n rd).2.2.1 → rdOK (rFin bf n rd).2.2.2 (3 * i) := rS_ok hbf rd _
theorem rEnd_ok {bf : Nat → Int32} {n : Nat} {rd : Nat → Int32} (hn : n ≤ 60) (hbf : Tok bf n) : ∀ m i, rOK n (rS bf n rd i) i → ∃ j, rdEnd bf n rd i m = j ∧ rOK n (rS bf n rd j) j := by
  intro m
  induction m with
  | zero => exact fun i h => ⟨i, rfl, h⟩
  | succ m ih =>
    intro i h
    show ∃ j, (if rGo n (rS bf n rd i) then rdEnd bf n rd (i + 1) m else i) = j ∧ _
    by_cases c : rGo n (rS bf n rd i)
    · rw [if_pos c]; exact ih (i + 1) (rOK_s hbf h c.1 c.2)
    · rw [if_neg c]; exact ⟨i, rfl, h⟩
theorem rFin_lt {bf : Nat → Int32} {n : Nat} (hn : n ≤ 60) (hbf : Tok bf n) (rd : Nat → Int32) : (rFin bf n rd).2.1 < 2 ∧ (rFin bf n rd).1 ≤ 60 ∧ 3 * (rFin bf n rd).2.2.1 ≤ 61 := by
  obtain ⟨j, e, h1, h2, h3, h4, h5⟩ := rEnd_ok (rd := rd) hn hbf 100 0 (rOK_0 hbf rd)
  unfold rFin
  rw [e]
  exact ⟨h1, by omega, by omega⟩
def Mcl (rd : Nat → Int32) (k : Nat) : Nat := 6 * (rd (k + 1)).toNatClampNeg + (rd (k + 2)).toNatClampNeg
theorem Mcl_eq {rd : Nat → Int32} {k x y : Nat} (hx8 : x < 8) (hy6 : y < 6) (hx : rd (k + 1) = nI x) (hy : rd (k + 2) = nI y) : Mcl rd k = 6 * x + y := by
  unfold Mcl; rw [hx, hy, nI_clamp (by omega), nI_clamp (by omega)]
def MevC (c : Nat) (s : Nat → Int32) : Nat → Int32 := if nI 9 ≤ s (21 + c) then s else Mcomes c s
def MevCB (c : Nat) (s : Nat → Int32) : Nat := if nI 9 ≤ s (21 + c) then 0 else if Mcomes c s (21 + c) ≤ 0 then 0 else 1
def MevL (c b : Nat) (s : Nat → Int32) : Nat → Int32 := if s (21 + c) ≤ 0 then s else Mleaves c b s
def MevLB (c b : Nat) (s : Nat → Int32) : Nat := if s (21 + c) ≤ 0 then 0 else if Mleaves c b s (21 + c) < 0 then 0 else 1
def Mev (rd : Nat → Int32) (k : Nat) (s : Nat → Int32) : Nat → Int32 :=
  if rd k = nI 99 then MevC (Mcl rd k) s else if rd k = nI 108 then MevL (Mcl rd k) 1 s else if rd k = nI 115 then MevL (Mcl rd k) 0 s
  else if rd k = nI 112 then MplayN s (rd (k + 1)).toNatClampNeg 8 else if rd k = nI 116 then MgoN s (rd (k + 1)).toNatClampNeg
  else upd s (13 + (rd (k + 1)).toNatClampNeg) (nI 1 - s (13 + (rd (k + 1)).toNatClampNeg))
def MevN (rd : Nat → Int32) (k : Nat) (s : Nat → Int32) : Nat :=
  if rd k = nI 99 then MevCB (Mcl rd k) s else if rd k = nI 108 then MevLB (Mcl rd k) 1 s else if rd k = nI 115 then MevLB (Mcl rd k) 0 s
  else if rd k = nI 112 then (if MplayQ s (rd (k + 1)).toNatClampNeg 8 < 0 then 0 else 1) else if rd k = nI 116 then (if MgoQ s (rd (k + 1)).toNatClampNeg < 0 then 0 else 1)
  else 1
theorem MevN_lt (rd : Nat → Int32) (k : Nat) (s : Nat → Int32) : MevN rd k s < 2 := by
  unfold MevN MevCB MevLB
  (repeat' split) <;> omega
def MrunN (rd : Nat → Int32) (s : Nat → Int32) : Nat → Nat → Int32
  | 0 => s
  | i + 1 => Mev rd (3 * i) (MrunN rd s i)
def MrunE (rd : Nat → Int32) (s : Nat → Int32) (r : Nat) : Nat → Nat → Nat
  | i, 0 => i
  | i, m + 1 => if MevN rd (3 * i) (MrunN rd s i) = 0 then i else MrunE rd s r (i + 1) m
theorem MrunE_go {rd s : Nat → Int32} {r i : Nat} (hi : i < r) : MrunE rd s r i (r - i) = if MevN rd (3 * i) (MrunN rd s i) = 0 then i else MrunE rd s r (i + 1) (r - (i + 1)) := by
  rw [show r - i = (r - (i + 1)) + 1 by omega]; rfl
/-- what the failing event, or none, leaves -/
def MrunS (rd : Nat → Int32) (s : Nat → Int32) (r : Nat) : Nat → Int32 := if MrunE rd s r 0 r < r then MrunN rd s (MrunE rd s r 0 r + 1) else MrunN rd s (MrunE rd s r 0 r)
def MrunM (j n : Nat) (m : MSt) : MSt :=
  if (rFin (mbf m) n (mrd m)).2.1 = 0 then sMth (MR (sMth m (nI 0)) (rFin (mbf m) n (mrd m))) (nI 1)
  else sMs (sMln (sMsm (sMsv (MR (sMth m (nI 0)) (rFin (mbf m) n (mrd m))) (Msv (ms m) (msv m) j)) (nI (kSz j))) (nI 0)) (MrunS (rFin (mbf m) n (mrd m)).2.2.2 (ms m) (rFin (mbf m) n (mrd m)).2.2.1)
def MrunR (n : Nat) (m : MSt) : Nat :=
  if (rFin (mbf m) n (mrd m)).2.1 = 0 then 0 else MrunE (rFin (mbf m) n (mrd m)).2.2.2 (ms m) (rFin (mbf m) n (mrd m)).2.2.1 0 (rFin (mbf m) n (mrd m)).2.2.1

theorem dSh_n64 {x z : Int32} (hz : ¬ z = 0) : vf_n64 (FP.ddiv (FP.i2d x) (FP.i2d z)) := Jvm.Free.Fl.ddiv_out (Jvm.Free.Fl.i2d_fin x).noNaN (Jvm.Free.Fl.i2d_fin z) (Jvm.Free.Fl.i2d_nz hz)
def dSh (x y : Int32) : UInt64 := if x + y = 0 then FP.dconst1 else FP.ddiv (FP.i2d x) (FP.i2d (x + y))
