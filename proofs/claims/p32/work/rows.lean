section
/-! states, answers and helpers that stand on the kit alone -/
abbrev HSt : Type := (Nat → Int32) × (Nat → Int32) × (Nat → Int32) × Int32 × Int32 × Int32 × Int32 × Int32 × Int32 × Int32 × Int32 × Int32
abbrev hL (x : HSt) : Nat → Int32 := x.1
abbrev hR (x : HSt) : Nat → Int32 := x.2.1
abbrev hC (x : HSt) : Nat → Int32 := x.2.2.1
abbrev hop (x : HSt) : Int32 := x.2.2.2.1
abbrev hqk (x : HSt) : Int32 := x.2.2.2.2.1
abbrev hf1 (x : HSt) : Int32 := x.2.2.2.2.2.1
abbrev hf2 (x : HSt) : Int32 := x.2.2.2.2.2.2.1
abbrev hfd (x : HSt) : Int32 := x.2.2.2.2.2.2.2.1
abbrev hpt (x : HSt) : Int32 := x.2.2.2.2.2.2.2.2.1
abbrev has (x : HSt) : Int32 := x.2.2.2.2.2.2.2.2.2.1
abbrev hmn (x : HSt) : Int32 := x.2.2.2.2.2.2.2.2.2.2.1
abbrev hsn (x : HSt) : Int32 := x.2.2.2.2.2.2.2.2.2.2.2
abbrev sHL (x : HSt) (v : Nat → Int32) : HSt := (v, x.2)
abbrev sHR (x : HSt) (v : Nat → Int32) : HSt := (x.1, v, x.2.2)
abbrev sHC (x : HSt) (v : Nat → Int32) : HSt := (x.1, x.2.1, v, x.2.2.2)
abbrev sHop (x : HSt) (v : Int32) : HSt := (x.1, x.2.1, x.2.2.1, v, x.2.2.2.2)
abbrev sHqk (x : HSt) (v : Int32) : HSt := (x.1, x.2.1, x.2.2.1, x.2.2.2.1, v, x.2.2.2.2.2)
abbrev sHf1 (x : HSt) (v : Int32) : HSt := (x.1, x.2.1, x.2.2.1, x.2.2.2.1, x.2.2.2.2.1, v, x.2.2.2.2.2.2)
abbrev sHf2 (x : HSt) (v : Int32) : HSt := (x.1, x.2.1, x.2.2.1, x.2.2.2.1, x.2.2.2.2.1, x.2.2.2.2.2.1, v, x.2.2.2.2.2.2.2)
abbrev sHfd (x : HSt) (v : Int32) : HSt := (x.1, x.2.1, x.2.2.1, x.2.2.2.1, x.2.2.2.2.1, x.2.2.2.2.2.1, x.2.2.2.2.2.2.1, v, x.2.2.2.2.2.2.2.2)
abbrev sHpt (x : HSt) (v : Int32) : HSt := (x.1, x.2.1, x.2.2.1, x.2.2.2.1, x.2.2.2.2.1, x.2.2.2.2.2.1, x.2.2.2.2.2.2.1, x.2.2.2.2.2.2.2.1, v, x.2.2.2.2.2.2.2.2.2)
abbrev sHas (x : HSt) (v : Int32) : HSt := (x.1, x.2.1, x.2.2.1, x.2.2.2.1, x.2.2.2.2.1, x.2.2.2.2.2.1, x.2.2.2.2.2.2.1, x.2.2.2.2.2.2.2.1, x.2.2.2.2.2.2.2.2.1, v, x.2.2.2.2.2.2.2.2.2.2)
abbrev sHmn (x : HSt) (v : Int32) : HSt := (x.1, x.2.1, x.2.2.1, x.2.2.2.1, x.2.2.2.2.1, x.2.2.2.2.2.1, x.2.2.2.2.2.2.1, x.2.2.2.2.2.2.2.1, x.2.2.2.2.2.2.2.2.1, x.2.2.2.2.2.2.2.2.2.1, v, x.2.2.2.2.2.2.2.2.2.2.2)
abbrev sHsn (x : HSt) (v : Int32) : HSt := (x.1, x.2.1, x.2.2.1, x.2.2.2.1, x.2.2.2.2.1, x.2.2.2.2.2.1, x.2.2.2.2.2.2.1, x.2.2.2.2.2.2.2.1, x.2.2.2.2.2.2.2.2.1, x.2.2.2.2.2.2.2.2.2.1, x.2.2.2.2.2.2.2.2.2.2.1, v)
abbrev MSt : Type := Int32 × (Nat → Int32) × (Nat → Int32) × (Nat → Int32) × Int32 × (Nat → Int32) × Int32 × Int32 × Int32 × (Nat → Int32) × Int32 × Int64
abbrev mth (x : MSt) : Int32 := x.1
abbrev ms (x : MSt) : Nat → Int32 := x.2.1
abbrev mas (x : MSt) : Nat → Int32 := x.2.2.1
abbrev msv (x : MSt) : Nat → Int32 := x.2.2.2.1
abbrev msm (x : MSt) : Int32 := x.2.2.2.2.1
abbrev mbf (x : MSt) : Nat → Int32 := x.2.2.2.2.2.1
abbrev mln (x : MSt) : Int32 := x.2.2.2.2.2.2.1
abbrev mat (x : MSt) : Int32 := x.2.2.2.2.2.2.2.1
abbrev miw (x : MSt) : Int32 := x.2.2.2.2.2.2.2.2.1
abbrev mrd (x : MSt) : Nat → Int32 := x.2.2.2.2.2.2.2.2.2.1
abbrev mrm (x : MSt) : Int32 := x.2.2.2.2.2.2.2.2.2.2.1
abbrev mhs (x : MSt) : Int64 := x.2.2.2.2.2.2.2.2.2.2.2
abbrev sMth (x : MSt) (v : Int32) : MSt := (v, x.2)
abbrev sMs (x : MSt) (v : Nat → Int32) : MSt := (x.1, v, x.2.2)
abbrev sMas (x : MSt) (v : Nat → Int32) : MSt := (x.1, x.2.1, v, x.2.2.2)
abbrev sMsv (x : MSt) (v : Nat → Int32) : MSt := (x.1, x.2.1, x.2.2.1, v, x.2.2.2.2)
abbrev sMsm (x : MSt) (v : Int32) : MSt := (x.1, x.2.1, x.2.2.1, x.2.2.2.1, v, x.2.2.2.2.2)
abbrev sMbf (x : MSt) (v : Nat → Int32) : MSt := (x.1, x.2.1, x.2.2.1, x.2.2.2.1, x.2.2.2.2.1, v, x.2.2.2.2.2.2)
abbrev sMln (x : MSt) (v : Int32) : MSt := (x.1, x.2.1, x.2.2.1, x.2.2.2.1, x.2.2.2.2.1, x.2.2.2.2.2.1, v, x.2.2.2.2.2.2.2)
abbrev sMat (x : MSt) (v : Int32) : MSt := (x.1, x.2.1, x.2.2.1, x.2.2.2.1, x.2.2.2.2.1, x.2.2.2.2.2.1, x.2.2.2.2.2.2.1, v, x.2.2.2.2.2.2.2.2)
abbrev sMiw (x : MSt) (v : Int32) : MSt := (x.1, x.2.1, x.2.2.1, x.2.2.2.1, x.2.2.2.2.1, x.2.2.2.2.2.1, x.2.2.2.2.2.2.1, x.2.2.2.2.2.2.2.1, v, x.2.2.2.2.2.2.2.2.2)
abbrev sMrd (x : MSt) (v : Nat → Int32) : MSt := (x.1, x.2.1, x.2.2.1, x.2.2.2.1, x.2.2.2.2.1, x.2.2.2.2.2.1, x.2.2.2.2.2.2.1, x.2.2.2.2.2.2.2.1, x.2.2.2.2.2.2.2.2.1, v, x.2.2.2.2.2.2.2.2.2.2)
abbrev sMrm (x : MSt) (v : Int32) : MSt := (x.1, x.2.1, x.2.2.1, x.2.2.2.1, x.2.2.2.2.1, x.2.2.2.2.2.1, x.2.2.2.2.2.2.1, x.2.2.2.2.2.2.2.1, x.2.2.2.2.2.2.2.2.1, x.2.2.2.2.2.2.2.2.2.1, v, x.2.2.2.2.2.2.2.2.2.2.2)
abbrev sMhs (x : MSt) (v : Int64) : MSt := (x.1, x.2.1, x.2.2.1, x.2.2.2.1, x.2.2.2.2.1, x.2.2.2.2.2.1, x.2.2.2.2.2.2.1, x.2.2.2.2.2.2.2.1, x.2.2.2.2.2.2.2.2.1, x.2.2.2.2.2.2.2.2.2.1, x.2.2.2.2.2.2.2.2.2.2.1, v)
abbrev TSt : Type := (Nat → Int32) × Int32
abbrev tsg (x : TSt) : Nat → Int32 := x.1
abbrev tln (x : TSt) : Int32 := x.2
abbrev sTsg (x : TSt) (v : Nat → Int32) : TSt := (v, x.2)
abbrev sTln (x : TSt) (v : Int32) : TSt := (x.1, v)
abbrev KSt : Type := Int32 × Int32
abbrev kod (x : KSt) : Int32 := x.1
abbrev ksz (x : KSt) : Int32 := x.2
abbrev sKod (x : KSt) (v : Int32) : KSt := (v, x.2)
abbrev sKsz (x : KSt) (v : Int32) : KSt := (x.1, v)
theorem k_inc1 (a : Nat) : nI a + Int32.ofInt 1 = nI (a + 1) := by rw [show Int32.ofInt 1 = nI 1 from by decide]; exact nI_add a 1
theorem k_inc4 (a : Nat) : nI a + Int32.ofInt 4 = nI (a + 4) := by rw [show Int32.ofInt 4 = nI 4 from by decide]; exact nI_add a 4
theorem k_inci1 (x : Int32) : x + Int32.ofInt 1 = x + nI 1 := by rw [show Int32.ofInt 1 = nI 1 from by decide]
/-- an answer 0 or 1 -/
def bI (P : Prop) [Decidable P] : Int32 := if P then nI 1 else nI 0
theorem bI_t {P : Prop} [Decidable P] (h : P) : bI P = nI 1 := if_pos h
theorem bI_f {P : Prop} [Decidable P] (h : ¬ P) : bI P = nI 0 := if_neg h
theorem bI_ne {P : Prop} [Decidable P] : ¬ bI P = 0 ↔ P := by
  by_cases h : P
  · rw [bI_t h]; exact ⟨fun _ => h, fun _ => by decide⟩
  · rw [bI_f h]; exact ⟨fun z => absurd (by decide) z, fun z => absurd z h⟩
theorem bI_eq {P : Prop} [Decidable P] : bI P = 0 ↔ ¬ P := by
  by_cases h : P
  · rw [bI_t h]; exact ⟨fun z => absurd z (by decide), fun z => absurd h z⟩
  · rw [bI_f h]; exact ⟨fun _ => h, fun _ => by decide⟩
theorem bI_nar {P : Prop} [Decidable P] : narrow .boolean (.int (bI P)) = .int (bI P) := by
  by_cases h : P
  · rw [bI_t h]; rfl
  · rw [bI_f h]; rfl
theorem bI_fits {P : Prop} [Decidable P] : fits .boolean (.int (bI P)) = true := by
  by_cases h : P
  · rw [bI_t h]; rfl
  · rw [bI_f h]; rfl
abbrev Hcnt (c : Nat) (h : HSt) : HSt := sHC h (upd (hC h) c (hC h c + nI 1))
def Hcall (k : Nat) (h : HSt) : HSt := sHC (sHR h (upd (hR h) k (hfd h))) (upd (hC h) 5 (hC h 5 + nI 1))
def Hhear (k : Nat) (h : HSt) : HSt := if ¬ hL h k ≤ 0 then Hcall k h else h
def Hseat (k : Nat) (h : HSt) : HSt := Hhear k (sHL h (upd (hL h) k (hL h k + nI 1)))
def Hask (k : Nat) (h : HSt) : HSt := if ¬ hL h k ≤ 0 then Hcall k (Hcnt 4 h) else Hcnt 4 h
theorem Hask_hear (k : Nat) (h : HSt) : Hask k h = Hhear k (Hcnt 4 h) := rfl
def Hfare2 (k : Nat) (h : HSt) : HSt := if hR h k ≤ hpt h then h else Hask k (sHR h (upd (hR h) k (hpt h)))
def Hfare (k : Nat) (h : HSt) : HSt := if hqk h = 0 then Hfare2 k h else if ¬ hL h k ≤ 0 then Hfare2 k h else sHR h (upd (hR h) k (nI 0))
def Hunseat (k b : Nat) (h : HSt) : HSt := if b = 0 then sHL h (upd (hL h) k (hL h k - nI 1)) else Hfare k (sHL h (upd (hL h) k (hL h k - nI 1)))
def HaskN (h : HSt) : Nat → HSt
  | 0 => h
  | n + 1 => if ¬ hL (HaskN h n) n ≤ 0 then Hcall n (HaskN h n) else HaskN h n
def HaskAll (h : HSt) : HSt := HaskN (Hcnt 3 h) 48
abbrev Hopen (h : HSt) (r : Nat) : Prop := (hop h >>> (nI r &&& 31)) &&& nI 1 = nI 1
def Hturn (r : Nat) (h : HSt) : HSt := sHop h (hop h ^^^ (nI 1 <<< (nI r &&& 31)))
def Hchief (h : HSt) : Int32 := if hf2 h = 0 then (if hf1 h = 0 then nI 0 else nI 1) else nI 2
def Hent (f : Nat → Int32) : Nat → Nat
  | 0 => 0
  | n + 1 => if f n ≤ 0 then Hent f n else Hent f n + 1
def Hget (h : HSt) (c : Nat) : Nat → Int32
  | 0 => hop h
  | n + 1 => if hR h (n * 6 + c) ≤ 0 then Hget h c n else Hget h c n ||| (nI 1 <<< (nI n &&& 31))
def Hwant (h : HSt) (c : Nat) : Nat → Int32
  | 0 => nI 0
  | n + 1 => if ¬ hL h (n * 6 + c) ≤ 0 then Hwant h c n ||| (nI 1 <<< (nI n &&& 31)) else Hwant h c n
def HfadeN (R : Nat → Int32) : Nat → Nat → Int32
  | 0 => R
  | n + 1 => if HfadeN R n n ≤ 0 then HfadeN R n else upd (HfadeN R n) n (HfadeN R n n - nI 1)
def Hfade (h : HSt) : HSt := sHR h (HfadeN (hR h) 48)
def Htbq (h : HSt) : Int32 := if Hchief h = 0 then has h else nI 2 * has h
def Htk (h : HSt) : HSt := sHsn (Hfade (sHmn h (hmn h + nI 1))) (hsn (Hfade (sHmn h (hmn h + nI 1))) + nI 1)
theorem hsn_sHsn (h : HSt) (v : Int32) : hsn (sHsn h v) = v := rfl
def Hmin (h : HSt) : HSt := if hsn (Htk h) < Htbq (Htk h) then Htk h else HaskAll (sHsn (Htk h) (nI 0))
def HpassN (h : HSt) : Nat → HSt
  | 0 => h
  | n + 1 => Hmin (HpassN h n)
def HpassQ (h : HSt) : Nat → Nat
  | 0 => 0
  | n + 1 => if hsn (Htk (HpassN h n)) < Htbq (Htk (HpassN h n)) then HpassQ h n else HpassQ h n + 1
/-- Integer.bitCount, step by step -/
def bc1 (x : Int32) : Int32 := x - ((x.toUInt32 >>> ((nI 1).toUInt32 &&& Int32.toUInt32 31)).toInt32 &&& 1431655765)
def bc2 (x : Int32) : Int32 := (x &&& 858993459) + ((x.toUInt32 >>> ((nI 2).toUInt32 &&& Int32.toUInt32 31)).toInt32 &&& 858993459)
def bc3 (x : Int32) : Int32 := (x + (x.toUInt32 >>> ((nI 4).toUInt32 &&& Int32.toUInt32 31)).toInt32) &&& 252645135
def bc4 (x : Int32) : Int32 := x + (x.toUInt32 >>> ((nI 8).toUInt32 &&& Int32.toUInt32 31)).toInt32
def bc5 (x : Int32) : Int32 := x + (x.toUInt32 >>> ((nI 16).toUInt32 &&& Int32.toUInt32 31)).toInt32
def bc (x : Int32) : Int32 := bc5 (bc4 (bc3 (bc2 (bc1 x)))) &&& nI 63
def HperfC (C : Nat → Int32) (g w : Int32) : Nat → Int32 :=
  upd (upd (upd C 0 (C 0 + bc (g &&& w))) 1 ((upd C 0 (C 0 + bc (g &&& w))) 1 + bc (g &&& (w ^^^ (-1))))) 2 ((upd (upd C 0 (C 0 + bc (g &&& w))) 1 ((upd C 0 (C 0 + bc (g &&& w))) 1 + bc (g &&& (w ^^^ (-1))))) 2 + bc (w &&& (g ^^^ (-1))))
def Hperf (c : Nat) (h : HSt) : HSt := sHC h (HperfC (hC h) (Hget h c 8) (Hwant h c 8))
def HasksIn (h : HSt) : Int32 := if nI 1 < Htbq h - hsn h then Htbq h - hsn h else nI 1
def HfadesIn (k : Nat) (h : HSt) : Int32 := if ¬ hL h k ≤ 0 then (if HasksIn h ≤ hR h k then (if Htbq h ≤ hfd h then (-1) else HasksIn h + hfd h) else hR h k) else hR h k
def Hdist (h : HSt) (c sp : Nat) : Nat → Nat
  | 0 => 0
  | n + 1 => if ¬ hL h (n * 6 + c) ≤ 0 then Hdist h c sp n else if Hopen h n then Hdist h c sp n + 1 else if hR h (n * 6 + c) ≤ nI sp then Hdist h c sp n else Hdist h c sp n + 1
def Tok (sg : Nat → Int32) (n : Nat) : Prop := ∀ k, k < n → ∃ q, q < 65536 ∧ sg k = nI q
theorem Tok_cl {sg : Nat → Int32} {n k : Nat} (h : Tok sg n) (hk : k < n) : nI (sg k).toNatClampNeg = sg k ∧ (sg k).toNatClampNeg < 65536 := by
  obtain ⟨q, hq, e⟩ := h k hk
  rw [e, nI_clamp (by omega)]
  exact ⟨rfl, hq⟩
/-- the sign at k: behind the last one an end -/
def Tq (sg : Nat → Int32) (n k : Nat) : Nat := if n ≤ k then 59 else (sg k).toNatClampNeg
theorem Tq_lt {sg : Nat → Int32} {n : Nat} (h : Tok sg n) (k : Nat) : Tq sg n k < 65536 := by
  unfold Tq
  by_cases c : n ≤ k
  · rw [if_pos c]; decide
  · rw [if_neg c]; exact (Tok_cl h (by omega)).2
theorem Tq_lt31 {sg : Nat → Int32} {n : Nat} (h : Tok sg n) (k : Nat) : Tq sg n k < 2 ^ 31 := Nat.lt_of_lt_of_le (Tq_lt h k) (by decide)
theorem Tq_nar (q : Nat) (hq : q < 65536) : narrow .char (.int (nI q)) = .int (nI q) := (pk_charN hq).1
theorem Tq_vnar (q : Nat) (hq : q < 65536) : vp_nar .char (nI q) = nI q := by unfold vp_nar; rw [(pk_charN hq).1]
def SEv (q : Nat) : Nat := if ¬ q = 59 then 8 else 0
def SDig (q : Nat) : Nat := if 49 ≤ q ∧ q ≤ 53 then 5 else if ¬ q = 54 then (if 55 ≤ q ∧ q ≤ 57 then 7 else 8) else 6
def SLet (q : Nat) : Nat := if q = 99 ∨ q = 108 ∨ q = 115 then 1 else if q = 112 then 3 else if q = 116 then 4 else if q = 111 then 2 else 8
def Sta (s q : Nat) : Nat :=
  if s = 0 then SLet q else if s = 1 then (if 48 ≤ q ∧ q ≤ 55 then 3 else 8) else if s = 2 then (if 48 ≤ q ∧ q ≤ 55 then 7 else 8) else if s = 3 then (if 48 ≤ q ∧ q ≤ 53 then 7 else 8)
  else if s = 4 then SDig q else if s = 5 then (if 48 ≤ q ∧ q ≤ 57 then 7 else SEv q) else if s = 6 then (if ¬ q = 48 then SEv q else 7) else if s = 7 then SEv q else 8
theorem SEv_le (q : Nat) : SEv q ≤ 8 := by unfold SEv; split <;> omega
theorem SDig_le (q : Nat) : SDig q ≤ 8 := by unfold SDig; (repeat' split) <;> omega
theorem SLet_le (q : Nat) : SLet q ≤ 8 := by unfold SLet; (repeat' split) <;> omega
theorem Sta_le (s q : Nat) : Sta s q ≤ 8 := by
  have h1 := SEv_le q
  have h2 := SDig_le q
  have h3 := SLet_le q
  unfold Sta
  repeat' split
  all_goals omega
/-- the reader's state ahead of the sign i -/
def Sst (sg : Nat → Int32) (n : Nat) : Nat → Nat
  | 0 => 0
  | i + 1 => Sta (Sst sg n i) (Tq sg n i)
theorem Sst_le (sg : Nat → Int32) (n i : Nat) : Sst sg n i ≤ 8 := by cases i with
  | zero => exact Nat.zero_le _
  | succ i => exact Sta_le _ _
theorem Sst_lt (sg : Nat → Int32) (n i : Nat) : Sst sg n i < 2 ^ 31 := Nat.lt_of_le_of_lt (Sst_le sg n i) (by decide)
/-- the first wrong sign from i on, m signs ahead -/
def Tfw (sg : Nat → Int32) (n : Nat) : Nat → Nat → Nat
  | i, 0 => i
  | i, m + 1 => if ¬ Sst sg n (i + 1) = 8 then Tfw sg n (i + 1) m else i
theorem Tfw_go {sg : Nat → Int32} {n i : Nat} (hi : i < n) : Tfw sg n i (n - i) = if ¬ Sst sg n (i + 1) = 8 then Tfw sg n (i + 1) (n - (i + 1)) else i := by
  rw [show n - i = (n - (i + 1)) + 1 by omega]; rfl
def Tnum (sg : Nat → Int32) (n k : Nat) : Int32 := if ¬ Tq sg n (k + 1) = 59 then nI 10 * (nI (Tq sg n k) - nI 48) + (nI (Tq sg n (k + 1)) - nI 48) else nI (Tq sg n k) - nI 48
def Hbo (h : HSt) : Prop := (hqk h = nI 0 ∨ hqk h = nI 1) ∧ (hf1 h = nI 0 ∨ hf1 h = nI 1) ∧ (hf2 h = nI 0 ∨ hf2 h = nI 1)
theorem bo_nar {x : Int32} (h : x = nI 0 ∨ x = nI 1) : narrow .boolean (.int x) = .int x := by rcases h with rfl | rfl <;> rfl
theorem bo_fits {x : Int32} (h : x = nI 0 ∨ x = nI 1) : fits .boolean (.int x) = true := by rcases h with rfl | rfl <;> rfl
theorem k_b2 {b : Nat} (h : b < 2) : nI b = nI 0 ∨ nI b = nI 1 := by rcases (by omega : b = 0 ∨ b = 1) with rfl | rfl <;> simp
theorem k_D_set {A : Nat → Prop} {p a : Nat} {ws : va_W} {e0 e : va_E} (hD : va_D A (ws.set p (a, e0))) (hp : p < ws.length) : va_D A (ws.set p (a, e)) := by
  have h := hD.set (p := p) (a := a) (e0 := e0) (e := e) (by rw [List.getElem?_set_self hp])
  rw [List.set_set] at h
  exact h
theorem pm_swap {α : Type} {a b c : List α} : (a ++ (b ++ c)).Perm (b ++ (a ++ c)) := by
  classical exact List.perm_iff_count.mpr (fun x => by simp only [List.count_append]; omega)
theorem pm_ring {α : Type} {k hs s d x : List α} (h : hs.Perm (d ++ x)) : (k ++ (hs ++ s)).Perm ((d ++ s) ++ (k ++ x)) := by
  classical exact List.perm_iff_count.mpr (fun y => by have z := h.count_eq y; simp only [List.count_append] at z ⊢; omega)
theorem pm_ring2 {α : Type} {k hs s d x : List α} (h : hs.Perm (d ++ x)) : (k ++ (hs ++ s)).Perm ((s ++ d) ++ (k ++ x)) := by
  classical exact List.perm_iff_count.mpr (fun y => by have z := h.count_eq y; simp only [List.count_append] at z ⊢; omega)
def kOd (od sz : Nat) : Nat := if ¬ sz = 6 then od else (od + 1) % 6
def kSz (sz : Nat) : Nat := if ¬ sz = 6 then sz + 1 else 5 + 1
def kJ (od sz : Nat) : Nat := if ¬ sz = 6 then (od + sz) % 6 else ((od + 1) % 6 + 5) % 6
theorem kOd_lt {od sz : Nat} (h : od < 6) : kOd od sz < 6 := by unfold kOd; split <;> omega
theorem kSz_le {sz : Nat} (h : sz ≤ 6) : kSz sz ≤ 6 := by unfold kSz; split <;> omega
theorem k_bs {hs : Nat → HSt} {j0 : Nat} {h : HSt} (h1 : ∀ j, Hbo (hs j)) (h2 : Hbo h) : ∀ j, Hbo (va_up hs j0 h j) := fun j => by
  unfold va_up
  split
  · exact h2
  · exact h1 j
def ckR (x : Int32) : Nat := if x < 0 then 1 else if x < nI 8 then 0 else 1
def ckC (x : Int32) : Nat := if x < 0 then 1 else if x < nI 6 then 0 else 1
def ckM (x : Int32) : Nat := if x < nI 1 then 1 else if x ≤ nI 60 then 0 else 1
theorem ck_nat {x : Int32} {n : Nat} (hn : n < 2 ^ 31) (h : ¬ x < 0) (h2 : x < nI n) : ∃ k : Nat, k < n ∧ x = nI k := by
  obtain ⟨j, hj, rfl⟩ := nI_of h
  exact ⟨j, (nI_ltI hj hn).mp h2, rfl⟩
theorem ckR_ok {x : Int32} (h : ckR x = 0) : ∃ k : Nat, k < 8 ∧ x = nI k := by
  unfold ckR at h
  by_cases h1 : x < 0
  · rw [if_pos h1] at h; cases h
  · rw [if_neg h1] at h
    by_cases h2 : x < nI 8
    · exact ck_nat (by decide) h1 h2
    · rw [if_neg h2] at h; cases h
theorem ckC_ok {x : Int32} (h : ckC x = 0) : ∃ k : Nat, k < 6 ∧ x = nI k := by
  unfold ckC at h
  by_cases h1 : x < 0
  · rw [if_pos h1] at h; cases h
  · rw [if_neg h1] at h
    by_cases h2 : x < nI 6
    · exact ck_nat (by decide) h1 h2
    · rw [if_neg h2] at h; cases h
theorem ckM_ok {x : Int32} (h : ckM x = 0) : ∃ k : Nat, (k ≤ 60 ∧ 1 ≤ k) ∧ x = nI k := by
  unfold ckM at h
  by_cases h1 : x < nI 1
  · rw [if_pos h1] at h; cases h
  · rw [if_neg h1] at h
    by_cases h2 : x ≤ nI 60
    · have h0 : ¬ x < 0 := fun z => h1 (Int32.lt_of_lt_of_le z (nI_pos' (by decide)))
      obtain ⟨j, hj, rfl⟩ := nI_of h0
      refine ⟨j, ⟨(nI_leI hj (by decide)).mp h2, ?_⟩, rfl⟩
      exact Nat.le_of_not_lt fun z => h1 ((nI_ltI hj (by decide)).mpr z)
    · rw [if_neg h2] at h; cases h
theorem ckR_n1 {x : Int32} (c : x < 0) : nI 0 = bI (ckR x = 0) := (bI_f (by unfold ckR; rw [if_pos c]; decide)).symm
theorem ckR_n2 {x : Int32} (c : ¬ x < 0) (d : nI 8 ≤ x) : nI 0 = bI (ckR x = 0) := (bI_f (by unfold ckR; rw [if_neg c, if_neg (Int32.not_lt.mpr d)]; decide)).symm
theorem ckR_y {x : Int32} (c : ¬ x < 0) (d : ¬ nI 8 ≤ x) : nI 1 = bI (ckR x = 0) := (bI_t (by unfold ckR; rw [if_neg c, if_pos (Int32.not_le.mp d)])).symm
theorem ckR_1 {x : Int32} (c : ¬ ckR x = 0) : ckR x = 1 := by
  unfold ckR at c ⊢
  by_cases h1 : x < 0
  · rw [if_pos h1]
  · rw [if_neg h1] at c ⊢
    by_cases h2 : x < nI 8
    · rw [if_pos h2] at c; exact absurd rfl c
    · rw [if_neg h2]
theorem ckR_in {k : Nat} (h : k < 8) : ckR (nI k) = 0 := by
  unfold ckR
  rw [if_neg (nI_pos (by omega)), if_pos ((nI_ltI (by omega) (by decide)).mpr h)]
theorem ckC_n1 {x : Int32} (c : x < 0) : nI 0 = bI (ckC x = 0) := (bI_f (by unfold ckC; rw [if_pos c]; decide)).symm
theorem ckC_n2 {x : Int32} (c : ¬ x < 0) (d : nI 6 ≤ x) : nI 0 = bI (ckC x = 0) := (bI_f (by unfold ckC; rw [if_neg c, if_neg (Int32.not_lt.mpr d)]; decide)).symm
theorem ckC_y {x : Int32} (c : ¬ x < 0) (d : ¬ nI 6 ≤ x) : nI 1 = bI (ckC x = 0) := (bI_t (by unfold ckC; rw [if_neg c, if_pos (Int32.not_le.mp d)])).symm
theorem ckC_1 {x : Int32} (c : ¬ ckC x = 0) : ckC x = 1 := by
  unfold ckC at c ⊢
  by_cases h1 : x < 0
  · rw [if_pos h1]
  · rw [if_neg h1] at c ⊢
    by_cases h2 : x < nI 6
    · rw [if_pos h2] at c; exact absurd rfl c
    · rw [if_neg h2]
theorem ckC_in {k : Nat} (h : k < 6) : ckC (nI k) = 0 := by
  unfold ckC
  rw [if_neg (nI_pos (by omega)), if_pos ((nI_ltI (by omega) (by decide)).mpr h)]
def pl (r c : Int32) : Nat := r.toNatClampNeg * 6 + c.toNatClampNeg
theorem pl_eq {row con : Int32} {r c : Nat} (hr : r < 8) (hc : c < 6) (h1 : row = nI r) (h2 : con = nI c) : pl row con = r * 6 + c := by
  unfold pl
  rw [h1, h2, nI_clamp (by omega), nI_clamp (by omega)]
theorem cl_eq {x : Int32} {n : Nat} (h : x = nI n) (hn : n < 2 ^ 31) : x.toNatClampNeg = n := by rw [h, nI_clamp hn]
def cdPair (row con : Int32) : Nat := if ckR row = 0 then (if ckC con = 0 then 0 else 1) else 1
def cdCome (h : HSt) (row con : Int32) : Nat := if ckR row = 0 then (if ckC con = 0 then (if ¬ nI 9 ≤ hL h (pl row con) then 0 else 2) else 1) else 1
def cdLeave (h : HSt) (row con : Int32) : Nat := if ckR row = 0 then (if ckC con = 0 then (if ¬ hL h (pl row con) ≤ 0 then 0 else 2) else 1) else 1
def cdTimes (a b c : Int32) : Nat := if a < nI 2 then 1 else if a ≤ nI 60 then (if b < nI 1 then 1 else if b ≤ nI 10 then (if c < nI 1 then 1 else if c ≤ nI 30 then 0 else 1) else 1) else 1
def cdPres (u : Int32) : Nat := if u = nI 1 then 0 else if u = nI 2 then 0 else 1
def cdCount (x : Int32) : Nat := if x < 0 then 1 else if x < nI 6 then 0 else 1
def cdDist (con mins : Int32) : Nat := if ckC con = 0 then (if ckM mins = 0 then 0 else 2) else 1
def cdApp (n : Nat) (x : Int32) : Nat := if x < nI 33 then 1 else if x ≤ nI 126 then (if n < 60 then 0 else 2) else 1
def UOpen (row : Int32) (b : Nat) (h : HSt) : HSt := if bI (Hopen h row.toNatClampNeg) = nI b then h else Hturn row.toNatClampNeg h
def UTimes (a b c : Int32) (h : HSt) : HSt := sHas (sHpt (sHfd h a) b) c
def UPres (u : Int32) (b : Nat) (h : HSt) : HSt := if ¬ u = nI 1 then sHf2 h (nI b) else sHf1 h (nI b)
def mixI (x : Int64) (v : Int32) : Int64 := 31 * x + v.toInt64
def DgC (f : Nat → Int32) (x : Int64) : Nat → Int64
  | 0 => x
  | n + 1 => mixI (DgC f x n) (f n)
def DgM (h : HSt) (x : Int64) : Nat → Int64
  | 0 => x
  | n + 1 => mixI (mixI (DgM h x n) (Hget h n 8)) (Hwant h n 8)
def DgK (h : HSt) (r : Nat) (x : Int64) : Nat → Int64
  | 0 => x
  | n + 1 => mixI (mixI (mixI (DgK h r x n) (hL h (r * 6 + n))) (hR h (r * 6 + n))) (HfadesIn (r * 6 + n) h)
def DgRow (h : HSt) (x : Int64) (r : Nat) : Int64 := DgK h r (mixI x (bI (Hopen h r))) 6
def DgR (h : HSt) (x : Int64) : Nat → Int64
  | 0 => x
  | n + 1 => DgRow h (DgR h x n) n
def Udig (h : HSt) : Int64 := DgR h (DgM h (DgC (hC h) (mixI (mixI (mixI (mixI (mixI 4701 (hmn h)) (hsn h)) (Hchief h)) (nI (Hent (hR h) 48))) (HasksIn h)) 6) 6) 8
/-- an event stands at k: its row, concert or number are there -/
def evA (sg : Nat → Int32) (n k : Nat) : Prop := (48 ≤ Tq sg n (k + 1) ∧ Tq sg n (k + 1) ≤ 55) ∧ 48 ≤ Tq sg n (k + 2) ∧ Tq sg n (k + 2) ≤ 53
def evOK (sg : Nat → Int32) (n k : Nat) : Prop :=
  (Tq sg n k = 99 ∧ evA sg n k) ∨ (Tq sg n k = 108 ∧ evA sg n k) ∨ (Tq sg n k = 115 ∧ evA sg n k) ∨ (Tq sg n k = 112 ∧ 48 ≤ Tq sg n (k + 1) ∧ Tq sg n (k + 1) ≤ 53)
  ∨ (Tq sg n k = 116 ∧ ∃ N : Nat, (N ≤ 60 ∧ 1 ≤ N) ∧ Tnum sg n (k + 1) = nI N) ∨ (Tq sg n k = 111 ∧ 48 ≤ Tq sg n (k + 1) ∧ Tq sg n (k + 1) ≤ 55)
abbrev dg (sg : Nat → Int32) (n k : Nat) : Nat := Tq sg n k - 48
abbrev pk2 (sg : Nat → Int32) (n k : Nat) : Nat := (Tq sg n (k + 1) - 48) * 6 + (Tq sg n (k + 2) - 48)
def Udo (sg : Nat → Int32) (n k : Nat) (h : HSt) : HSt :=
  if Tq sg n k = 99 then (if ¬ nI 9 ≤ hL h (pk2 sg n k) then Hseat (pk2 sg n k) h else h) else if Tq sg n k = 108 then (if ¬ hL h (pk2 sg n k) ≤ 0 then Hunseat (pk2 sg n k) 1 h else h) else if Tq sg n k = 115 then (if ¬ hL h (pk2 sg n k) ≤ 0 then Hunseat (pk2 sg n k) 0 h else h)
  else if Tq sg n k = 112 then Hperf (Tq sg n (k + 1) - 48) h else if Tq sg n k = 116 then HpassN h (Tnum sg n (k + 1)).toNatClampNeg else Hturn (Tq sg n (k + 1) - 48) h
/-- whether its method would not throw -/
abbrev UdoB (sg : Nat → Int32) (n k : Nat) (h : HSt) : Prop :=
  (Tq sg n k = 99 ∧ ¬ nI 9 ≤ hL h (pk2 sg n k)) ∨ ((Tq sg n k = 108 ∨ Tq sg n k = 115) ∧ ¬ hL h (pk2 sg n k) ≤ 0) ∨ (¬ Tq sg n k = 99 ∧ ¬ Tq sg n k = 108 ∧ ¬ Tq sg n k = 115)
theorem UdoB_c {sg : Nat → Int32} {n k : Nat} {h : HSt} (e : Tq sg n k = 99) : UdoB sg n k h ↔ ¬ nI 9 ≤ hL h (pk2 sg n k) := by simp [UdoB, e]
theorem UdoB_l {sg : Nat → Int32} {n k : Nat} {h : HSt} (e : Tq sg n k = 108) : UdoB sg n k h ↔ ¬ hL h (pk2 sg n k) ≤ 0 := by simp [UdoB, e]
theorem UdoB_s {sg : Nat → Int32} {n k : Nat} {h : HSt} (e : Tq sg n k = 115) : UdoB sg n k h ↔ ¬ hL h (pk2 sg n k) ≤ 0 := by simp [UdoB, e]
theorem UdoB_o {sg : Nat → Int32} {n k : Nat} {h : HSt} (h1 : ¬ Tq sg n k = 99) (h2 : ¬ Tq sg n k = 108) (h3 : ¬ Tq sg n k = 115) : UdoB sg n k h := Or.inr (Or.inr ⟨h1, h2, h3⟩)
theorem Udo_id {sg : Nat → Int32} {n k : Nat} {h : HSt} (c : ¬ UdoB sg n k h) : Udo sg n k h = h := by
  have c1 : ¬ (Tq sg n k = 99 ∧ ¬ nI 9 ≤ hL h (pk2 sg n k)) := fun z => c (Or.inl z)
  have c2 : ¬ ((Tq sg n k = 108 ∨ Tq sg n k = 115) ∧ ¬ hL h (pk2 sg n k) ≤ 0) := fun z => c (Or.inr (Or.inl z))
  have c3 : ¬ (¬ Tq sg n k = 99 ∧ ¬ Tq sg n k = 108 ∧ ¬ Tq sg n k = 115) := fun z => c (Or.inr (Or.inr z))
  unfold Udo
  by_cases e1 : Tq sg n k = 99
  · rw [if_pos e1]
    by_cases e : ¬ nI 9 ≤ hL h (pk2 sg n k)
    · exact absurd ⟨e1, e⟩ c1
    · rw [if_neg e]
  · rw [if_neg e1]
    by_cases e2 : Tq sg n k = 108
    · rw [if_pos e2]
      by_cases e : ¬ hL h (pk2 sg n k) ≤ 0
      · exact absurd ⟨Or.inl e2, e⟩ c2
      · rw [if_neg e]
    · rw [if_neg e2]
      by_cases e3 : Tq sg n k = 115
      · rw [if_pos e3]
        by_cases e : ¬ hL h (pk2 sg n k) ≤ 0
        · exact absurd ⟨Or.inr e3, e⟩ c2
        · rw [if_neg e]
      · exact absurd ⟨e1, e2, e3⟩ c3
theorem bI_iff {P Q : Prop} [Decidable P] [Decidable Q] (h : P ↔ Q) : bI P = bI Q := by
  unfold bI
  by_cases c : P
  · rw [if_pos c, if_pos (h.mp c)]
  · rw [if_neg c, if_neg (fun z => c (h.mpr z))]
def Hsm (h h' : HSt) : Prop := hqk h' = hqk h ∧ hf1 h' = hf1 h ∧ hf2 h' = hf2 h
theorem Hsm.rf (h : HSt) : Hsm h h := ⟨rfl, rfl, rfl⟩
theorem Hsm.tr {a b c : HSt} (h1 : Hsm a b) (h2 : Hsm b c) : Hsm a c := ⟨h2.1.trans h1.1, h2.2.1.trans h1.2.1, h2.2.2.trans h1.2.2⟩
theorem Hbo_sm {h h' : HSt} (hb : Hbo h) (e : Hsm h h') : Hbo h' := by
  obtain ⟨e1, e2, e3⟩ := e
  unfold Hbo
  rw [e1, e2, e3]; exact hb
theorem HL_sm (h : HSt) (F : Nat → Int32) : Hsm h (sHL h F) := ⟨rfl, rfl, rfl⟩
theorem HR_sm (h : HSt) (F : Nat → Int32) : Hsm h (sHR h F) := ⟨rfl, rfl, rfl⟩
theorem HC_sm (h : HSt) (F : Nat → Int32) : Hsm h (sHC h F) := ⟨rfl, rfl, rfl⟩
theorem Hop_sm (h : HSt) (v : Int32) : Hsm h (sHop h v) := ⟨rfl, rfl, rfl⟩
theorem Hmn_sm (h : HSt) (v : Int32) : Hsm h (sHmn h v) := ⟨rfl, rfl, rfl⟩
theorem Hsn_sm (h : HSt) (v : Int32) : Hsm h (sHsn h v) := ⟨rfl, rfl, rfl⟩
theorem Hcall_sm (k : Nat) (h : HSt) : Hsm h (Hcall k h) := (HR_sm h _).tr (HC_sm _ _)
theorem Hhear_sm (k : Nat) (h : HSt) : Hsm h (Hhear k h) := by
  unfold Hhear
  by_cases c : ¬ hL h k ≤ 0
  · rw [if_pos c]; exact Hcall_sm k h
  · rw [if_neg c]; exact Hsm.rf h
theorem Hseat_sm (k : Nat) (h : HSt) : Hsm h (Hseat k h) := (HL_sm h _).tr (Hhear_sm k _)
theorem Hask_sm (k : Nat) (h : HSt) : Hsm h (Hask k h) := by
  unfold Hask
  by_cases c : ¬ hL h k ≤ 0
  · rw [if_pos c]; exact (HC_sm h _).tr (Hcall_sm k _)
  · rw [if_neg c]; exact HC_sm h _
theorem Hfare2_sm (k : Nat) (h : HSt) : Hsm h (Hfare2 k h) := by
  unfold Hfare2
  by_cases c : hR h k ≤ hpt h
  · rw [if_pos c]; exact Hsm.rf h
  · rw [if_neg c]; exact (HR_sm h _).tr (Hask_sm k _)
theorem Hfare_sm (k : Nat) (h : HSt) : Hsm h (Hfare k h) := by
  unfold Hfare
  by_cases c : hqk h = 0
  · rw [if_pos c]; exact Hfare2_sm k h
  · rw [if_neg c]
    by_cases d : ¬ hL h k ≤ 0
    · rw [if_pos d]; exact Hfare2_sm k h
    · rw [if_neg d]; exact HR_sm h _
theorem Hunseat_sm (k b : Nat) (h : HSt) : Hsm h (Hunseat k b h) := by
  unfold Hunseat
  by_cases c : b = 0
  · rw [if_pos c]; exact HL_sm h _
  · rw [if_neg c]; exact (HL_sm h _).tr (Hfare_sm k _)
theorem HaskN_sm (h : HSt) (n : Nat) : Hsm h (HaskN h n) := by
  induction n with
  | zero => exact Hsm.rf h
  | succ n ih =>
    show Hsm h (if ¬ hL (HaskN h n) n ≤ 0 then Hcall n (HaskN h n) else HaskN h n)
    by_cases c : ¬ hL (HaskN h n) n ≤ 0
    · rw [if_pos c]; exact ih.tr (Hcall_sm n _)
    · rw [if_neg c]; exact ih
theorem HaskAll_sm (h : HSt) : Hsm h (HaskAll h) := (HC_sm h _).tr (HaskN_sm _ 48)
theorem Hfade_sm (h : HSt) : Hsm h (Hfade h) := HR_sm h _
theorem Htk_sm (h : HSt) : Hsm h (Htk h) := ((Hmn_sm h _).tr (Hfade_sm _)).tr (Hsn_sm _ _)
theorem Hmin_sm (h : HSt) : Hsm h (Hmin h) := by
  unfold Hmin
  by_cases c : hsn (Htk h) < Htbq (Htk h)
  · rw [if_pos c]; exact Htk_sm h
  · rw [if_neg c]; exact (Htk_sm h).tr ((Hsn_sm _ _).tr (HaskAll_sm _))
theorem HpassN_sm (h : HSt) (n : Nat) : Hsm h (HpassN h n) := by
  induction n with
  | zero => exact Hsm.rf h
  | succ n ih => exact ih.tr (Hmin_sm _)
theorem Hperf_sm (c : Nat) (h : HSt) : Hsm h (Hperf c h) := HC_sm h _
theorem Hturn_sm (r : Nat) (h : HSt) : Hsm h (Hturn r h) := Hop_sm h _
theorem Udo_sm (sg : Nat → Int32) (n k : Nat) (h : HSt) : Hsm h (Udo sg n k h) := by
  unfold Udo
  by_cases c1 : Tq sg n k = 99
  · rw [if_pos c1]
    by_cases d : ¬ nI 9 ≤ hL h (pk2 sg n k)
    · rw [if_pos d]; exact Hseat_sm _ h
    · rw [if_neg d]; exact Hsm.rf h
  rw [if_neg c1]
  by_cases c2 : Tq sg n k = 108
  · rw [if_pos c2]
    by_cases d : ¬ hL h (pk2 sg n k) ≤ 0
    · rw [if_pos d]; exact Hunseat_sm _ _ h
    · rw [if_neg d]; exact Hsm.rf h
  rw [if_neg c2]
  by_cases c3 : Tq sg n k = 115
  · rw [if_pos c3]
    by_cases d : ¬ hL h (pk2 sg n k) ≤ 0
    · rw [if_pos d]; exact Hunseat_sm _ _ h
    · rw [if_neg d]; exact Hsm.rf h
  rw [if_neg c3]
  by_cases c4 : Tq sg n k = 112
  · rw [if_pos c4]; exact Hperf_sm _ h
  rw [if_neg c4]
  by_cases c5 : Tq sg n k = 116
  · rw [if_pos c5]; exact HpassN_sm h _
  rw [if_neg c5]; exact Hturn_sm _ h
/-- from the sign i on, m signs ahead, d events done -/
def Ufin (sg : Nat → Int32) (n : Nat) : Nat → Nat → HSt → Nat → HSt × Nat
  | _, 0, h, d => (h, d)
  | i, m + 1, h, d => if i = 0 ∨ Tq sg n (i - 1) = 59 then (if UdoB sg n i h then Ufin sg n (i + 1) m (Udo sg n i h) (d + 1) else (h, d)) else Ufin sg n (i + 1) m h d
theorem Ufin_go {sg : Nat → Int32} {n i : Nat} (hi : i < n) (h : HSt) (d : Nat) : Ufin sg n i (n - i) h d = if i = 0 ∨ Tq sg n (i - 1) = 59 then (if UdoB sg n i h then Ufin sg n (i + 1) (n - (i + 1)) (Udo sg n i h) (d + 1) else (h, d)) else Ufin sg n (i + 1) (n - (i + 1)) h d := by
  rw [show n - i = (n - (i + 1)) + 1 by omega]; rfl
theorem Ufin_le {sg : Nat → Int32} {n : Nat} : ∀ (m i : Nat) (h : HSt) (d : Nat), (Ufin sg n i m h d).2 ≤ d + m
  | 0, _, _, _ => Nat.le_refl _
  | m + 1, i, h, d => by
    unfold Ufin
    split
    · split
      · exact Nat.le_trans (Ufin_le m _ _ _) (by omega)
      · exact Nat.le_add_right _ _
    · exact Nat.le_trans (Ufin_le m _ _ _) (by omega)
theorem k_i2c (q : Nat) (hq : q < 65536) : ((nI q).toUInt32 % 65536).toInt32 = nI q := by
  rw [pk_char, pk_tn (by omega), Nat.mod_eq_of_lt hq]
theorem app_nat {x : Int32} (h1 : ¬ x < nI 33) (h2 : x ≤ nI 126) : ∃ q : Nat, (q < 65536 ∧ 33 ≤ q ∧ q ≤ 126) ∧ x = nI q := by
  have h0 : ¬ x < 0 := fun z => h1 (Int32.lt_of_lt_of_le z (nI_pos' (by decide)))
  obtain ⟨j, hj, rfl⟩ := nI_of h0
  have h3 := (nI_leI hj (by decide)).mp h2
  exact ⟨j, ⟨by omega, Nat.le_of_not_lt fun z => h1 ((nI_ltI hj (by decide)).mpr z), h3⟩, rfl⟩
theorem Sta_8 (q : Nat) : Sta 8 q = 8 := rfl
theorem Sst_8 {sg : Nat → Int32} {n i : Nat} (h : Sst sg n i = 8) : ∀ m, Sst sg n (i + m) = 8
  | 0 => h
  | m + 1 => by show Sta (Sst sg n (i + m)) _ = 8; rw [Sst_8 h m]; rfl
theorem Sta_end {s : Nat} (hs : s ≤ 8) : Sta s 59 = 0 ∨ Sta s 59 = 8 := by
  rcases (by omega : s = 0 ∨ s = 1 ∨ s = 2 ∨ s = 3 ∨ s = 4 ∨ s = 5 ∨ s = 6 ∨ s = 7 ∨ s = 8) with rfl | rfl | rfl | rfl | rfl | rfl | rfl | rfl | rfl <;> decide
theorem Sta1 {q : Nat} (h : ¬ Sta 1 q = 8) : (48 ≤ q ∧ q ≤ 55) ∧ Sta 1 q = 3 := by
  have e : Sta 1 q = if 48 ≤ q ∧ q ≤ 55 then 3 else 8 := rfl
  rw [e] at h ⊢
  by_cases c : 48 ≤ q ∧ q ≤ 55
  · rw [if_pos c]; exact ⟨c, rfl⟩
  · rw [if_neg c] at h; exact absurd rfl h
theorem Sta2 {q : Nat} (h : ¬ Sta 2 q = 8) : (48 ≤ q ∧ q ≤ 55) ∧ Sta 2 q = 7 := by
  have e : Sta 2 q = if 48 ≤ q ∧ q ≤ 55 then 7 else 8 := rfl
  rw [e] at h ⊢
  by_cases c : 48 ≤ q ∧ q ≤ 55
  · rw [if_pos c]; exact ⟨c, rfl⟩
  · rw [if_neg c] at h; exact absurd rfl h
theorem Sta3 {q : Nat} (h : ¬ Sta 3 q = 8) : (48 ≤ q ∧ q ≤ 53) ∧ Sta 3 q = 7 := by
  have e : Sta 3 q = if 48 ≤ q ∧ q ≤ 53 then 7 else 8 := rfl
  rw [e] at h ⊢
  by_cases c : 48 ≤ q ∧ q ≤ 53
  · rw [if_pos c]; exact ⟨c, rfl⟩
  · rw [if_neg c] at h; exact absurd rfl h
theorem SDig_5 {q : Nat} (h : ¬ SDig q = 8) : (49 ≤ q ∧ q ≤ 53 ∧ SDig q = 5) ∨ (q = 54 ∧ SDig q = 6) ∨ (55 ≤ q ∧ q ≤ 57 ∧ SDig q = 7) := by
  unfold SDig at h ⊢
  by_cases c1 : 49 ≤ q ∧ q ≤ 53
  · rw [if_pos c1]; exact Or.inl ⟨c1.1, c1.2, rfl⟩
  · rw [if_neg c1] at h ⊢
    by_cases c2 : ¬ q = 54
    · rw [if_pos c2] at h ⊢
      by_cases c3 : 55 ≤ q ∧ q ≤ 57
      · rw [if_pos c3]; exact Or.inr (Or.inr ⟨c3.1, c3.2, rfl⟩)
      · rw [if_neg c3] at h; exact absurd rfl h
    · rw [if_neg c2]; exact Or.inr (Or.inl ⟨Nat.le_antisymm (by omega) (by omega), rfl⟩)
theorem SLet_5 {q : Nat} (h : ¬ SLet q = 8) : ((q = 99 ∨ q = 108 ∨ q = 115) ∧ SLet q = 1) ∨ (q = 112 ∧ SLet q = 3) ∨ (q = 116 ∧ SLet q = 4) ∨ (q = 111 ∧ SLet q = 2) := by
  by_cases c1 : q = 99 ∨ q = 108 ∨ q = 115
  · exact Or.inl ⟨c1, by unfold SLet; rw [if_pos c1]⟩
  · by_cases c2 : q = 112
    · subst c2; exact Or.inr (Or.inl ⟨rfl, rfl⟩)
    · by_cases c3 : q = 116
      · subst c3; exact Or.inr (Or.inr (Or.inl ⟨rfl, rfl⟩))
      · by_cases c4 : q = 111
        · subst c4; exact Or.inr (Or.inr (Or.inr ⟨rfl, rfl⟩))
        · exact absurd (by unfold SLet; rw [if_neg c1, if_neg c2, if_neg c3, if_neg c4]) h
abbrev Tdone (sg : Nat → Int32) (n : Nat) : Prop := Sst sg n n = 5 ∨ Sst sg n n = 6 ∨ Sst sg n n = 7
theorem Tdone_ne {sg : Nat → Int32} {n i : Nat} (h : Tdone sg n) (hi : i ≤ n) : ¬ Sst sg n i = 8 := fun z => by
  have e := Sst_8 z (n - i)
  rw [show i + (n - i) = n by omega] at e
  rw [Tdone, e] at h
  omega
theorem Tdone_start {sg : Nat → Int32} {n k : Nat} (h : Tdone sg n) (hk : k < n) (hs : k = 0 ∨ Tq sg n (k - 1) = 59) : Sst sg n k = 0 := by
  cases k with
  | zero => rfl
  | succ k =>
    have hq : Tq sg n k = 59 := by rcases hs with hs | hs; exact absurd hs (by omega); exact hs
    have e : Sst sg n (k + 1) = Sta (Sst sg n k) (Tq sg n k) := rfl
    have hne := Tdone_ne h (Nat.le_of_lt hk)
    rw [e, hq] at hne ⊢
    exact (Sta_end (Sst_le sg n k)).resolve_right hne
theorem Tev_ok {sg : Nat → Int32} {n : Nat} (h : Tdone sg n) : ∀ k, k < n → (k = 0 ∨ Tq sg n (k - 1) = 59) → evOK sg n k := by
  intro k hk hs
  have e0 := Tdone_start h hk hs
  have e1 : Sst sg n (k + 1) = SLet (Tq sg n k) := by show Sta (Sst sg n k) _ = _; rw [e0]; rfl
  have n1 := Tdone_ne h (i := k + 1) hk
  rw [e1] at n1
  have nxt : ∀ j s, Sst sg n j = s → j ≤ n → ¬ (s = 5 ∨ s = 6 ∨ s = 7) → j < n := by
    intro j s hj hle hz
    rcases Nat.lt_or_ge j n with z | z
    · exact z
    · have e : j = n := by omega
      subst e
      rw [Tdone, hj] at h
      exact absurd h hz
  rcases SLet_5 n1 with ⟨c, e⟩ | ⟨c, e⟩ | ⟨c, e⟩ | ⟨c, e⟩
  · rw [e] at e1
    have k1 := nxt _ _ e1 hk (by omega)
    have e2 : Sst sg n (k + 2) = Sta 1 (Tq sg n (k + 1)) := by show Sta (Sst sg n (k + 1)) _ = _; rw [e1]
    have n2 := Tdone_ne h (i := k + 2) k1
    rw [e2] at n2
    obtain ⟨d1, s2⟩ := Sta1 n2
    rw [s2] at e2
    have k2 := nxt _ _ e2 k1 (by omega)
    have e3 : Sst sg n (k + 3) = Sta 3 (Tq sg n (k + 2)) := by show Sta (Sst sg n (k + 2)) _ = _; rw [e2]
    have n3 := Tdone_ne h (i := k + 3) k2
    rw [e3] at n3
    obtain ⟨d2, -⟩ := Sta3 n3
    rcases c with c | c | c
    · exact Or.inl ⟨c, d1, d2⟩
    · exact Or.inr (Or.inl ⟨c, d1, d2⟩)
    · exact Or.inr (Or.inr (Or.inl ⟨c, d1, d2⟩))
  · rw [e] at e1
    have k1 := nxt _ _ e1 hk (by omega)
    have n2 := Tdone_ne h (i := k + 2) k1
    rw [show Sst sg n (k + 2) = Sta 3 (Tq sg n (k + 1)) by show Sta (Sst sg n (k + 1)) _ = _; rw [e1]] at n2
    exact Or.inr (Or.inr (Or.inr (Or.inl ⟨c, (Sta3 n2).1⟩)))
  · rw [e] at e1
    have k1 := nxt _ _ e1 hk (by omega)
    have e2 : Sst sg n (k + 2) = SDig (Tq sg n (k + 1)) := by show Sta (Sst sg n (k + 1)) _ = _; rw [e1]; rfl
    have n2 := Tdone_ne h (i := k + 2) k1
    rw [e2] at n2
    refine Or.inr (Or.inr (Or.inr (Or.inr (Or.inl ⟨c, ?_⟩))))
    have sub : ∀ q, 48 ≤ q → nI q - nI 48 = nI (q - 48) := fun q hq => pk_sub hq
    have two : ∀ a b, 48 ≤ a → 48 ≤ b → nI 10 * (nI a - nI 48) + (nI b - nI 48) = nI (10 * (a - 48) + (b - 48)) := fun a b ha hb => by rw [sub a ha, sub b hb, pk_mul, nI_add]
    have e3 : k + 2 < n → Sst sg n (k + 3) = Sta (SDig (Tq sg n (k + 1))) (Tq sg n (k + 2)) := fun _ => by show Sta (Sst sg n (k + 2)) _ = _; rw [e2]
    have q59 : ¬ k + 2 < n → Tq sg n (k + 2) = 59 := fun z => if_pos (by omega)
    rcases SDig_5 n2 with ⟨a1, a2, s2⟩ | ⟨a1, s2⟩ | ⟨a1, a2, s2⟩
    · by_cases z : Tq sg n (k + 2) = 59
      · exact ⟨Tq sg n (k + 1) - 48, ⟨by omega, by omega⟩, by unfold Tnum; rw [if_neg (not_not_intro z)]; exact sub _ (by omega)⟩
      · have k2 : k + 2 < n := by rcases Nat.lt_or_ge (k + 2) n with y | y; exact y; exact absurd (q59 (by omega)) z
        have n3 := Tdone_ne h (i := k + 3) k2
        rw [e3 k2, s2, show Sta 5 (Tq sg n (k + 2)) = if 48 ≤ Tq sg n (k + 2) ∧ Tq sg n (k + 2) ≤ 57 then 7 else SEv (Tq sg n (k + 2)) from rfl] at n3
        by_cases y : 48 ≤ Tq sg n (k + 2) ∧ Tq sg n (k + 2) ≤ 57
        · exact ⟨10 * (Tq sg n (k + 1) - 48) + (Tq sg n (k + 2) - 48), ⟨by omega, by omega⟩, by unfold Tnum; rw [if_pos z]; exact two _ _ (by omega) y.1⟩
        · rw [if_neg y, show SEv (Tq sg n (k + 2)) = 8 from if_pos z] at n3
          exact absurd rfl n3
    · by_cases z : Tq sg n (k + 2) = 59
      · exact ⟨6, ⟨by omega, by omega⟩, by unfold Tnum; rw [if_neg (not_not_intro z), a1]; exact sub 54 (by decide)⟩
      · have k2 : k + 2 < n := by rcases Nat.lt_or_ge (k + 2) n with y | y; exact y; exact absurd (q59 (by omega)) z
        have n3 := Tdone_ne h (i := k + 3) k2
        rw [e3 k2, s2, show Sta 6 (Tq sg n (k + 2)) = if ¬ Tq sg n (k + 2) = 48 then SEv (Tq sg n (k + 2)) else 7 from rfl] at n3
        by_cases y : Tq sg n (k + 2) = 48
        · exact ⟨60, ⟨by omega, by omega⟩, by unfold Tnum; rw [if_pos z, a1, y]; exact two 54 48 (by decide) (by decide)⟩
        · rw [if_pos y, show SEv (Tq sg n (k + 2)) = 8 from if_pos z] at n3
          exact absurd rfl n3
    · by_cases z : Tq sg n (k + 2) = 59
      · exact ⟨Tq sg n (k + 1) - 48, ⟨by omega, by omega⟩, by unfold Tnum; rw [if_neg (not_not_intro z)]; exact sub _ (by omega)⟩
      · have k2 : k + 2 < n := by rcases Nat.lt_or_ge (k + 2) n with y | y; exact y; exact absurd (q59 (by omega)) z
        have n3 := Tdone_ne h (i := k + 3) k2
        rw [e3 k2, s2, show Sta 7 (Tq sg n (k + 2)) = SEv (Tq sg n (k + 2)) from rfl, show SEv (Tq sg n (k + 2)) = 8 from if_pos z] at n3
        exact absurd rfl n3
  · rw [e] at e1
    have k1 := nxt _ _ e1 hk (by omega)
    have n2 := Tdone_ne h (i := k + 2) k1
    rw [show Sst sg n (k + 2) = Sta 2 (Tq sg n (k + 1)) by show Sta (Sst sg n (k + 1)) _ = _; rw [e1]] at n2
    exact Or.inr (Or.inr (Or.inr (Or.inr (Or.inr ⟨c, (Sta2 n2).1⟩))))
theorem k_D_ext {A : Nat → Prop} {a : Nat} {e0 e : va_E} {ws ws2 : va_W} (p : Nat) (hq : ws[p]? = some (a, e0)) (hw : ws.set p (a, e) = ws2) (hD : va_D A ws) : va_D A ws2 := by
  subst hw
  exact hD.set (p := p) (a := a) (e0 := e0) (e := e) hq
def b01 (P : Prop) [Decidable P] : Nat := if P then 1 else 0
theorem b01_lt {P : Prop} [Decidable P] : b01 P < 2 := by unfold b01; split <;> omega
theorem b01_lt31 {P : Prop} [Decidable P] : b01 P < 2 ^ 31 := Nat.lt_trans b01_lt (by decide)
theorem b01_t {P : Prop} [Decidable P] (h : P) : b01 P = 1 := if_pos h
theorem b01_f {P : Prop} [Decidable P] (h : ¬ P) : b01 P = 0 := if_neg h
theorem b01_0 {P : Prop} [Decidable P] : b01 P = 0 ↔ ¬ P := by
  by_cases h : P
  · rw [b01_t h]; exact ⟨fun z => absurd z (by decide), fun z => absurd h z⟩
  · rw [b01_f h]; exact ⟨fun _ => h, fun _ => rfl⟩
abbrev pairOK (row con : Int32) : Prop := (nI 0 ≤ row ∧ row ≤ nI 7) ∧ nI 0 ≤ con ∧ con ≤ nI 5
def Mcalls (k : Nat) (s : Nat → Int32) : Nat → Int32 := upd (upd s (69 + k) (s 0)) 12 ((upd s (69 + k) (s 0)) 12 + nI 1)
def Mcomes (k : Nat) (s : Nat → Int32) : Nat → Int32 := Mcalls k (upd s (21 + k) (s (21 + k) + nI 1))
def Mask (k : Nat) (s : Nat → Int32) : Nat → Int32 := if s (21 + k) ≤ 0 then s else Mcalls k s
def Mfare2 (k : Nat) (s : Nat → Int32) : Nat → Int32 := if s (69 + k) ≤ s 1 then s else Mask k (upd (upd s (69 + k) (s 1)) 11 ((upd s (69 + k) (s 1)) 11 + nI 1))
def Mfare (k : Nat) (s : Nat → Int32) : Nat → Int32 := if s 3 = nI 1 then (if s (21 + k) = 0 then upd s (69 + k) (nI 0) else Mfare2 k s) else Mfare2 k s
def Mleaves (k b : Nat) (s : Nat → Int32) : Nat → Int32 := if b = 0 then upd s (21 + k) (s (21 + k) - nI 1) else Mfare k (upd s (21 + k) (s (21 + k) - nI 1))
/-- the first n of f, laid into h -/
def cpN (f h : Nat → Int32) : Nat → Nat → Int32
  | 0 => h
  | n + 1 => upd (cpN f h n) n (f n)
theorem cpN_in {f h : Nat → Int32} {n k : Nat} (hk : k < n) : cpN f h n k = f k := by
  induction n with
  | zero => exact absurd hk (Nat.not_lt_zero k)
  | succ n ih =>
    show upd (cpN f h n) n (f n) k = f k
    unfold upd
    by_cases e : k = n
    · rw [if_pos e, e]
    · rw [if_neg e]; exact ih (by omega)
def shN (v : Nat → Int32) : Nat → Nat → Int32
  | 0 => v
  | n + 1 => upd (shN v n) n ((shN v n) (n + 120))
def cpB (s v : Nat → Int32) (j : Nat) : Nat → Nat → Int32
  | 0 => v
  | n + 1 => upd (cpB s v j n) (120 * j + n) (s n)
def Msv (s v : Nat → Int32) (j : Nat) : Nat → Int32 := if ¬ j = 6 then cpB s v j 120 else cpB s (shN v 600) 5 120
def Mchief (s : Nat → Int32) : Int32 := if s 4 ≤ nI 3 then (if s 4 ≤ nI 1 then nI 0 else nI 1) else nI 2
abbrev Mgoes (s : Nat → Int32) (r c : Nat) : Prop := s (13 + r) = nI 1 ∨ ¬ s (69 + (6 * r + c)) ≤ 0
abbrev Mwants (s : Nat → Int32) (r c : Nat) : Prop := ¬ s (21 + (6 * r + c)) ≤ 0
def Ment (s : Nat → Int32) : Nat → Int32
  | 0 => nI 0
  | n + 1 => Ment s n + bI (¬ s (69 + n) ≤ 0)
def Mrow (s : Nat → Int32) (c : Nat) : Nat → Int32
  | 0 => nI 0
  | n + 1 => Mrow s c n ||| (if Mgoes s n c then (nI 1 <<< (nI n &&& 31)) else nI 0)
def Mwan (s : Nat → Int32) (c : Nat) : Nat → Int32
  | 0 => nI 0
  | n + 1 => Mwan s c n ||| (if Mwants s n c then (nI 1 <<< (nI n &&& 31)) else nI 0)
def Mdue (s : Nat → Int32) : Int32 := if Mchief s = 0 then s 2 else nI 2 * s 2
def MfadeN (s : Nat → Int32) : Nat → Nat → Int32
  | 0 => s
  | n + 1 => upd (MfadeN s n) (69 + n) (MfadeN s n (69 + n) - bI (¬ MfadeN s n (69 + n) ≤ 0))
def MaskN (s : Nat → Int32) : Nat → Nat → Int32
  | 0 => s
  | n + 1 => if MaskN s n (21 + n) ≤ 0 then MaskN s n else Mcalls n (MaskN s n)
def Mt1 (s : Nat → Int32) : Nat → Int32 := upd (MfadeN s 48) 5 (MfadeN s 48 5 + nI 1)
def Mtk (s : Nat → Int32) : Nat → Int32 := upd (Mt1 s) 6 (Mt1 s 6 + nI 1)
def Mq1 (s : Nat → Int32) : Nat → Int32 := upd (upd (Mtk s) 6 (nI 0)) 10 ((upd (Mtk s) 6 (nI 0)) 10 + nI 1)
abbrev Masks (s : Nat → Int32) : Prop := ¬ Mtk s 6 < Mdue (Mtk s)
def Mgo (s : Nat → Int32) : Nat → Int32 := if ¬ Mtk s 6 < Mdue (Mtk s) then MaskN (Mq1 s) 48 else Mtk s
def MgoN (s : Nat → Int32) : Nat → Nat → Int32
  | 0 => s
  | n + 1 => Mgo (MgoN s n)
def MgoQ (s : Nat → Int32) : Nat → Int32
  | 0 => nI 0
  | n + 1 => MgoQ s n + bI (Masks (MgoN s n))
def Mp0 (s : Nat → Int32) (n c : Nat) : Nat → Int32 := upd s 7 (s 7 + bI (Mgoes s n c ∧ Mwants s n c))
def Mp1 (s : Nat → Int32) (P Q : Prop) [Decidable P] [Decidable Q] : Nat → Int32 :=
  upd (upd (upd s 7 (s 7 + bI (P ∧ Q))) 8 ((upd s 7 (s 7 + bI (P ∧ Q))) 8 + bI (P ∧ ¬ Q))) 9 ((upd (upd s 7 (s 7 + bI (P ∧ Q))) 8 ((upd s 7 (s 7 + bI (P ∧ Q))) 8 + bI (P ∧ ¬ Q))) 9 + bI (¬ P ∧ Q))
def MplayN (s : Nat → Int32) (c : Nat) : Nat → Nat → Int32
  | 0 => s
  | n + 1 => Mp1 (MplayN s c n) (Mgoes (MplayN s c n) n c) (Mwants (MplayN s c n) n c)
def MplayQ (s : Nat → Int32) (c : Nat) : Nat → Int32
  | 0 => nI 0
  | n + 1 => MplayQ s c n + bI (Mgoes (MplayN s c n) n c)
/-- how many minutes until the entry is gone, from the minute i on, m more at most -/
def Mst (s : Nat → Int32) (k : Nat) : Nat → Nat → Nat
  | i, 0 => i
  | i, m + 1 => if MgoN s i (69 + k) ≤ 0 then i else Mst s k (i + 1) m
theorem Mst_go {s : Nat → Int32} {k i : Nat} (hi : i < 150) : Mst s k i (150 - i) = if MgoN s i (69 + k) ≤ 0 then i else Mst s k (i + 1) (150 - (i + 1)) := by
  rw [show 150 - i = (150 - (i + 1)) + 1 by omega]; rfl
def Mfd (s : Nat → Int32) (k : Nat) : Int32 := if MgoN s (Mst s k 0 150) (69 + k) ≤ 0 then nI (Mst s k 0 150) else (-1)
def MasksIn (s : Nat → Int32) : Int32 := if nI 1 ≤ Mdue s - s 6 then Mdue s - s 6 else nI 1
def Mdist (s : Nat → Int32) (c : Nat) : Nat → Int32
  | 0 => nI 0
  | n + 1 => Mdist s c n + bI (Mgoes s n c ∧ ¬ Mwants s n c)
theorem in_nat {x : Int32} {a b : Nat} (ha : a < 2 ^ 31) (hb : b < 2 ^ 31) (h : nI a ≤ x ∧ x ≤ nI b) : ∃ k : Nat, (a ≤ k ∧ k ≤ b) ∧ x = nI k := by
  have h0 : ¬ x < 0 := fun z => absurd (Int32.lt_of_le_of_lt h.1 z) (nI_pos ha)
  obtain ⟨j, hj, rfl⟩ := nI_of h0
  exact ⟨j, ⟨(nI_leI ha hj).mp h.1, (nI_leI hj hb).mp h.2⟩, rfl⟩
def plM (row con : Int32) : Nat := 6 * row.toNatClampNeg + con.toNatClampNeg
theorem plM_eq {row con : Int32} {r c : Nat} (hr : r ≤ 7) (hc : c ≤ 5) (h1 : row = nI r) (h2 : con = nI c) : plM row con = 6 * r + c := by
  unfold plM
  rw [h1, h2, nI_clamp (by omega), nI_clamp (by omega)]
abbrev Mkeep (j : Nat) (m : MSt) : MSt := sMsm (sMsv m (Msv (ms m) (msv m) j)) (nI (kSz j))
abbrev conOK (con : Int32) : Prop := nI 0 ≤ con ∧ con ≤ nI 5
abbrev minOK (x : Int32) : Prop := nI 1 ≤ x ∧ x ≤ nI 60
def Mcome (j : Nat) (row con : Int32) (m : MSt) : MSt := if pairOK row con then (if ms m (21 + plM row con) = nI 9 then sMth m (nI 2) else sMs (Mkeep j (sMth m (nI 0))) (Mcomes (plM row con) (ms m))) else sMth m (nI 1)
def McomeR (row con : Int32) (m : MSt) : Int32 := if pairOK row con then (if ms m (21 + plM row con) = nI 9 then nI 0 else Mcomes (plM row con) (ms m) (21 + plM row con)) else nI 0
def Mleave (j : Nat) (row con : Int32) (b : Nat) (m : MSt) : MSt := if pairOK row con then (if ¬ ms m (21 + plM row con) = 0 then sMs (Mkeep j (sMth m (nI 0))) (Mleaves (plM row con) b (ms m)) else sMth m (nI 2)) else sMth m (nI 1)
def MleaveR (row con : Int32) (b : Nat) (m : MSt) : Int32 := if pairOK row con then (if ¬ ms m (21 + plM row con) = 0 then Mleaves (plM row con) b (ms m) (21 + plM row con) else nI 0) else nI 0
def Mpair (row con : Int32) (m : MSt) : MSt := if pairOK row con then sMth m (nI 0) else sMth m (nI 1)
def Mcon (con : Int32) (m : MSt) : MSt := if conOK con then sMth m (nI 0) else sMth m (nI 1)
def MlisR (row con : Int32) (m : MSt) : Int32 := if pairOK row con then ms m (21 + plM row con) else nI 0
def MrestR (row con : Int32) (m : MSt) : Int32 := if pairOK row con then ms m (69 + plM row con) else nI 0
abbrev rowOK (row : Int32) : Prop := nI 0 ≤ row ∧ row ≤ nI 7
def MopenS (j : Nat) (row : Int32) (b : Nat) (m : MSt) : MSt := if rowOK row then sMs (Mkeep j (sMth m (nI 0))) (upd (ms m) (13 + row.toNatClampNeg) (nI b)) else sMth m (nI 1)
def MopenR (row : Int32) (m : MSt) : Int32 := if rowOK row then bI (ms m (13 + row.toNatClampNeg) = nI 1) else nI 0
def MopenQ (row : Int32) (m : MSt) : MSt := if rowOK row then sMth m (nI 0) else sMth m (nI 1)
def MtimesS (j : Nat) (a b c : Int32) (m : MSt) : MSt := if nI 2 ≤ a ∧ a ≤ nI 60 then (if nI 1 ≤ b ∧ b ≤ nI 10 then (if nI 1 ≤ c ∧ c ≤ nI 30 then sMs (Mkeep j (sMth m (nI 0))) (upd (upd (upd (ms m) 0 a) 1 b) 2 c) else sMth m (nI 1)) else sMth m (nI 1)) else sMth m (nI 1)
def MtimesR (a b c : Int32) (m : MSt) : Int32 := if nI 2 ≤ a ∧ a ≤ nI 60 then (if nI 1 ≤ b ∧ b ≤ nI 10 then (if nI 1 ≤ c ∧ c ≤ nI 30 then ms m 0 else nI 0) else nI 0) else nI 0
def Mpres (u : Int32) (b : Nat) (s : Nat → Int32) : Nat → Int32 := upd s 4 ((s 4 &&& ((nI 1 <<< (u &&& 31)) ^^^ (-1))) ||| (if b = 0 then nI 0 else (nI 1 <<< (u &&& 31))))
def MpresS (j : Nat) (u : Int32) (b : Nat) (m : MSt) : MSt := if nI 1 ≤ u ∧ u ≤ nI 2 then sMs (Mkeep j (sMth m (nI 0))) (Mpres u b (ms m)) else sMth m (nI 1)
def MpresR (u : Int32) (b : Nat) (m : MSt) : Int32 := if nI 1 ≤ u ∧ u ≤ nI 2 then Mchief (Mpres u b (ms m)) else nI 0
def MrowsR (con : Int32) (m : MSt) : Int32 := if conOK con then Mrow (ms m) con.toNatClampNeg 8 else nI 0
def MwanR (con : Int32) (m : MSt) : Int32 := if conOK con then Mwan (ms m) con.toNatClampNeg 8 else nI 0
def MpassS (j : Nat) (x : Int32) (m : MSt) : MSt := if minOK x then sMs (Mkeep j (sMth m (nI 0))) (MgoN (ms m) x.toNatClampNeg) else sMth m (nI 1)
def MpassR (x : Int32) (m : MSt) : Int32 := if minOK x then MgoQ (ms m) x.toNatClampNeg else nI 0
def MplayS (j : Nat) (con : Int32) (m : MSt) : MSt := if conOK con then sMs (Mkeep j (sMth m (nI 0))) (MplayN (ms m) con.toNatClampNeg 8) else sMth m (nI 1)
def MplayR (con : Int32) (m : MSt) : Int32 := if conOK con then MplayQ (ms m) con.toNatClampNeg 8 else nI 0
def McntS (x : Int32) (m : MSt) : MSt := if nI 0 ≤ x ∧ x ≤ nI 5 then sMth m (nI 0) else sMth m (nI 1)
def McntR (x : Int32) (m : MSt) : Int32 := if nI 0 ≤ x ∧ x ≤ nI 5 then ms m (7 + x.toNatClampNeg) else nI 0
def MfadeS (row con : Int32) (m : MSt) : MSt := if pairOK row con then sMas (sMth m (nI 0)) (ms m) else sMth m (nI 1)
def MfadeR (row con : Int32) (m : MSt) : Int32 := if pairOK row con then Mfd (ms m) (plM row con) else nI 0
def MdistS (con x : Int32) (m : MSt) : MSt := if conOK con then (if minOK x then sMas (sMth m (nI 0)) (ms m) else sMth m (nI 2)) else sMth m (nI 1)
def MdistR (con x : Int32) (m : MSt) : Int32 := if conOK con then (if minOK x then Mdist (MgoN (ms m) x.toNatClampNeg) con.toNatClampNeg 8 else nI 0) else nI 0
abbrev codeOK (x : Int32) : Prop := nI 33 ≤ x ∧ x ≤ nI 126
def MappS (n : Nat) (x : Int32) (m : MSt) : MSt := if codeOK x then (if n = 60 then sMth m (nI 2) else sMln (sMbf (sMth m (nI 0)) (upd (mbf m) n x)) (nI (n + 1))) else sMth m (nI 1)
def MappR (n : Nat) (x : Int32) : Int32 := if codeOK x then (if n = 60 then nI 0 else nI (n + 1)) else nI 0
def MundoS (j : Nat) (m : MSt) : MSt := if j = 0 then sMth m (nI 1) else sMs (sMsm (sMth m (nI 0)) (nI (j - 1))) (cpN (fun k => msv m (120 * (j - 1) + k)) (ms m) 120)
def MundoR (j : Nat) : Int32 := if j = 0 then nI 0 else nI (j - 1)
def MdgC (f : Nat → Int32) (x : Int64) : Nat → Int64
  | 0 => x
  | n + 1 => mixI (MdgC f x n) (f (7 + n))
def MdgM (s : Nat → Int32) (x : Int64) : Nat → Int64
  | 0 => x
  | n + 1 => mixI (mixI (MdgM s x n) (Mrow s n 8)) (Mwan s n 8)
def MdgK1 (s : Nat → Int32) (x : Int64) (n : Nat) : Int64 := if n % 6 = 0 then mixI x (s (13 + n / 6)) else x
def MdgK (s : Nat → Int32) (x : Int64) : Nat → Int64
  | 0 => x
  | n + 1 => mixI (mixI (mixI (MdgK1 s (MdgK s x n) n) (s (21 + n))) (s (69 + n))) (Mfd s n)
def Mdig (s : Nat → Int32) : Int64 := MdgK s (MdgM s (MdgC s (mixI (mixI (mixI (mixI (mixI 4701 (s 5)) (s 6)) (Mchief s)) (Ment s 48)) (MasksIn s)) 6) 6) 48
def MdigS (m : MSt) : MSt := sMas (sMhs (sMth m (nI 0)) (Mdig (ms m))) (ms m)
def Bq (bf : Nat → Int32) (n a : Nat) : Nat := if n ≤ a then 0 else (bf a).toNatClampNeg
theorem Bq_lt {bf : Nat → Int32} {n : Nat} (h : Tok bf n) (a : Nat) : Bq bf n a < 65536 := by
  unfold Bq
  by_cases c : n ≤ a
  · rw [if_pos c]; decide
  · rw [if_neg c]; exact (Tok_cl h (by omega)).2
theorem Bq_lt31 {bf : Nat → Int32} {n : Nat} (h : Tok bf n) (a : Nat) : Bq bf n a < 2 ^ 31 := Nat.lt_of_lt_of_le (Bq_lt h a) (by decide)
theorem Bq_in {bf : Nat → Int32} {n a : Nat} (h : Bq bf n a ≠ 0) : a < n := by
  unfold Bq at h
  by_cases c : n ≤ a
  · rw [if_pos c] at h; exact absurd rfl h
  · omega
def figW (w q lo hi : Nat) : Nat := if w = 0 then 0 else if nI (48 + lo) ≤ nI q ∧ nI q ≤ nI (48 + hi) then 1 else 0
theorem figW_lt (w q lo hi : Nat) : figW w q lo hi < 2 := by unfold figW; (repeat' split) <;> omega
theorem figW_lt31 (w q lo hi : Nat) : figW w q lo hi < 2 ^ 31 := Nat.lt_trans (figW_lt w q lo hi) (by decide)
theorem figW_1 {w q lo hi : Nat} (hq : q < 65536) (hlo : lo ≤ 9) (hhi : hi ≤ 9) (h : figW w q lo hi ≠ 0) : w ≠ 0 ∧ 48 + lo ≤ q ∧ q ≤ 48 + hi := by
  unfold figW at h
  by_cases c : w = 0
  · rw [if_pos c] at h; exact absurd rfl h
  · rw [if_neg c] at h
    by_cases d : nI (48 + lo) ≤ nI q ∧ nI q ≤ nI (48 + hi)
    · exact ⟨c, (nI_leI (by omega) (by omega)).mp d.1, (nI_leI (by omega) (by omega)).mp d.2⟩
    · rw [if_neg d] at h; exact absurd rfl h
theorem figW_t {w q lo hi : Nat} (hq : q < 65536) (hlo : lo ≤ 9) (hhi : hi ≤ 9) (hw : w ≠ 0) (h1 : 48 + lo ≤ q) (h2 : q ≤ 48 + hi) : figW w q lo hi = 1 := by
  unfold figW
  rw [if_neg hw, if_pos ⟨(nI_leI (by omega) (by omega)).mpr h1, (nI_leI (by omega) (by omega)).mpr h2⟩]
theorem figW_f {w q lo hi : Nat} (hq : q < 65536) (hlo : lo ≤ 9) (hhi : hi ≤ 9) (h : ¬ (w ≠ 0 ∧ 48 + lo ≤ q ∧ q ≤ 48 + hi)) : figW w q lo hi = 0 := by
  by_cases c : figW w q lo hi = 0
  · exact c
  · exact absurd (figW_1 hq hlo hhi c) h
/-- the number's first figure as it is -/
def numF (bf : Nat → Int32) (n a : Nat) : Int32 := nI (Bq bf n a) - nI 48
def numW (bf : Nat → Int32) (n a w : Nat) : Nat := figW w (Bq bf n a) 1 9
abbrev numX (bf : Nat → Int32) (n a w : Nat) : Int32 := nI 10 * (nI (Bq bf n a) - nI 48) + nI (Bq bf n (a + figW w (Bq bf n a) 1 9)) - nI 48
abbrev numP (bf : Nat → Int32) (n a w : Nat) : Prop := nI 48 ≤ nI (Bq bf n (a + figW w (Bq bf n a) 1 9)) ∧ nI (Bq bf n (a + figW w (Bq bf n a) 1 9)) ≤ nI 57
def numV (bf : Nat → Int32) (n a w : Nat) : Int32 := if figW w (Bq bf n a) 1 9 = 0 then nI (Bq bf n a) - nI 48 else if numP bf n a w then (if nI 60 < numX bf n a w then nI (Bq bf n a) - nI 48 else numX bf n a w) else nI (Bq bf n a) - nI 48
def numA (bf : Nat → Int32) (n a w : Nat) : Nat := if figW w (Bq bf n a) 1 9 = 0 then a + figW w (Bq bf n a) 1 9 else if numP bf n a w then (if nI 60 < numX bf n a w then a + figW w (Bq bf n a) 1 9 else a + figW w (Bq bf n a) 1 9 + 1) else a + figW w (Bq bf n a) 1 9
def evW (q : Nat) : Nat := if q = 99 then 1 else if q = 108 then 1 else if q = 115 then 1 else if q = 112 then 1 else if q = 116 then 1 else if q = 111 then 1 else 0
theorem evW_lt (q : Nat) : evW q < 2 := by unfold evW; (repeat' split) <;> omega
abbrev RSt := Nat × Nat × Nat × (Nat → Int32)
def MR (m : MSt) (t : RSt) : MSt := sMrm (sMrd (sMat (sMiw m (nI t.2.1)) (nI t.1)) t.2.2.2) (nI t.2.2.1)
def rT (bf : Nat → Int32) (n a w q r : Nat) (rd : Nat → Int32) : RSt := (numA bf n a w, figW w (Bq bf n a) 1 9, r + figW w (Bq bf n a) 1 9, upd (upd rd (3 * r) (nI q)) (3 * r + 1) (numV bf n a w))
def rO (bf : Nat → Int32) (n a w q r hi : Nat) (rd : Nat → Int32) : RSt := (a + figW w (Bq bf n a) 0 hi, figW w (Bq bf n a) 0 hi, r + figW w (Bq bf n a) 0 hi, upd (upd rd (3 * r) (nI q)) (3 * r + 1) (nI (Bq bf n a) - nI 48))
def rC2 (bf : Nat → Int32) (n a w q r : Nat) (rd : Nat → Int32) (b : Nat) : RSt := (b + figW (figW w (Bq bf n a) 0 7) (Bq bf n b) 0 5, figW (figW w (Bq bf n a) 0 7) (Bq bf n b) 0 5, r + figW (figW w (Bq bf n a) 0 7) (Bq bf n b) 0 5, upd (upd (upd rd (3 * r) (nI q)) (3 * r + 1) (nI (Bq bf n a) - nI 48)) (3 * r + 2) (nI (Bq bf n b) - nI 48))
def rC (bf : Nat → Int32) (n a w q r : Nat) (rd : Nat → Int32) : RSt := rC2 bf n a w q r rd (a + figW w (Bq bf n a) 0 7)
def rEv (bf : Nat → Int32) (n a r : Nat) (rd : Nat → Int32) : RSt :=
  if Bq bf n a = 116 then rT bf n (a + evW (Bq bf n a)) (evW (Bq bf n a)) (Bq bf n a) r rd
  else if Bq bf n a = 112 then rO bf n (a + evW (Bq bf n a)) (evW (Bq bf n a)) (Bq bf n a) r 5 rd
  else if Bq bf n a = 99 then rC bf n (a + evW (Bq bf n a)) (evW (Bq bf n a)) (Bq bf n a) r rd
  else if Bq bf n a = 108 then rC bf n (a + evW (Bq bf n a)) (evW (Bq bf n a)) (Bq bf n a) r rd
  else if Bq bf n a = 115 then rC bf n (a + evW (Bq bf n a)) (evW (Bq bf n a)) (Bq bf n a) r rd
  else rO bf n (a + evW (Bq bf n a)) (evW (Bq bf n a)) (Bq bf n a) r 7 rd
def rStep (bf : Nat → Int32) (n : Nat) (t : RSt) : RSt := if Bq bf n t.1 = 59 then rEv bf n (t.1 + 1) t.2.2.1 t.2.2.2 else (t.1, 0, t.2.2.1, t.2.2.2)
def rS (bf : Nat → Int32) (n : Nat) (rd : Nat → Int32) : Nat → RSt
  | 0 => rEv bf n 0 0 rd
  | i + 1 => rStep bf n (rS bf n rd i)
abbrev rGo (n : Nat) (t : RSt) : Prop := ¬ t.2.1 = 0 ∧ t.1 < n
def rdEnd (bf : Nat → Int32) (n : Nat) (rd : Nat → Int32) : Nat → Nat → Nat
  | i, 0 => i
  | i, m + 1 => if rGo n (rS bf n rd i) then rdEnd bf n rd (i + 1) m else i
theorem rdEnd_go {bf : Nat → Int32} {n i : Nat} {rd : Nat → Int32} (hi : i < 100) : rdEnd bf n rd i (100 - i) = if rGo n (rS bf n rd i) then rdEnd bf n rd (i + 1) (100 - (i + 1)) else i := by
  rw [show 100 - i = (100 - (i + 1)) + 1 by omega]; rfl
def rFin (bf : Nat → Int32) (n : Nat) (rd : Nat → Int32) : RSt := rS bf n rd (rdEnd bf n rd 0 100)
def rOK (n : Nat) (t : RSt) (i : Nat) : Prop := t.2.1 < 2 ∧ t.1 ≤ n ∧ 3 * t.2.2.1 ≤ t.1 + 1 ∧ i ≤ t.1 + 1 ∧ (t.2.1 ≠ 0 → i ≤ t.1)
theorem evW_in {q : Nat} (h : evW q ≠ 0) : q = 99 ∨ q = 108 ∨ q = 115 ∨ q = 112 ∨ q = 116 ∨ q = 111 := by
  unfold evW at h
  by_cases c1 : q = 99
  · exact Or.inl c1
  by_cases c2 : q = 108
  · exact Or.inr (Or.inl c2)
  by_cases c3 : q = 115
  · exact Or.inr (Or.inr (Or.inl c3))
  by_cases c4 : q = 112
  · exact Or.inr (Or.inr (Or.inr (Or.inl c4)))
  by_cases c5 : q = 116
  · exact Or.inr (Or.inr (Or.inr (Or.inr (Or.inl c5))))
  by_cases c6 : q = 111
  · exact Or.inr (Or.inr (Or.inr (Or.inr (Or.inr c6))))
  rw [if_neg c1, if_neg c2, if_neg c3, if_neg c4, if_neg c5, if_neg c6] at h
  exact absurd rfl h
theorem numA_le (bf : Nat → Int32) (n a w : Nat) : numA bf n a w ≤ a + 2 := by
  have h := figW_lt w (Bq bf n a) 1 9
  unfold numA
  (repeat' split) <;> omega
/-- what a step of the reader keeps: k = 0 or the figure at b is there -/
theorem fig_step {bf : Nat → Int32} {n : Nat} (hbf : Tok bf n) (w b lo hi : Nat) (hlo : lo ≤ 9) (hhi : hi ≤ 9) (hb : b ≤ n) : b + figW w (Bq bf n b) lo hi ≤ n ∧ (figW w (Bq bf n b) lo hi ≠ 0 → w ≠ 0) := by
  have h1 := figW_lt w (Bq bf n b) lo hi
  by_cases c : figW w (Bq bf n b) lo hi = 0
  · exact ⟨by omega, fun z => absurd c z⟩
  · have h2 := figW_1 (Bq_lt hbf b) hlo hhi c
    have h3 : b < n := Bq_in (bf := bf) (by omega)
    exact ⟨by omega, fun _ => h2.1⟩
theorem num_step {bf : Nat → Int32} {n : Nat} (hbf : Tok bf n) (w b : Nat) (hb : b ≤ n) : numA bf n b w ≤ n ∧ b + figW w (Bq bf n b) 1 9 ≤ numA bf n b w := by
  have h1 := (fig_step hbf w b 1 9 (by decide) (by decide) hb).1
  unfold numA
  by_cases c : figW w (Bq bf n b) 1 9 = 0
  · rw [if_pos c]; exact ⟨h1, Nat.le_refl _⟩
  · rw [if_neg c]
    by_cases d : numP bf n b w
    · rw [if_pos d]
      by_cases e : nI 60 < numX bf n b w
      · rw [if_pos e]; exact ⟨h1, Nat.le_refl _⟩
      · rw [if_neg e]
        have h3 : 48 ≤ Bq bf n (b + figW w (Bq bf n b) 1 9) := (nI_leI (by decide) (Bq_lt31 hbf _)).mp d.1
        have h4 : b + figW w (Bq bf n b) 1 9 < n := Bq_in (bf := bf) (by omega)
        exact ⟨h4, Nat.le_succ _⟩
    · rw [if_neg d]; exact ⟨h1, Nat.le_refl _⟩
theorem rEv_step {bf : Nat → Int32} {n : Nat} (hbf : Tok bf n) (a r : Nat) (rd : Nat → Int32) (ha : a ≤ n) : (rEv bf n a r rd).2.1 < 2 ∧ a ≤ (rEv bf n a r rd).1 ∧ (rEv bf n a r rd).1 ≤ n ∧ (rEv bf n a r rd).2.2.1 = r + (rEv bf n a r rd).2.1 ∧ a + 2 * (rEv bf n a r rd).2.1 ≤ (rEv bf n a r rd).1 := by
  have h0 : a + evW (Bq bf n a) ≤ n := by
    have h1 := evW_lt (Bq bf n a)
    by_cases c : evW (Bq bf n a) = 0
    · omega
    · have h2 := evW_in c
      have h3 : a < n := Bq_in (bf := bf) (by omega)
      omega
  have k1 : ∀ w : Nat, w = evW (Bq bf n a) → ∀ hi : Nat, hi ≤ 9 → (figW w (Bq bf n (a + w)) 0 hi < 2 ∧ a + w + figW w (Bq bf n (a + w)) 0 hi ≤ n ∧ a + 2 * figW w (Bq bf n (a + w)) 0 hi ≤ a + w + figW w (Bq bf n (a + w)) 0 hi) := by
    intro w hw hi hhi
    have h1 := figW_lt w (Bq bf n (a + w)) 0 hi
    have h2 := fig_step hbf w (a + w) 0 hi (by decide) hhi (by rw [hw]; exact h0)
    refine ⟨h1, h2.1, ?_⟩
    by_cases c : figW w (Bq bf n (a + w)) 0 hi = 0
    · omega
    · have := h2.2 c; omega
  have kC : (rC bf n (a + evW (Bq bf n a)) (evW (Bq bf n a)) (Bq bf n a) r rd).2.1 < 2 ∧ a ≤ (rC bf n (a + evW (Bq bf n a)) (evW (Bq bf n a)) (Bq bf n a) r rd).1 ∧ (rC bf n (a + evW (Bq bf n a)) (evW (Bq bf n a)) (Bq bf n a) r rd).1 ≤ n ∧ (rC bf n (a + evW (Bq bf n a)) (evW (Bq bf n a)) (Bq bf n a) r rd).2.2.1 = r + (rC bf n (a + evW (Bq bf n a)) (evW (Bq bf n a)) (Bq bf n a) r rd).2.1 ∧ a + 2 * (rC bf n (a + evW (Bq bf n a)) (evW (Bq bf n a)) (Bq bf n a) r rd).2.1 ≤ (rC bf n (a + evW (Bq bf n a)) (evW (Bq bf n a)) (Bq bf n a) r rd).1 := by
    obtain ⟨p1, p2, p3⟩ := k1 _ rfl 7 (by decide)
    show figW (figW (evW (Bq bf n a)) (Bq bf n (a + evW (Bq bf n a))) 0 7) (Bq bf n (a + evW (Bq bf n a) + figW (evW (Bq bf n a)) (Bq bf n (a + evW (Bq bf n a))) 0 7)) 0 5 < 2 ∧ a ≤ a + evW (Bq bf n a) + figW (evW (Bq bf n a)) (Bq bf n (a + evW (Bq bf n a))) 0 7 + figW (figW (evW (Bq bf n a)) (Bq bf n (a + evW (Bq bf n a))) 0 7) (Bq bf n (a + evW (Bq bf n a) + figW (evW (Bq bf n a)) (Bq bf n (a + evW (Bq bf n a))) 0 7)) 0 5 ∧ a + evW (Bq bf n a) + figW (evW (Bq bf n a)) (Bq bf n (a + evW (Bq bf n a))) 0 7 + figW (figW (evW (Bq bf n a)) (Bq bf n (a + evW (Bq bf n a))) 0 7) (Bq bf n (a + evW (Bq bf n a) + figW (evW (Bq bf n a)) (Bq bf n (a + evW (Bq bf n a))) 0 7)) 0 5 ≤ n ∧ r + figW (figW (evW (Bq bf n a)) (Bq bf n (a + evW (Bq bf n a))) 0 7) (Bq bf n (a + evW (Bq bf n a) + figW (evW (Bq bf n a)) (Bq bf n (a + evW (Bq bf n a))) 0 7)) 0 5 = r + figW (figW (evW (Bq bf n a)) (Bq bf n (a + evW (Bq bf n a))) 0 7) (Bq bf n (a + evW (Bq bf n a) + figW (evW (Bq bf n a)) (Bq bf n (a + evW (Bq bf n a))) 0 7)) 0 5 ∧ a + 2 * figW (figW (evW (Bq bf n a)) (Bq bf n (a + evW (Bq bf n a))) 0 7) (Bq bf n (a + evW (Bq bf n a) + figW (evW (Bq bf n a)) (Bq bf n (a + evW (Bq bf n a))) 0 7)) 0 5 ≤ a + evW (Bq bf n a) + figW (evW (Bq bf n a)) (Bq bf n (a + evW (Bq bf n a))) 0 7 + figW (figW (evW (Bq bf n a)) (Bq bf n (a + evW (Bq bf n a))) 0 7) (Bq bf n (a + evW (Bq bf n a) + figW (evW (Bq bf n a)) (Bq bf n (a + evW (Bq bf n a))) 0 7)) 0 5
    generalize figW (evW (Bq bf n a)) (Bq bf n (a + evW (Bq bf n a))) 0 7 = w1 at p1 p2 p3 ⊢
    generalize a + evW (Bq bf n a) = a1 at p2 p3 ⊢
    have h1 := figW_lt w1 (Bq bf n (a1 + w1)) 0 5
    have h2 := fig_step hbf w1 (a1 + w1) 0 5 (by decide) (by decide) p2
    generalize figW w1 (Bq bf n (a1 + w1)) 0 5 = w2 at h1 h2 ⊢
    by_cases c : w2 = 0
    · exact ⟨h1, by omega, h2.1, rfl, by omega⟩
    · have := h2.2 c
      exact ⟨h1, by omega, h2.1, rfl, by omega⟩
  have kO : ∀ hi : Nat, hi ≤ 9 → ((rO bf n (a + evW (Bq bf n a)) (evW (Bq bf n a)) (Bq bf n a) r hi rd).2.1 < 2 ∧ a ≤ (rO bf n (a + evW (Bq bf n a)) (evW (Bq bf n a)) (Bq bf n a) r hi rd).1 ∧ (rO bf n (a + evW (Bq bf n a)) (evW (Bq bf n a)) (Bq bf n a) r hi rd).1 ≤ n ∧ (rO bf n (a + evW (Bq bf n a)) (evW (Bq bf n a)) (Bq bf n a) r hi rd).2.2.1 = r + (rO bf n (a + evW (Bq bf n a)) (evW (Bq bf n a)) (Bq bf n a) r hi rd).2.1 ∧ a + 2 * (rO bf n (a + evW (Bq bf n a)) (evW (Bq bf n a)) (Bq bf n a) r hi rd).2.1 ≤ (rO bf n (a + evW (Bq bf n a)) (evW (Bq bf n a)) (Bq bf n a) r hi rd).1) := by
    intro hi hhi
    obtain ⟨p1, p2, p3⟩ := k1 _ rfl hi hhi
    exact ⟨p1, by show a ≤ a + evW (Bq bf n a) + figW (evW (Bq bf n a)) (Bq bf n (a + evW (Bq bf n a))) 0 hi; omega, p2, rfl, p3⟩
  unfold rEv
  by_cases c1 : Bq bf n a = 116
  · rw [if_pos c1]
    have h1 := figW_lt (evW (Bq bf n a)) (Bq bf n (a + evW (Bq bf n a))) 1 9
    have h2 := fig_step hbf (evW (Bq bf n a)) (a + evW (Bq bf n a)) 1 9 (by decide) (by decide) h0
    have h3 := num_step hbf (evW (Bq bf n a)) (a + evW (Bq bf n a)) h0
    refine ⟨h1, ?_, h3.1, rfl, ?_⟩
    · show a ≤ numA bf n (a + evW (Bq bf n a)) (evW (Bq bf n a)); omega
    · show a + 2 * figW (evW (Bq bf n a)) (Bq bf n (a + evW (Bq bf n a))) 1 9 ≤ numA bf n (a + evW (Bq bf n a)) (evW (Bq bf n a))
      by_cases c : figW (evW (Bq bf n a)) (Bq bf n (a + evW (Bq bf n a))) 1 9 = 0
      · omega
      · have := h2.2 c; omega
  rw [if_neg c1]
  by_cases c2 : Bq bf n a = 112
  · rw [if_pos c2]; exact kO 5 (by decide)
  rw [if_neg c2]
  by_cases c3 : Bq bf n a = 99
  · rw [if_pos c3]; exact kC
  rw [if_neg c3]
  by_cases c4 : Bq bf n a = 108
  · rw [if_pos c4]; exact kC
  rw [if_neg c4]
  by_cases c5 : Bq bf n a = 115
  · rw [if_pos c5]; exact kC
  rw [if_neg c5]; exact kO 7 (by decide)
theorem rOK_0 {bf : Nat → Int32} {n : Nat} (hbf : Tok bf n) (rd : Nat → Int32) : rOK n (rS bf n rd 0) 0 := by
  obtain ⟨h1, h2, h3, h4, h5⟩ := rEv_step hbf 0 0 rd (Nat.zero_le n)
  exact ⟨h1, h3, by show 3 * (rEv bf n 0 0 rd).2.2.1 ≤ (rEv bf n 0 0 rd).1 + 1; omega, Nat.zero_le _, fun _ => Nat.zero_le _⟩
theorem rOK_s {bf : Nat → Int32} {n i : Nat} {rd : Nat → Int32} (hbf : Tok bf n) (h : rOK n (rS bf n rd i) i) (hw : ¬ (rS bf n rd i).2.1 = 0) (ha : (rS bf n rd i).1 < n) : rOK n (rS bf n rd (i + 1)) (i + 1) := by
  obtain ⟨g1, g2, g3, g4, g5⟩ := h
  have g6 := g5 hw
  show rOK n (rStep bf n (rS bf n rd i)) (i + 1)
  generalize rS bf n rd i = t at g1 g2 g3 g4 g5 g6 hw ha ⊢
  unfold rStep
  by_cases c : Bq bf n t.1 = 59
  · rw [if_pos c]
    obtain ⟨h1, h2, h3, h4, h5⟩ := rEv_step hbf (t.1 + 1) t.2.2.1 t.2.2.2 ha
    exact ⟨h1, h3, by omega, by omega, fun _ => by omega⟩
  · rw [if_neg c]
    exact ⟨Nat.zero_lt_two, g2, g3, by show i + 1 ≤ t.1 + 1; omega, fun z => absurd rfl z⟩
theorem rOK_lt {n i : Nat} {t : RSt} (hn : n ≤ 60) (h : rOK n t i) : i < 100 := by obtain ⟨g1, g2, g3, g4, g5⟩ := h; omega
def rdP (rd : Nat → Int32) (k : Nat) : Prop := ∃ x y : Nat, x < 8 ∧ y < 6 ∧ rd (k + 1) = nI x ∧ rd (k + 2) = nI y
def rdOK (rd : Nat → Int32) (k : Nat) : Prop :=
  (rd k = nI 99 ∧ rdP rd k) ∨ (rd k = nI 108 ∧ rdP rd k) ∨ (rd k = nI 115 ∧ rdP rd k) ∨ (rd k = nI 112 ∧ ∃ x : Nat, x < 6 ∧ rd (k + 1) = nI x) ∨ (rd k = nI 116 ∧ ∃ x : Nat, (1 ≤ x ∧ x ≤ 60) ∧ rd (k + 1) = nI x) ∨ (rd k = nI 111 ∧ ∃ x : Nat, x < 8 ∧ rd (k + 1) = nI x)
theorem rdOK_congr {rd rd' : Nat → Int32} {k : Nat} (h0 : rd' k = rd k) (h1 : rd' (k + 1) = rd (k + 1)) (h2 : rd' (k + 2) = rd (k + 2)) (h : rdOK rd k) : rdOK rd' k := by
  unfold rdOK rdP at *
  rw [h0, h1, h2]; exact h
theorem num_val {bf : Nat → Int32} {n : Nat} (hbf : Tok bf n) (a w : Nat) (h : figW w (Bq bf n a) 1 9 ≠ 0) : ∃ x : Nat, (1 ≤ x ∧ x ≤ 60) ∧ numV bf n a w = nI x := by
  have h2 := figW_1 (Bq_lt hbf a) (by decide) (by decide) h
  have e1 : nI (Bq bf n a) - nI 48 = nI (Bq bf n a - 48) := pk_sub (by omega)
  unfold numV
  rw [if_neg h]
  by_cases d : numP bf n a w
  · rw [if_pos d]
    by_cases e : nI 60 < numX bf n a w
    · rw [if_pos e]; exact ⟨_, ⟨by omega, by omega⟩, e1⟩
    · rw [if_neg e]
      have h3 : 48 ≤ Bq bf n (a + figW w (Bq bf n a) 1 9) := (nI_leI (by decide) (Bq_lt31 hbf _)).mp d.1
      have h4 : Bq bf n (a + figW w (Bq bf n a) 1 9) ≤ 57 := (nI_leI (Bq_lt31 hbf _) (by decide)).mp d.2
      have e2 : numX bf n a w = nI (10 * (Bq bf n a - 48) + Bq bf n (a + figW w (Bq bf n a) 1 9) - 48) := by
        unfold numX
        rw [e1, pk_mul, nI_add, pk_sub (by omega)]
      rw [e2] at e ⊢
      refine ⟨_, ⟨by omega, ?_⟩, rfl⟩
      exact Nat.le_of_not_lt fun z => e ((nI_ltI (by decide) (by omega)).mpr z)
  · rw [if_neg d]; exact ⟨_, ⟨by omega, by omega⟩, e1⟩
theorem rEv_ok {bf : Nat → Int32} {n : Nat} (hbf : Tok bf n) (a r : Nat) (rd : Nat → Int32) (hall : ∀ i, i < r → rdOK rd (3 * i)) : ∀ i, i < (rEv bf n a r rd).2.2.1 → rdOK (rEv bf n a r rd).2.2.2 (3 * i) := by
  have fig1 : ∀ w b hi : Nat, hi ≤ 9 → figW w (Bq bf n b) 0 hi ≠ 0 → w ≠ 0 ∧ ∃ x : Nat, x ≤ hi ∧ nI (Bq bf n b) - nI 48 = nI x := by
    intro w b hi hhi h
    have h2 := figW_1 (Bq_lt hbf b) (by decide) hhi h
    exact ⟨h2.1, Bq bf n b - 48, by omega, pk_sub (by omega)⟩
  have kT : Bq bf n a = 116 → ∀ i, i < (rT bf n (a + evW (Bq bf n a)) (evW (Bq bf n a)) (Bq bf n a) r rd).2.2.1 → rdOK (rT bf n (a + evW (Bq bf n a)) (evW (Bq bf n a)) (Bq bf n a) r rd).2.2.2 (3 * i) := by
    intro hq i hi
    show rdOK (upd (upd rd (3 * r) (nI (Bq bf n a))) (3 * r + 1) (numV bf n (a + evW (Bq bf n a)) (evW (Bq bf n a)))) (3 * i)
    have hi : i < r + figW (evW (Bq bf n a)) (Bq bf n (a + evW (Bq bf n a))) 1 9 := hi
    have h1 := figW_lt (evW (Bq bf n a)) (Bq bf n (a + evW (Bq bf n a))) 1 9
    by_cases c : i < r
    · exact rdOK_congr (by rw [pk_un (by omega), pk_un (by omega)]) (by rw [pk_un (by omega), pk_un (by omega)]) (by rw [pk_un (by omega), pk_un (by omega)]) (hall i c)
    · obtain rfl : i = r := by omega
      obtain ⟨x, hx, ex⟩ := num_val hbf (a + evW (Bq bf n a)) (evW (Bq bf n a)) (by omega)
      refine Or.inr (Or.inr (Or.inr (Or.inr (Or.inl ⟨?_, x, hx, ?_⟩))))
      · rw [pk_un (by omega), pk_us, hq]
      · rw [pk_us, ex]
  have kO : ∀ hi : Nat, (hi = 5 ∧ Bq bf n a = 112) ∨ (hi = 7 ∧ (evW (Bq bf n a) ≠ 0 → Bq bf n a = 111)) → ∀ i, i < (rO bf n (a + evW (Bq bf n a)) (evW (Bq bf n a)) (Bq bf n a) r hi rd).2.2.1 → rdOK (rO bf n (a + evW (Bq bf n a)) (evW (Bq bf n a)) (Bq bf n a) r hi rd).2.2.2 (3 * i) := by
    intro hi hq i hlt
    show rdOK (upd (upd rd (3 * r) (nI (Bq bf n a))) (3 * r + 1) (nI (Bq bf n (a + evW (Bq bf n a))) - nI 48)) (3 * i)
    have hlt : i < r + figW (evW (Bq bf n a)) (Bq bf n (a + evW (Bq bf n a))) 0 hi := hlt
    have h1 := figW_lt (evW (Bq bf n a)) (Bq bf n (a + evW (Bq bf n a))) 0 hi
    by_cases c : i < r
    · exact rdOK_congr (by rw [pk_un (by omega), pk_un (by omega)]) (by rw [pk_un (by omega), pk_un (by omega)]) (by rw [pk_un (by omega), pk_un (by omega)]) (hall i c)
    · obtain rfl : i = r := by omega
      obtain ⟨hw, x, hx, ex⟩ := fig1 (evW (Bq bf n a)) (a + evW (Bq bf n a)) hi (by omega) (by omega)
      rcases hq with ⟨rfl, hq⟩ | ⟨rfl, hq⟩
      · refine Or.inr (Or.inr (Or.inr (Or.inl ⟨?_, x, by omega, ?_⟩)))
        · rw [pk_un (by omega), pk_us, hq]
        · rw [pk_us, ex]
      · refine Or.inr (Or.inr (Or.inr (Or.inr (Or.inr ⟨?_, x, by omega, ?_⟩))))
        · rw [pk_un (by omega), pk_us, hq hw]
        · rw [pk_us, ex]
  have kC : (Bq bf n a = 99 ∨ Bq bf n a = 108 ∨ Bq bf n a = 115) → ∀ i, i < (rC bf n (a + evW (Bq bf n a)) (evW (Bq bf n a)) (Bq bf n a) r rd).2.2.1 → rdOK (rC bf n (a + evW (Bq bf n a)) (evW (Bq bf n a)) (Bq bf n a) r rd).2.2.2 (3 * i) := by
    intro hq i hlt
    unfold rC at hlt ⊢
    generalize hw0 : evW (Bq bf n a) = w0 at hlt ⊢
    generalize ha1 : a + w0 = a1 at hlt ⊢
    generalize ha2 : a1 + figW w0 (Bq bf n a1) 0 7 = a2 at hlt ⊢
    show rdOK (upd (upd (upd rd (3 * r) (nI (Bq bf n a))) (3 * r + 1) (nI (Bq bf n a1) - nI 48)) (3 * r + 2) (nI (Bq bf n a2) - nI 48)) (3 * i)
    have hlt : i < r + figW (figW w0 (Bq bf n a1) 0 7) (Bq bf n a2) 0 5 := hlt
    have h1 := figW_lt (figW w0 (Bq bf n a1) 0 7) (Bq bf n a2) 0 5
    by_cases c : i < r
    · exact rdOK_congr (by rw [pk_un (by omega), pk_un (by omega), pk_un (by omega)]) (by rw [pk_un (by omega), pk_un (by omega), pk_un (by omega)]) (by rw [pk_un (by omega), pk_un (by omega), pk_un (by omega)]) (hall i c)
    · obtain rfl : i = r := by omega
      obtain ⟨hw, y, hy, ey⟩ := fig1 (figW w0 (Bq bf n a1) 0 7) a2 5 (by decide) (by omega)
      obtain ⟨hw1, x, hx, ex⟩ := fig1 w0 a1 7 (by decide) hw
      have hp : rdP (upd (upd (upd rd (3 * i) (nI (Bq bf n a))) (3 * i + 1) (nI (Bq bf n a1) - nI 48)) (3 * i + 2) (nI (Bq bf n a2) - nI 48)) (3 * i) := by
        refine ⟨x, y, by omega, by omega, ?_, ?_⟩
        · rw [pk_un (by omega), pk_us, ex]
        · rw [pk_us, ey]
      have h0 : upd (upd (upd rd (3 * i) (nI (Bq bf n a))) (3 * i + 1) (nI (Bq bf n a1) - nI 48)) (3 * i + 2) (nI (Bq bf n a2) - nI 48) (3 * i) = nI (Bq bf n a) := by
        rw [pk_un (by omega), pk_un (by omega), pk_us]
      rcases hq with hq | hq | hq
      · exact Or.inl ⟨by rw [h0, hq], hp⟩
      · exact Or.inr (Or.inl ⟨by rw [h0, hq], hp⟩)
      · exact Or.inr (Or.inr (Or.inl ⟨by rw [h0, hq], hp⟩))
  unfold rEv
  by_cases c1 : Bq bf n a = 116
  · rw [if_pos c1]; exact kT c1
  rw [if_neg c1]
  by_cases c2 : Bq bf n a = 112
  · rw [if_pos c2]; exact kO 5 (Or.inl ⟨rfl, c2⟩)
  rw [if_neg c2]
  by_cases c3 : Bq bf n a = 99
  · rw [if_pos c3]; exact kC (Or.inl c3)
  rw [if_neg c3]
  by_cases c4 : Bq bf n a = 108
  · rw [if_pos c4]; exact kC (Or.inr (Or.inl c4))
  rw [if_neg c4]
  by_cases c5 : Bq bf n a = 115
  · rw [if_pos c5]; exact kC (Or.inr (Or.inr c5))
  rw [if_neg c5]; exact kO 7 (Or.inr ⟨rfl, fun z => by have := evW_in z; omega⟩)
theorem rS_ok {bf : Nat → Int32} {n : Nat} (hbf : Tok bf n) (rd : Nat → Int32) (j : Nat) : ∀ i, i < (rS bf n rd j).2.2.1 → rdOK (rS bf n rd j).2.2.2 (3 * i) := by
  induction j with
  | zero => exact rEv_ok hbf 0 0 rd (fun i h => absurd h (Nat.not_lt_zero i))
  | succ j ih =>
    show ∀ i, i < (rStep bf n (rS bf n rd j)).2.2.1 → rdOK (rStep bf n (rS bf n rd j)).2.2.2 (3 * i)
    unfold rStep
    by_cases c : Bq bf n (rS bf n rd j).1 = 59
    · rw [if_pos c]; exact rEv_ok hbf _ _ _ ih
    · rw [if_neg c]; exact ih
theorem rFin_ok {bf : Nat → Int32} {n : Nat} (hbf : Tok bf n) (rd : Nat → Int32) : ∀ i, i < (rFin bf n rd).2.2.1 → rdOK (rFin bf n rd).2.2.2 (3 * i) := rS_ok hbf rd _
theorem rEnd_ok {bf : Nat → Int32} {n : Nat} {rd : Nat → Int32} (hn : n ≤ 60) (hbf : Tok bf n) : ∀ m i, rOK n (rS bf n rd i) i → ∃ j, rdEnd bf n rd i m = j ∧ rOK n (rS bf n rd j) j := by
  intro m
  induction m with
  | zero => exact fun i h => ⟨i, rfl, h⟩
  | succ m ih =>
    intro i h
    show ∃ j, (if rGo n (rS bf n rd i) then rdEnd bf n rd (i + 1) m else i) = j ∧ _
    by_cases c : rGo n (rS bf n rd i)
    · rw [if_pos c]; exact ih (i + 1) (rOK_s hbf h c.1 c.2)
    · rw [if_neg c]; exact ⟨i, rfl, h⟩
theorem rFin_lt {bf : Nat → Int32} {n : Nat} (hn : n ≤ 60) (hbf : Tok bf n) (rd : Nat → Int32) : (rFin bf n rd).2.1 < 2 ∧ (rFin bf n rd).1 ≤ 60 ∧ 3 * (rFin bf n rd).2.2.1 ≤ 61 := by
  obtain ⟨j, e, h1, h2, h3, h4, h5⟩ := rEnd_ok (rd := rd) hn hbf 100 0 (rOK_0 hbf rd)
  unfold rFin
  rw [e]
  exact ⟨h1, by omega, by omega⟩
def Mcl (rd : Nat → Int32) (k : Nat) : Nat := 6 * (rd (k + 1)).toNatClampNeg + (rd (k + 2)).toNatClampNeg
theorem Mcl_eq {rd : Nat → Int32} {k x y : Nat} (hx8 : x < 8) (hy6 : y < 6) (hx : rd (k + 1) = nI x) (hy : rd (k + 2) = nI y) : Mcl rd k = 6 * x + y := by
  unfold Mcl; rw [hx, hy, nI_clamp (by omega), nI_clamp (by omega)]
def MevC (c : Nat) (s : Nat → Int32) : Nat → Int32 := if nI 9 ≤ s (21 + c) then s else Mcomes c s
def MevCB (c : Nat) (s : Nat → Int32) : Nat := if nI 9 ≤ s (21 + c) then 0 else if Mcomes c s (21 + c) ≤ 0 then 0 else 1
def MevL (c b : Nat) (s : Nat → Int32) : Nat → Int32 := if s (21 + c) ≤ 0 then s else Mleaves c b s
def MevLB (c b : Nat) (s : Nat → Int32) : Nat := if s (21 + c) ≤ 0 then 0 else if Mleaves c b s (21 + c) < 0 then 0 else 1
def Mev (rd : Nat → Int32) (k : Nat) (s : Nat → Int32) : Nat → Int32 :=
  if rd k = nI 99 then MevC (Mcl rd k) s else if rd k = nI 108 then MevL (Mcl rd k) 1 s else if rd k = nI 115 then MevL (Mcl rd k) 0 s
  else if rd k = nI 112 then MplayN s (rd (k + 1)).toNatClampNeg 8 else if rd k = nI 116 then MgoN s (rd (k + 1)).toNatClampNeg
  else upd s (13 + (rd (k + 1)).toNatClampNeg) (nI 1 - s (13 + (rd (k + 1)).toNatClampNeg))
def MevN (rd : Nat → Int32) (k : Nat) (s : Nat → Int32) : Nat :=
  if rd k = nI 99 then MevCB (Mcl rd k) s else if rd k = nI 108 then MevLB (Mcl rd k) 1 s else if rd k = nI 115 then MevLB (Mcl rd k) 0 s
  else if rd k = nI 112 then (if MplayQ s (rd (k + 1)).toNatClampNeg 8 < 0 then 0 else 1) else if rd k = nI 116 then (if MgoQ s (rd (k + 1)).toNatClampNeg < 0 then 0 else 1)
  else 1
theorem MevN_lt (rd : Nat → Int32) (k : Nat) (s : Nat → Int32) : MevN rd k s < 2 := by
  unfold MevN MevCB MevLB
  (repeat' split) <;> omega
def MrunN (rd : Nat → Int32) (s : Nat → Int32) : Nat → Nat → Int32
  | 0 => s
  | i + 1 => Mev rd (3 * i) (MrunN rd s i)
def MrunE (rd : Nat → Int32) (s : Nat → Int32) (r : Nat) : Nat → Nat → Nat
  | i, 0 => i
  | i, m + 1 => if MevN rd (3 * i) (MrunN rd s i) = 0 then i else MrunE rd s r (i + 1) m
theorem MrunE_go {rd s : Nat → Int32} {r i : Nat} (hi : i < r) : MrunE rd s r i (r - i) = if MevN rd (3 * i) (MrunN rd s i) = 0 then i else MrunE rd s r (i + 1) (r - (i + 1)) := by
  rw [show r - i = (r - (i + 1)) + 1 by omega]; rfl
/-- what the failing event, or none, leaves -/
def MrunS (rd : Nat → Int32) (s : Nat → Int32) (r : Nat) : Nat → Int32 := if MrunE rd s r 0 r < r then MrunN rd s (MrunE rd s r 0 r + 1) else MrunN rd s (MrunE rd s r 0 r)
def MrunM (j n : Nat) (m : MSt) : MSt :=
  if (rFin (mbf m) n (mrd m)).2.1 = 0 then sMth (MR (sMth m (nI 0)) (rFin (mbf m) n (mrd m))) (nI 1)
  else sMs (sMln (sMsm (sMsv (MR (sMth m (nI 0)) (rFin (mbf m) n (mrd m))) (Msv (ms m) (msv m) j)) (nI (kSz j))) (nI 0)) (MrunS (rFin (mbf m) n (mrd m)).2.2.2 (ms m) (rFin (mbf m) n (mrd m)).2.2.1)
def MrunR (n : Nat) (m : MSt) : Nat :=
  if (rFin (mbf m) n (mrd m)).2.1 = 0 then 0 else MrunE (rFin (mbf m) n (mrd m)).2.2.2 (ms m) (rFin (mbf m) n (mrd m)).2.2.1 0 (rFin (mbf m) n (mrd m)).2.2.1

theorem dSh_n64 {x z : Int32} (hz : ¬ z = 0) : vf_n64 (FP.ddiv (FP.i2d x) (FP.i2d z)) := Jvm.Free.Fl.ddiv_out (Jvm.Free.Fl.i2d_fin x).noNaN (Jvm.Free.Fl.i2d_fin z) (Jvm.Free.Fl.i2d_nz hz)
def dSh (x y : Int32) : UInt64 := if x + y = 0 then FP.dconst1 else FP.ddiv (FP.i2d x) (FP.i2d (x + y))
end
section
/-! the class's state beside the reference's -/
def mask (h : HSt) : Int32 := if hf2 h = 0 then (if hf1 h = 0 then nI 0 else nI 2) else (if hf1 h = 0 then nI 4 else nI 6)
def RelS (h : HSt) (s : Nat → Int32) : Prop :=
  (∀ k, k < 48 → s (21 + k) = hL h k) ∧ (∀ k, k < 48 → s (69 + k) = hR h k) ∧ (∀ c, c < 6 → s (7 + c) = hC h c) ∧ s 0 = hfd h ∧ s 1 = hpt h ∧ s 2 = has h ∧ s 3 = hqk h ∧ s 4 = mask h ∧ s 5 = hmn h ∧ s 6 = hsn h ∧ (∀ r, r < 8 → s (13 + r) = bI (Hopen h r))
theorem pk_add {f : Nat → Int32} {b k j : Nat} {v : Int32} : upd f (b + k) v (b + j) = upd (fun x => f (b + x)) k v j := by
  by_cases e : j = k
  · subst e; rw [pk_us, pk_us]
  · rw [pk_un (by omega), pk_un e]
theorem upd_congr {f g : Nat → Int32} {k j n : Nat} {v : Int32} (h : ∀ j, j < n → f j = g j) (hj : j < n) : upd f k v j = upd g k v j := by
  by_cases e : j = k
  · subst e; rw [pk_us, pk_us]
  · rw [pk_un e, pk_un e]; exact h j hj
theorem rel_L {h : HSt} {s : Nat → Int32} (r : RelS h s) {k : Nat} (v : Int32) (hk : k < 48) : RelS (sHL h (upd (hL h) k v)) (upd s (21 + k) v) := by
  obtain ⟨r1, r2, r3, r4, r5, r6, r7, r8, r9, r10, r11⟩ := r
  refine ⟨fun j hj => ?_, fun j hj => ?_, fun j hj => ?_, ?_, ?_, ?_, ?_, ?_, ?_, ?_, fun j hj => ?_⟩
  · rw [pk_add]; exact upd_congr r1 hj
  · rw [pk_un (by omega)]; exact r2 j hj
  · rw [pk_un (by omega)]; exact r3 j hj
  · rw [pk_un (by omega)]; exact r4
  · rw [pk_un (by omega)]; exact r5
  · rw [pk_un (by omega)]; exact r6
  · rw [pk_un (by omega)]; exact r7
  · rw [pk_un (by omega)]; exact r8
  · rw [pk_un (by omega)]; exact r9
  · rw [pk_un (by omega)]; exact r10
  · rw [pk_un (by omega)]; exact r11 j hj
theorem rel_R {h : HSt} {s : Nat → Int32} (r : RelS h s) {k : Nat} (v : Int32) (hk : k < 48) : RelS (sHR h (upd (hR h) k v)) (upd s (69 + k) v) := by
  obtain ⟨r1, r2, r3, r4, r5, r6, r7, r8, r9, r10, r11⟩ := r
  refine ⟨fun j hj => ?_, fun j hj => ?_, fun j hj => ?_, ?_, ?_, ?_, ?_, ?_, ?_, ?_, fun j hj => ?_⟩
  · rw [pk_un (by omega)]; exact r1 j hj
  · rw [pk_add]; exact upd_congr r2 hj
  · rw [pk_un (by omega)]; exact r3 j hj
  · rw [pk_un (by omega)]; exact r4
  · rw [pk_un (by omega)]; exact r5
  · rw [pk_un (by omega)]; exact r6
  · rw [pk_un (by omega)]; exact r7
  · rw [pk_un (by omega)]; exact r8
  · rw [pk_un (by omega)]; exact r9
  · rw [pk_un (by omega)]; exact r10
  · rw [pk_un (by omega)]; exact r11 j hj
theorem rel_C {h : HSt} {s : Nat → Int32} (r : RelS h s) {k : Nat} (v : Int32) (hk : k < 6) : RelS (sHC h (upd (hC h) k v)) (upd s (7 + k) v) := by
  obtain ⟨r1, r2, r3, r4, r5, r6, r7, r8, r9, r10, r11⟩ := r
  refine ⟨fun j hj => ?_, fun j hj => ?_, fun j hj => ?_, ?_, ?_, ?_, ?_, ?_, ?_, ?_, fun j hj => ?_⟩
  · rw [pk_un (by omega)]; exact r1 j hj
  · rw [pk_un (by omega)]; exact r2 j hj
  · rw [pk_add]; exact upd_congr r3 hj
  · rw [pk_un (by omega)]; exact r4
  · rw [pk_un (by omega)]; exact r5
  · rw [pk_un (by omega)]; exact r6
  · rw [pk_un (by omega)]; exact r7
  · rw [pk_un (by omega)]; exact r8
  · rw [pk_un (by omega)]; exact r9
  · rw [pk_un (by omega)]; exact r10
  · rw [pk_un (by omega)]; exact r11 j hj
theorem rel_fd {h : HSt} {s : Nat → Int32} (r : RelS h s) (v : Int32) : RelS (sHfd h v) (upd s 0 v) := by
  obtain ⟨r1, r2, r3, r4, r5, r6, r7, r8, r9, r10, r11⟩ := r
  refine ⟨fun j hj => ?_, fun j hj => ?_, fun j hj => ?_, ?_, ?_, ?_, ?_, ?_, ?_, ?_, fun j hj => ?_⟩
  · rw [pk_un (by omega)]; exact r1 j hj
  · rw [pk_un (by omega)]; exact r2 j hj
  · rw [pk_un (by omega)]; exact r3 j hj
  · exact pk_us
  · rw [pk_un (by decide)]; exact r5
  · rw [pk_un (by decide)]; exact r6
  · rw [pk_un (by decide)]; exact r7
  · rw [pk_un (by decide)]; exact r8
  · rw [pk_un (by decide)]; exact r9
  · rw [pk_un (by decide)]; exact r10
  · rw [pk_un (by omega)]; exact r11 j hj
theorem rel_pt {h : HSt} {s : Nat → Int32} (r : RelS h s) (v : Int32) : RelS (sHpt h v) (upd s 1 v) := by
  obtain ⟨r1, r2, r3, r4, r5, r6, r7, r8, r9, r10, r11⟩ := r
  refine ⟨fun j hj => ?_, fun j hj => ?_, fun j hj => ?_, ?_, ?_, ?_, ?_, ?_, ?_, ?_, fun j hj => ?_⟩
  · rw [pk_un (by omega)]; exact r1 j hj
  · rw [pk_un (by omega)]; exact r2 j hj
  · rw [pk_un (by omega)]; exact r3 j hj
  · rw [pk_un (by decide)]; exact r4
  · exact pk_us
  · rw [pk_un (by decide)]; exact r6
  · rw [pk_un (by decide)]; exact r7
  · rw [pk_un (by decide)]; exact r8
  · rw [pk_un (by decide)]; exact r9
  · rw [pk_un (by decide)]; exact r10
  · rw [pk_un (by omega)]; exact r11 j hj
theorem rel_as {h : HSt} {s : Nat → Int32} (r : RelS h s) (v : Int32) : RelS (sHas h v) (upd s 2 v) := by
  obtain ⟨r1, r2, r3, r4, r5, r6, r7, r8, r9, r10, r11⟩ := r
  refine ⟨fun j hj => ?_, fun j hj => ?_, fun j hj => ?_, ?_, ?_, ?_, ?_, ?_, ?_, ?_, fun j hj => ?_⟩
  · rw [pk_un (by omega)]; exact r1 j hj
  · rw [pk_un (by omega)]; exact r2 j hj
  · rw [pk_un (by omega)]; exact r3 j hj
  · rw [pk_un (by decide)]; exact r4
  · rw [pk_un (by decide)]; exact r5
  · exact pk_us
  · rw [pk_un (by decide)]; exact r7
  · rw [pk_un (by decide)]; exact r8
  · rw [pk_un (by decide)]; exact r9
  · rw [pk_un (by decide)]; exact r10
  · rw [pk_un (by omega)]; exact r11 j hj
theorem rel_qk {h : HSt} {s : Nat → Int32} (r : RelS h s) (v : Int32) : RelS (sHqk h v) (upd s 3 v) := by
  obtain ⟨r1, r2, r3, r4, r5, r6, r7, r8, r9, r10, r11⟩ := r
  refine ⟨fun j hj => ?_, fun j hj => ?_, fun j hj => ?_, ?_, ?_, ?_, ?_, ?_, ?_, ?_, fun j hj => ?_⟩
  · rw [pk_un (by omega)]; exact r1 j hj
  · rw [pk_un (by omega)]; exact r2 j hj
  · rw [pk_un (by omega)]; exact r3 j hj
  · rw [pk_un (by decide)]; exact r4
  · rw [pk_un (by decide)]; exact r5
  · rw [pk_un (by decide)]; exact r6
  · exact pk_us
  · rw [pk_un (by decide)]; exact r8
  · rw [pk_un (by decide)]; exact r9
  · rw [pk_un (by decide)]; exact r10
  · rw [pk_un (by omega)]; exact r11 j hj
theorem rel_mn {h : HSt} {s : Nat → Int32} (r : RelS h s) (v : Int32) : RelS (sHmn h v) (upd s 5 v) := by
  obtain ⟨r1, r2, r3, r4, r5, r6, r7, r8, r9, r10, r11⟩ := r
  refine ⟨fun j hj => ?_, fun j hj => ?_, fun j hj => ?_, ?_, ?_, ?_, ?_, ?_, ?_, ?_, fun j hj => ?_⟩
  · rw [pk_un (by omega)]; exact r1 j hj
  · rw [pk_un (by omega)]; exact r2 j hj
  · rw [pk_un (by omega)]; exact r3 j hj
  · rw [pk_un (by decide)]; exact r4
  · rw [pk_un (by decide)]; exact r5
  · rw [pk_un (by decide)]; exact r6
  · rw [pk_un (by decide)]; exact r7
  · rw [pk_un (by decide)]; exact r8
  · exact pk_us
  · rw [pk_un (by decide)]; exact r10
  · rw [pk_un (by omega)]; exact r11 j hj
theorem rel_sn {h : HSt} {s : Nat → Int32} (r : RelS h s) (v : Int32) : RelS (sHsn h v) (upd s 6 v) := by
  obtain ⟨r1, r2, r3, r4, r5, r6, r7, r8, r9, r10, r11⟩ := r
  refine ⟨fun j hj => ?_, fun j hj => ?_, fun j hj => ?_, ?_, ?_, ?_, ?_, ?_, ?_, ?_, fun j hj => ?_⟩
  · rw [pk_un (by omega)]; exact r1 j hj
  · rw [pk_un (by omega)]; exact r2 j hj
  · rw [pk_un (by omega)]; exact r3 j hj
  · rw [pk_un (by decide)]; exact r4
  · rw [pk_un (by decide)]; exact r5
  · rw [pk_un (by decide)]; exact r6
  · rw [pk_un (by decide)]; exact r7
  · rw [pk_un (by decide)]; exact r8
  · rw [pk_un (by decide)]; exact r9
  · exact pk_us
  · rw [pk_un (by omega)]; exact r11 j hj
theorem upd_id {f : Nat → Int32} {k : Nat} {x : Int32} (h : f k = x) : upd f k x = f := funext fun j => by
  by_cases e : j = k
  · subst e; rw [pk_us, h]
  · rw [pk_un e]
theorem nz : nI 0 = 0 := rfl
theorem le0 {l : Nat} (hl : l < 2 ^ 31) : nI l ≤ 0 ↔ l = 0 := by
  rw [← nz, nI_leI hl (by decide)]; omega
/-- the bounds that every state keeps -/
def Inv (h : HSt) : Prop :=
  (∀ k, k < 48 → ∃ l : Nat, l ≤ 9 ∧ hL h k = nI l) ∧ (∀ k, k < 48 → ∃ l : Nat, l ≤ 60 ∧ hR h k = nI l) ∧ (∃ f : Nat, (2 ≤ f ∧ f ≤ 60) ∧ hfd h = nI f) ∧ (∃ p : Nat, (1 ≤ p ∧ p ≤ 10) ∧ hpt h = nI p) ∧ (∃ q : Nat, (1 ≤ q ∧ q ≤ 30) ∧ has h = nI q) ∧ (∃ t : Nat, t ≤ 59 ∧ hsn h = nI t) ∧ (∃ w : Nat, w < 256 ∧ hop h = nI w)
theorem upd_ex {f : Nat → Int32} {n b k l : Nat} (h : ∀ j, j < n → ∃ z : Nat, z ≤ b ∧ f j = nI z) (hl : l ≤ b) : ∀ j, j < n → ∃ z : Nat, z ≤ b ∧ upd f k (nI l) j = nI z := by
  intro j hj
  by_cases e : j = k
  · subst e; exact ⟨l, hl, pk_us⟩
  · rw [pk_un e]; exact h j hj
theorem inv_L {h : HSt} (i : Inv h) (k : Nat) {l : Nat} (hl : l ≤ 9) : Inv (sHL h (upd (hL h) k (nI l))) := ⟨upd_ex i.1 hl, i.2⟩
theorem inv_R {h : HSt} (i : Inv h) (k : Nat) {l : Nat} (hl : l ≤ 60) : Inv (sHR h (upd (hR h) k (nI l))) := ⟨i.1, upd_ex i.2.1 hl, i.2.2⟩
theorem inv_C {h : HSt} (i : Inv h) (F : Nat → Int32) : Inv (sHC h F) := i
theorem inv_mn {h : HSt} (i : Inv h) (v : Int32) : Inv (sHmn h v) := i
theorem inv_sn {h : HSt} (i : Inv h) {t : Nat} (ht : t ≤ 59) : Inv (sHsn h (nI t)) := ⟨i.1, i.2.1, i.2.2.1, i.2.2.2.1, i.2.2.2.2.1, ⟨t, ht, rfl⟩, i.2.2.2.2.2.2⟩
theorem inv_call {h : HSt} (i : Inv h) (k : Nat) : Inv (Hcall k h) := by
  obtain ⟨f, hf, e⟩ := i.2.2.1
  have h1 := inv_R i k (l := f) hf.2
  rw [← e] at h1
  exact inv_C h1 _
theorem rel_call {h : HSt} {s : Nat → Int32} (r : RelS h s) {k : Nat} (hk : k < 48) : RelS (Hcall k h) (Mcalls k s) := by
  have e0 : s 0 = hfd h := r.2.2.2.1
  have e5 : s 12 = hC h 5 := r.2.2.1 5 (by decide)
  have h2 := rel_C (rel_R r (hfd h) hk) (k := 5) (hC h 5 + nI 1) (by decide)
  have e : Mcalls k s = upd (upd s (69 + k) (hfd h)) 12 (hC h 5 + nI 1) := by
    unfold Mcalls
    rw [pk_un (by omega), e0, e5]
  rw [e]
  exact h2
theorem rel_askN {h : HSt} {s : Nat → Int32} (r : RelS h s) : ∀ n, n ≤ 48 → RelS (HaskN h n) (MaskN s n) := by
  intro n
  induction n with
  | zero => exact fun _ => r
  | succ n ih =>
    intro hn
    have ih := ih (by omega)
    have e : MaskN s n (21 + n) = hL (HaskN h n) n := ih.1 n hn
    show RelS (if ¬ hL (HaskN h n) n ≤ 0 then Hcall n (HaskN h n) else HaskN h n) (if MaskN s n (21 + n) ≤ 0 then MaskN s n else Mcalls n (MaskN s n))
    rw [e]
    by_cases c : hL (HaskN h n) n ≤ 0
    · rw [if_neg (not_not_intro c), if_pos c]; exact ih
    · rw [if_pos c, if_neg c]; exact rel_call ih hn
theorem inv_askN {h : HSt} (i : Inv h) (n : Nat) : Inv (HaskN h n) := by
  induction n with
  | zero => exact i
  | succ n ih =>
    show Inv (if ¬ hL (HaskN h n) n ≤ 0 then Hcall n (HaskN h n) else HaskN h n)
    by_cases c : hL (HaskN h n) n ≤ 0
    · rw [if_neg (not_not_intro c)]; exact ih
    · rw [if_pos c]; exact inv_call ih n
theorem rel_fadeN {h : HSt} {s : Nat → Int32} (r : RelS h s) : ∀ n, n ≤ 48 → RelS (sHR h (HfadeN (hR h) n)) (MfadeN s n) := by
  intro n
  induction n with
  | zero => exact fun _ => r
  | succ n ih =>
    intro hn
    have ih := ih (by omega)
    have e : MfadeN s n (69 + n) = HfadeN (hR h) n n := ih.2.1 n hn
    show RelS (sHR h (if HfadeN (hR h) n n ≤ 0 then HfadeN (hR h) n else upd (HfadeN (hR h) n) n (HfadeN (hR h) n n - nI 1))) (upd (MfadeN s n) (69 + n) (MfadeN s n (69 + n) - bI (¬ MfadeN s n (69 + n) ≤ 0)))
    by_cases c : HfadeN (hR h) n n ≤ 0
    · rw [if_pos c, upd_id (by rw [e, bI_f (not_not_intro c), nz, Int32.sub_zero])]; exact ih
    · rw [if_neg c, e, bI_t c]
      exact rel_R ih (HfadeN (hR h) n n - nI 1) hn
theorem fadeN_ex {R : Nat → Int32} (h : ∀ k, k < 48 → ∃ l : Nat, l ≤ 60 ∧ R k = nI l) : ∀ n, n ≤ 48 → ∀ k, k < 48 → ∃ l : Nat, l ≤ 60 ∧ HfadeN R n k = nI l := by
  intro n
  induction n with
  | zero => exact fun _ => h
  | succ n ih =>
    intro hn
    have ih := ih (by omega)
    obtain ⟨l, hl, el⟩ := ih n hn
    show ∀ k, k < 48 → ∃ l : Nat, l ≤ 60 ∧ (if HfadeN R n n ≤ 0 then HfadeN R n else upd (HfadeN R n) n (HfadeN R n n - nI 1)) k = nI l
    by_cases c : HfadeN R n n ≤ 0
    · rw [if_pos c]; exact ih
    · rw [if_neg c]
      rw [el] at c ⊢
      have hp : l ≠ 0 := fun z => c ((le0 (by omega)).mpr z)
      rw [pk_sub (by omega)]
      exact upd_ex ih (by omega)
theorem Htk_eq (h : HSt) : Htk h = sHsn (sHmn (sHR h (HfadeN (hR h) 48)) (hmn h + nI 1)) (hsn h + nI 1) := by
  unfold Htk Hfade
  show sHsn (sHR (sHmn h (hmn h + nI 1)) (HfadeN (hR h) 48)) (hsn h + nI 1) = _
  generalize HfadeN (hR h) 48 = F
  rfl
theorem rel_tk {h : HSt} {s : Nat → Int32} (r : RelS h s) : RelS (Htk h) (Mtk s) := by
  have f := rel_fadeN r 48 (Nat.le_refl 48)
  have e5 : MfadeN s 48 5 = hmn h := f.2.2.2.2.2.2.2.2.1
  have e6 : MfadeN s 48 6 = hsn h := f.2.2.2.2.2.2.2.2.2.1
  have m2 := rel_sn (rel_mn f (hmn h + nI 1)) (hsn h + nI 1)
  have e : Mtk s = upd (upd (MfadeN s 48) 5 (hmn h + nI 1)) 6 (hsn h + nI 1) := by
    unfold Mtk Mt1
    rw [pk_un (by decide), e5, e6]
  rw [Htk_eq, e]
  exact m2
theorem chief_eq {h : HSt} {s : Nat → Int32} (r : RelS h s) : Mchief s = Hchief h := by
  have e4 : s 4 = mask h := r.2.2.2.2.2.2.2.1
  unfold Mchief Hchief
  rw [e4]
  unfold mask
  by_cases c2 : hf2 h = 0
  · rw [if_pos c2, if_pos c2]
    by_cases c1 : hf1 h = 0
    · rw [if_pos c1, if_pos c1]; decide
    · rw [if_neg c1, if_neg c1]; decide
  · rw [if_neg c2, if_neg c2]
    by_cases c1 : hf1 h = 0
    · rw [if_pos c1]; decide
    · rw [if_neg c1]; decide
theorem due_eq {h : HSt} {s : Nat → Int32} (r : RelS h s) : Mdue s = Htbq h := by
  have e2 : s 2 = has h := r.2.2.2.2.2.1
  unfold Mdue Htbq
  rw [chief_eq r, e2]
theorem tbq_nat {h : HSt} (i : Inv h) : ∃ d : Nat, (1 ≤ d ∧ d ≤ 60) ∧ Htbq h = nI d := by
  obtain ⟨q, hq, e⟩ := i.2.2.2.2.1
  unfold Htbq
  by_cases c : Hchief h = 0
  · rw [if_pos c]; exact ⟨q, ⟨hq.1, by omega⟩, e⟩
  · rw [if_neg c, e, pk_mul]; exact ⟨2 * q, ⟨by omega, by omega⟩, rfl⟩
theorem rel_min {h : HSt} {s : Nat → Int32} (r : RelS h s) : RelS (Hmin h) (Mgo s) := by
  have t := rel_tk r
  have e6 : Mtk s 6 = hsn (Htk h) := t.2.2.2.2.2.2.2.2.2.1
  unfold Hmin Mgo
  rw [e6, due_eq t]
  by_cases c : hsn (Htk h) < Htbq (Htk h)
  · rw [if_pos c, if_neg (not_not_intro c)]; exact t
  · rw [if_neg c, if_pos c]
    have m1 := rel_sn t (nI 0)
    have e3 : upd (Mtk s) 6 (nI 0) 10 = hC (sHsn (Htk h) (nI 0)) 3 := m1.2.2.1 3 (by decide)
    have m2 := rel_C m1 (k := 3) (hC (sHsn (Htk h) (nI 0)) 3 + nI 1) (by decide)
    have e : Mq1 s = upd (upd (Mtk s) 6 (nI 0)) (7 + 3) (hC (sHsn (Htk h) (nI 0)) 3 + nI 1) := by
      unfold Mq1
      rw [e3]
    rw [e]
    exact rel_askN m2 48 (Nat.le_refl 48)
theorem inv_tk {h : HSt} (i : Inv h) {t : Nat} (ht : t ≤ 59) (e : hsn h + nI 1 = nI t) : Inv (Htk h) := by
  rw [Htk_eq, e]
  have f := fadeN_ex i.2.1 48 (Nat.le_refl 48)
  generalize HfadeN (hR h) 48 = F at f ⊢
  exact ⟨i.1, f, i.2.2.1, i.2.2.2.1, i.2.2.2.2.1, ⟨t, ht, rfl⟩, i.2.2.2.2.2.2⟩
theorem inv_tk0 {h : HSt} (i : Inv h) : Inv (sHsn (Htk h) (nI 0)) := by
  rw [Htk_eq]
  have f := fadeN_ex i.2.1 48 (Nat.le_refl 48)
  generalize HfadeN (hR h) 48 = F at f ⊢
  exact ⟨i.1, f, i.2.2.1, i.2.2.2.1, i.2.2.2.2.1, ⟨0, by decide, rfl⟩, i.2.2.2.2.2.2⟩
theorem tbq_tk (h : HSt) : Htbq (Htk h) = Htbq h := by
  rw [Htk_eq]
  generalize HfadeN (hR h) 48 = F
  rfl
theorem hsn_tk (h : HSt) : hsn (Htk h) = hsn h + nI 1 := by
  rw [Htk_eq]
theorem inv_min {h : HSt} (i : Inv h) : Inv (Hmin h) := by
  obtain ⟨t, ht, et⟩ := i.2.2.2.2.2.1
  obtain ⟨d, hd, ed⟩ := tbq_nat i
  unfold Hmin
  rw [tbq_tk, hsn_tk]
  by_cases c : hsn h + nI 1 < Htbq h
  · rw [if_pos c]
    have e1 : hsn h + nI 1 = nI (t + 1) := by rw [et, nI_add]
    rw [e1, ed] at c
    have c2 := (nI_ltI (by omega) (by omega)).mp c
    exact inv_tk i (by omega) e1
  · rw [if_neg c]; exact inv_askN (inv_C (inv_tk0 i) _) 48
theorem rel_pass {h : HSt} {s : Nat → Int32} (r : RelS h s) (n : Nat) : RelS (HpassN h n) (MgoN s n) := by
  induction n with
  | zero => exact r
  | succ n ih => exact rel_min ih
theorem inv_pass {h : HSt} (i : Inv h) (n : Nat) : Inv (HpassN h n) := by
  induction n with
  | zero => exact i
  | succ n ih => exact inv_min ih
theorem pass_q {h : HSt} {s : Nat → Int32} (r : RelS h s) (n : Nat) : MgoQ s n = nI (HpassQ h n) := by
  induction n with
  | zero => rfl
  | succ n ih =>
    have t := rel_tk (rel_pass r n)
    have e6 : Mtk (MgoN s n) 6 = hsn (Htk (HpassN h n)) := t.2.2.2.2.2.2.2.2.2.1
    show MgoQ s n + bI (¬ Mtk (MgoN s n) 6 < Mdue (Mtk (MgoN s n))) = nI (if hsn (Htk (HpassN h n)) < Htbq (Htk (HpassN h n)) then HpassQ h n else HpassQ h n + 1)
    rw [ih]
    by_cases c : hsn (Htk (HpassN h n)) < Htbq (Htk (HpassN h n))
    · rw [if_pos c, bI_f (by rw [e6, due_eq t]; exact not_not_intro c), nI_add, Nat.add_zero]
    · rw [if_neg c, bI_t (by rw [e6, due_eq t]; exact c), nI_add]
/-! coming, leaving -/
theorem Hseat_eq {h : HSt} (i : Inv h) {k : Nat} (hk : k < 48) : Hseat k h = Hcall k (sHL h (upd (hL h) k (hL h k + nI 1))) := by
  obtain ⟨l, hl, e⟩ := i.1 k hk
  have c : ¬ hL (sHL h (upd (hL h) k (hL h k + nI 1))) k ≤ 0 := by
    show ¬ upd (hL h) k (hL h k + nI 1) k ≤ 0
    rw [pk_us, e, nI_add]
    exact fun z => absurd ((le0 (by omega)).mp z) (by omega)
  exact if_pos c
theorem rel_seat {h : HSt} {s : Nat → Int32} (r : RelS h s) (i : Inv h) {k : Nat} (hk : k < 48) : RelS (Hseat k h) (Mcomes k s) := by
  have e : s (21 + k) = hL h k := r.1 k hk
  rw [Hseat_eq i hk]
  unfold Mcomes
  rw [e]
  exact rel_call (rel_L r (hL h k + nI 1) hk) hk
theorem inv_seat {h : HSt} (i : Inv h) {k : Nat} (hk : k < 48) (c : ¬ nI 9 ≤ hL h k) : Inv (Hseat k h) := by
  rw [Hseat_eq i hk]
  obtain ⟨l, hl, e⟩ := i.1 k hk
  rw [e] at c ⊢
  have h9 : l < 9 := Nat.lt_of_not_le fun z => c ((nI_leI (by decide) (by omega)).mpr z)
  rw [nI_add]
  exact inv_call (inv_L i k (by omega)) k
theorem rel_ask {h : HSt} {s : Nat → Int32} (r : RelS h s) {k : Nat} (hk : k < 48) : RelS (Hask k h) (Mask k (upd s 11 (s 11 + nI 1))) := by
  have e4 : s 11 = hC h 4 := r.2.2.1 4 (by decide)
  have m := rel_C r (k := 4) (hC h 4 + nI 1) (by decide)
  have e : (upd s 11 (s 11 + nI 1)) (21 + k) = hL h k := by rw [pk_un (by omega)]; exact r.1 k hk
  unfold Hask Mask
  rw [e, e4]
  by_cases c : hL h k ≤ 0
  · rw [if_neg (not_not_intro c), if_pos c]; exact m
  · rw [if_pos c, if_neg c]; exact rel_call m hk
theorem inv_ask {h : HSt} (i : Inv h) (k : Nat) : Inv (Hask k h) := by
  unfold Hask
  by_cases c : ¬ hL h k ≤ 0
  · rw [if_pos c]; exact inv_call (inv_C i _) k
  · rw [if_neg c]; exact inv_C i _
theorem rel_fare2 {h : HSt} {s : Nat → Int32} (r : RelS h s) {k : Nat} (hk : k < 48) : RelS (Hfare2 k h) (Mfare2 k s) := by
  have eR : s (69 + k) = hR h k := r.2.1 k hk
  have e1 : s 1 = hpt h := r.2.2.2.2.1
  unfold Hfare2 Mfare2
  rw [eR, e1]
  by_cases c : hR h k ≤ hpt h
  · rw [if_pos c, if_pos c]; exact r
  · rw [if_neg c, if_neg c]; exact rel_ask (rel_R r (hpt h) hk) hk
theorem inv_fare2 {h : HSt} (i : Inv h) (k : Nat) : Inv (Hfare2 k h) := by
  obtain ⟨p, hp, e⟩ := i.2.2.2.1
  unfold Hfare2
  by_cases c : hR h k ≤ hpt h
  · rw [if_pos c]; exact i
  · rw [if_neg c, e]; exact inv_ask (inv_R i k (by omega)) k
theorem rel_fare {h : HSt} {s : Nat → Int32} (r : RelS h s) (i : Inv h) (hb : Hbo h) {k : Nat} (hk : k < 48) : RelS (Hfare k h) (Mfare k s) := by
  have eL : s (21 + k) = hL h k := r.1 k hk
  have e3 : s 3 = hqk h := r.2.2.2.2.2.2.1
  obtain ⟨l, hl, el⟩ := i.1 k hk
  unfold Hfare Mfare
  rw [eL, e3, el]
  rcases hb.1 with q | q
  · rw [q, if_pos nz, if_neg (by decide)]; exact rel_fare2 r hk
  · rw [q, if_neg (by decide), if_pos rfl]
    by_cases c : l = 0
    · subst c
      rw [if_pos nz, if_neg (not_not_intro ((le0 (by decide)).mpr rfl))]
      exact rel_R r (nI 0) hk
    · rw [if_neg (fun z => c ((le0 (by omega)).mp (Int32.le_of_eq z))), if_pos (fun z => c ((le0 (by omega)).mp z))]
      exact rel_fare2 r hk
theorem inv_fare {h : HSt} (i : Inv h) (k : Nat) : Inv (Hfare k h) := by
  unfold Hfare
  by_cases c : hqk h = 0
  · rw [if_pos c]; exact inv_fare2 i k
  · rw [if_neg c]
    by_cases d : ¬ hL h k ≤ 0
    · rw [if_pos d]; exact inv_fare2 i k
    · rw [if_neg d]; exact inv_R i k (by omega)
theorem inv_down {h : HSt} (i : Inv h) {k : Nat} (hk : k < 48) (c : ¬ hL h k ≤ 0) : Inv (sHL h (upd (hL h) k (hL h k - nI 1))) := by
  obtain ⟨l, hl, e⟩ := i.1 k hk
  rw [e] at c ⊢
  have h0 : l ≠ 0 := fun z => c ((le0 (by omega)).mpr z)
  rw [pk_sub (by omega)]
  exact inv_L i k (by omega)
theorem rel_unseat {h : HSt} {s : Nat → Int32} (r : RelS h s) (i : Inv h) (hb : Hbo h) {k : Nat} (b : Nat) (hk : k < 48) (c : ¬ hL h k ≤ 0) : RelS (Hunseat k b h) (Mleaves k b s) := by
  have eL : s (21 + k) = hL h k := r.1 k hk
  unfold Hunseat Mleaves
  rw [eL]
  have m := rel_L r (hL h k - nI 1) hk
  by_cases d : b = 0
  · rw [if_pos d, if_pos d]; exact m
  · rw [if_neg d, if_neg d]; exact rel_fare m (inv_down i hk c) hb hk
theorem inv_unseat {h : HSt} (i : Inv h) {k : Nat} (b : Nat) (hk : k < 48) (c : ¬ hL h k ≤ 0) : Inv (Hunseat k b h) := by
  unfold Hunseat
  by_cases d : b = 0
  · rw [if_pos d]; exact inv_down i hk c
  · rw [if_neg d]; exact inv_fare (inv_down i hk c) k
end
section
/-! rows of bits -/
theorem bw_and {x y z w : Int32} (h1 : x &&& w = 0) (h2 : y &&& z = 0) : (x ||| y) &&& (z ||| w) = (x &&& z) ||| (y &&& w) := by
  apply Int32.toBitVec_inj.mp
  have e1 : x.toBitVec &&& w.toBitVec = 0#32 := by rw [← Int32.toBitVec_and, h1]; rfl
  have e2 : y.toBitVec &&& z.toBitVec = 0#32 := by rw [← Int32.toBitVec_and, h2]; rfl
  simp only [Int32.toBitVec_and, Int32.toBitVec_or]
  apply BitVec.eq_of_getLsbD_eq
  intro i hi
  have a1 : (x.toBitVec &&& w.toBitVec).getLsbD i = false := by rw [e1]; simp
  have a2 : (y.toBitVec &&& z.toBitVec).getLsbD i = false := by rw [e2]; simp
  rw [BitVec.getLsbD_and] at a1 a2
  simp only [BitVec.getLsbD_and, BitVec.getLsbD_or]
  revert a1 a2
  cases x.toBitVec.getLsbD i <;> cases y.toBitVec.getLsbD i <;> cases z.toBitVec.getLsbD i <;> cases w.toBitVec.getLsbD i <;> simp
theorem bw_not {x y z w : Int32} (h1 : x &&& w = 0) (h2 : y &&& z = 0) : (x ||| y) &&& ((z ||| w) ^^^ (-1)) = (x &&& (z ^^^ (-1))) ||| (y &&& (w ^^^ (-1))) := by
  apply Int32.toBitVec_inj.mp
  have e1 : x.toBitVec &&& w.toBitVec = 0#32 := by rw [← Int32.toBitVec_and, h1]; rfl
  have e2 : y.toBitVec &&& z.toBitVec = 0#32 := by rw [← Int32.toBitVec_and, h2]; rfl
  have e3 : (-1 : Int32).toBitVec = BitVec.allOnes 32 := by decide
  simp only [Int32.toBitVec_and, Int32.toBitVec_or, Int32.toBitVec_xor, e3]
  apply BitVec.eq_of_getLsbD_eq
  intro i hi
  have a1 : (x.toBitVec &&& w.toBitVec).getLsbD i = false := by rw [e1]; simp
  have a2 : (y.toBitVec &&& z.toBitVec).getLsbD i = false := by rw [e2]; simp
  rw [BitVec.getLsbD_and] at a1 a2
  simp only [BitVec.getLsbD_and, BitVec.getLsbD_or, BitVec.getLsbD_xor, BitVec.getLsbD_allOnes]
  revert a1 a2
  cases x.toBitVec.getLsbD i <;> cases y.toBitVec.getLsbD i <;> cases z.toBitVec.getLsbD i <;> cases w.toBitVec.getLsbD i <;> simp [hi]
abbrev bit (n : Nat) : Int32 := nI 1 <<< (nI n &&& 31)
/-- the bits below n where P says so -/
def orb (P : Nat → Bool) : Nat → Int32
  | 0 => nI 0
  | n + 1 => orb P n ||| (if P n = true then bit n else nI 0)
theorem bit_ne : ∀ i, i < 8 → ∀ j, j < 8 → i ≠ j → bit i &&& bit j = 0 := by decide +kernel
theorem and_or {a b c : Int32} (h1 : a &&& c = 0) (h2 : b &&& c = 0) : (a ||| b) &&& c = 0 := by
  have h := bw_and (x := a) (y := b) (z := c) (w := 0) (by rw [Int32.and_zero]) h2
  rw [Int32.or_zero, h1, Int32.and_zero, Int32.or_zero] at h
  exact h
theorem orb_bit (P : Nat → Bool) (m : Nat) (hm : m < 8) : ∀ n, n ≤ m → orb P n &&& bit m = 0 := by
  intro n
  induction n with
  | zero => exact fun _ => Int32.zero_and
  | succ n ih =>
    intro hn
    refine and_or (ih (by omega)) ?_
    by_cases c : P n = true
    · rw [if_pos c]; exact bit_ne n (by omega) m hm (by omega)
    · rw [if_neg c]; exact Int32.zero_and
theorem orb_sel (P : Nat → Bool) (c : Bool) (m : Nat) (hm : m < 8) : orb P m &&& (if c = true then bit m else nI 0) = 0 := by
  by_cases h : c = true
  · rw [if_pos h]; exact orb_bit P m hm m (Nat.le_refl m)
  · rw [if_neg h]; exact Int32.and_zero
theorem orb_and (P Q : Nat → Bool) : ∀ n, n ≤ 8 → orb P n &&& orb Q n = orb (fun k => P k && Q k) n := by
  intro n
  induction n with
  | zero => exact fun _ => (by decide : nI 0 &&& nI 0 = nI 0)
  | succ n ih =>
    intro hn
    show (orb P n ||| _) &&& (orb Q n ||| _) = orb (fun k => P k && Q k) n ||| (if (P n && Q n) = true then bit n else nI 0)
    rw [bw_and (orb_sel P (Q n) n hn) (by rw [Int32.and_comm]; exact orb_sel Q (P n) n hn), ih (by omega)]
    congr 1
    cases P n <;> cases Q n <;> simp [nz]
theorem orb_not (P Q : Nat → Bool) : ∀ n, n ≤ 8 → orb P n &&& (orb Q n ^^^ (-1)) = orb (fun k => P k && !Q k) n := by
  intro n
  induction n with
  | zero => exact fun _ => (by decide : nI 0 &&& (nI 0 ^^^ (-1)) = nI 0)
  | succ n ih =>
    intro hn
    show (orb P n ||| _) &&& ((orb Q n ||| _) ^^^ (-1)) = orb (fun k => P k && !Q k) n ||| (if (P n && !Q n) = true then bit n else nI 0)
    rw [bw_not (orb_sel P (Q n) n hn) (by rw [Int32.and_comm]; exact orb_sel Q (P n) n hn), ih (by omega)]
    congr 1
    have h9 : ∀ i, i < 8 → bit i &&& (bit i ^^^ (-1)) = 0 ∧ bit i &&& (nI 0 ^^^ (-1)) = bit i ∧ nI 0 &&& (bit i ^^^ (-1)) = 0 := by decide +kernel
    obtain ⟨g1, g2, g3⟩ := h9 n hn
    cases P n <;> cases Q n
    · exact (by decide : nI 0 &&& (nI 0 ^^^ (-1)) = nI 0)
    · exact g3
    · exact g2
    · exact g1
/-- how many -/
def cnb (P : Nat → Bool) : Nat → Nat
  | 0 => 0
  | n + 1 => cnb P n + (if P n = true then 1 else 0)
def o8 (a b c d e f g h : Bool) : Int32 := ((((((((nI 0 ||| (if a = true then bit 0 else nI 0)) ||| (if b = true then bit 1 else nI 0)) ||| (if c = true then bit 2 else nI 0)) ||| (if d = true then bit 3 else nI 0)) ||| (if e = true then bit 4 else nI 0)) ||| (if f = true then bit 5 else nI 0)) ||| (if g = true then bit 6 else nI 0)) ||| (if h = true then bit 7 else nI 0))
def c8 (a b c d e f g h : Bool) : Nat := ((((((((0 + (if a = true then 1 else 0)) + (if b = true then 1 else 0)) + (if c = true then 1 else 0)) + (if d = true then 1 else 0)) + (if e = true then 1 else 0)) + (if f = true then 1 else 0)) + (if g = true then 1 else 0)) + (if h = true then 1 else 0))
theorem bc_o8 : ∀ a b c d e f g h : Bool, bc (o8 a b c d e f g h) = nI (c8 a b c d e f g h) := by decide +kernel
theorem bc_orb (P : Nat → Bool) : bc (orb P 8) = nI (cnb P 8) := bc_o8 (P 0) (P 1) (P 2) (P 3) (P 4) (P 5) (P 6) (P 7)
/-- a row of doors as its bits -/
def opb (x : Int32) (r : Nat) : Bool := decide ((x >>> (nI r &&& 31)) &&& nI 1 = nI 1)
theorem opb_all : ∀ w, w < 256 → orb (opb (nI w)) 8 = nI w := by decide +kernel
theorem turn_all : ∀ w, w < 256 → ∀ r, r < 8 → nI w ^^^ bit r = nI (w ^^^ (1 <<< r)) ∧ w ^^^ (1 <<< r) < 256 := by decide +kernel
theorem turn_bits : ∀ w, w < 256 → ∀ r, r < 8 → ∀ j, j < 8 → opb (nI (w ^^^ (1 <<< r))) j = (if j = r then !opb (nI w) r else opb (nI w) j) := by decide +kernel
/-! what the methods that ask answer -/
theorem mul6 (n c : Nat) : 6 * n + c = n * 6 + c := by omega
theorem ent_eq {h : HSt} {s : Nat → Int32} (r : RelS h s) : ∀ n, n ≤ 48 → Ment s n = nI (Hent (hR h) n) := by
  intro n
  induction n with
  | zero => exact fun _ => rfl
  | succ n ih =>
    intro hn
    have e : s (69 + n) = hR h n := r.2.1 n hn
    show Ment s n + bI (¬ s (69 + n) ≤ 0) = nI (if hR h n ≤ 0 then Hent (hR h) n else Hent (hR h) n + 1)
    rw [ih (by omega)]
    by_cases c : hR h n ≤ 0
    · rw [if_pos c, bI_f (by rw [e]; exact not_not_intro c), nI_add, Nat.add_zero]
    · rw [if_neg c, bI_t (by rw [e]; exact c), nI_add]
theorem wan_eq {h : HSt} {s : Nat → Int32} (r : RelS h s) {c : Nat} (hc : c < 6) : ∀ n, n ≤ 8 → Mwan s c n = Hwant h c n := by
  intro n
  induction n with
  | zero => exact fun _ => rfl
  | succ n ih =>
    intro hn
    have e : s (21 + (6 * n + c)) = hL h (n * 6 + c) := by rw [mul6]; exact r.1 _ (by omega)
    show Mwan s c n ||| (if ¬ s (21 + (6 * n + c)) ≤ 0 then bit n else nI 0) = if ¬ hL h (n * 6 + c) ≤ 0 then Hwant h c n ||| bit n else Hwant h c n
    rw [ih (by omega), e]
    by_cases d : hL h (n * 6 + c) ≤ 0
    · rw [if_neg (not_not_intro d), if_neg (not_not_intro d), nz, Int32.or_zero]
    · rw [if_pos d, if_pos d]
def wB (h : HSt) (c r : Nat) : Bool := decide (¬ hL h (r * 6 + c) ≤ 0)
def gB (h : HSt) (c r : Nat) : Bool := opb (hop h) r || decide (¬ hR h (r * 6 + c) ≤ 0)
theorem want_orb (h : HSt) (c : Nat) : ∀ n, Hwant h c n = orb (wB h c) n := by
  intro n
  induction n with
  | zero => rfl
  | succ n ih =>
    show (if ¬ hL h (n * 6 + c) ≤ 0 then Hwant h c n ||| bit n else Hwant h c n) = orb (wB h c) n ||| (if wB h c n = true then bit n else nI 0)
    rw [ih]
    by_cases d : hL h (n * 6 + c) ≤ 0
    · rw [if_neg (not_not_intro d), if_neg (by unfold wB; simp [d]), nz, Int32.or_zero]
    · rw [if_pos d, if_pos (by unfold wB; simp [d])]
def reN (h : HSt) (c r : Nat) : Bool := decide (¬ hR h (r * 6 + c) ≤ 0)
theorem get_re (h : HSt) (c : Nat) : ∀ n, Hget h c n = hop h ||| orb (reN h c) n := by
  intro n
  induction n with
  | zero => exact Int32.or_zero.symm
  | succ n ih =>
    show (if hR h (n * 6 + c) ≤ 0 then Hget h c n else Hget h c n ||| bit n) = hop h ||| (orb (reN h c) n ||| (if reN h c n = true then bit n else nI 0))
    rw [ih]
    by_cases d : hR h (n * 6 + c) ≤ 0
    · rw [if_pos d, if_neg (by unfold reN; simp [d]), nz, Int32.or_zero]
    · rw [if_neg d, if_pos (by unfold reN; simp [d]), Int32.or_assoc]
theorem or4 (a b c : Int32) : (a ||| c) ||| (b ||| c) = (a ||| b) ||| c := by
  rw [Int32.or_assoc a c, ← Int32.or_assoc c b c, Int32.or_comm c b, Int32.or_assoc b c c, Int32.or_self, ← Int32.or_assoc]
theorem orb_or (P Q : Nat → Bool) (n : Nat) : orb P n ||| orb Q n = orb (fun k => P k || Q k) n := by
  induction n with
  | zero => exact (by decide : nI 0 ||| nI 0 = nI 0)
  | succ n ih =>
    show (orb P n ||| (if P n = true then bit n else nI 0)) ||| (orb Q n ||| (if Q n = true then bit n else nI 0)) = orb (fun k => P k || Q k) n ||| (if (P n || Q n) = true then bit n else nI 0)
    rw [← ih]
    cases P n <;> cases Q n
    · simp [nz]
    · simp [nz, Int32.or_assoc]
    · simp only [Bool.false_eq_true, if_false, if_true, Bool.or_false, nz, Int32.or_zero]
      rw [Int32.or_assoc, Int32.or_comm (bit n), ← Int32.or_assoc]
    · simp only [if_true, Bool.or_self]
      exact or4 _ _ _
theorem get_orb {h : HSt} (i : Inv h) (c : Nat) : Hget h c 8 = orb (gB h c) 8 := by
  obtain ⟨w, hw, e⟩ := i.2.2.2.2.2.2
  rw [get_re]
  have h1 : orb (opb (hop h)) 8 = hop h := by rw [e]; exact opb_all w hw
  have h2 := orb_or (opb (hop h)) (reN h c) 8
  rw [h1] at h2
  exact h2
theorem goes_gB {h : HSt} {s : Nat → Int32} (r : RelS h s) {c n : Nat} (hc : c < 6) (hn : n < 8) : Mgoes s n c ↔ gB h c n = true := by
  have e1 : s (13 + n) = bI (Hopen h n) := r.2.2.2.2.2.2.2.2.2.2 n hn
  have e2 : s (69 + (6 * n + c)) = hR h (n * 6 + c) := by rw [mul6]; exact r.2.1 _ (by omega)
  have e3 : (bI (Hopen h n) = nI 1) ↔ Hopen h n := by
    by_cases d : Hopen h n
    · rw [bI_t d]; exact ⟨fun _ => d, fun _ => rfl⟩
    · rw [bI_f d]; exact ⟨fun z => absurd z (by decide), fun z => absurd z d⟩
  unfold gB opb Mgoes
  rw [e1, e2, e3, Bool.or_eq_true, decide_eq_true_iff, decide_eq_true_iff]
theorem wants_wB {h : HSt} {s : Nat → Int32} (r : RelS h s) {c n : Nat} (hc : c < 6) (hn : n < 8) : Mwants s n c ↔ wB h c n = true := by
  have e2 : s (21 + (6 * n + c)) = hL h (n * 6 + c) := by rw [mul6]; exact r.1 _ (by omega)
  unfold wB Mwants
  rw [e2, decide_eq_true_iff]
theorem row_orb {h : HSt} {s : Nat → Int32} (r : RelS h s) {c : Nat} (hc : c < 6) : ∀ n, n ≤ 8 → Mrow s c n = orb (gB h c) n := by
  intro n
  induction n with
  | zero => exact fun _ => rfl
  | succ n ih =>
    intro hn
    show Mrow s c n ||| (if Mgoes s n c then bit n else nI 0) = orb (gB h c) n ||| (if gB h c n = true then bit n else nI 0)
    rw [ih (by omega)]
    by_cases d : Mgoes s n c
    · rw [if_pos d, if_pos ((goes_gB r hc hn).mp d)]
    · rw [if_neg d, if_neg (fun z => d ((goes_gB r hc hn).mpr z))]
theorem row_eq {h : HSt} {s : Nat → Int32} (r : RelS h s) (i : Inv h) {c : Nat} (hc : c < 6) : Mrow s c 8 = Hget h c 8 := by
  rw [get_orb i, row_orb r hc 8 (Nat.le_refl 8)]
theorem asks_eq {h : HSt} {s : Nat → Int32} (r : RelS h s) (i : Inv h) : MasksIn s = HasksIn h := by
  have e6 : s 6 = hsn h := r.2.2.2.2.2.2.2.2.2.1
  obtain ⟨d, hd, ed⟩ := tbq_nat i
  obtain ⟨t, ht, et⟩ := i.2.2.2.2.2.1
  unfold MasksIn HasksIn
  rw [due_eq r, e6, ed, et]
  by_cases c : t < d
  · rw [pk_sub (by omega)]
    by_cases c2 : 1 < d - t
    · rw [if_pos ((nI_leI (by decide) (by omega)).mpr (by omega)), if_pos ((nI_ltI (by decide) (by omega)).mpr c2)]
    · rw [if_neg (fun z => c2 ((nI_ltI (by decide) (by omega)).mp z)), if_pos ((nI_leI (by decide) (by omega)).mpr (by omega))]
      rw [show d - t = 1 by omega]
  · have hsmall : ∀ d, d < 61 → ∀ t, t < 60 → d ≤ t → ¬ nI 1 ≤ nI d - nI t ∧ ¬ nI 1 < nI d - nI t := by decide +kernel
    obtain ⟨g1, g2⟩ := hsmall d (by omega) t (by omega) (by omega)
    rw [if_neg g1, if_neg g2]
/-! playing -/
theorem play_ge (s : Nat → Int32) (c : Nat) : ∀ n j, 10 ≤ j → MplayN s c n j = s j := by
  intro n
  induction n with
  | zero => exact fun _ _ => rfl
  | succ n ih =>
    intro j hj
    show Mp1 (MplayN s c n) _ _ j = s j
    unfold Mp1
    rw [pk_un (by omega), pk_un (by omega), pk_un (by omega)]
    exact ih j hj
theorem play_lt (s : Nat → Int32) (c : Nat) : ∀ n j, j < 7 → MplayN s c n j = s j := by
  intro n
  induction n with
  | zero => exact fun _ _ => rfl
  | succ n ih =>
    intro j hj
    show Mp1 (MplayN s c n) _ _ j = s j
    unfold Mp1
    rw [pk_un (by omega), pk_un (by omega), pk_un (by omega)]
    exact ih j hj
end
section
/-! playing, beside the reference -/
theorem Mp1_7 (t : Nat → Int32) (P Q : Prop) [Decidable P] [Decidable Q] : Mp1 t P Q 7 = t 7 + bI (P ∧ Q) := by
  unfold Mp1
  rw [pk_un (by decide), pk_un (by decide), pk_us]
theorem Mp1_8 (t : Nat → Int32) (P Q : Prop) [Decidable P] [Decidable Q] : Mp1 t P Q 8 = t 8 + bI (P ∧ ¬ Q) := by
  unfold Mp1
  rw [pk_un (by decide), pk_us, pk_un (by decide)]
theorem Mp1_9 (t : Nat → Int32) (P Q : Prop) [Decidable P] [Decidable Q] : Mp1 t P Q 9 = t 9 + bI (¬ P ∧ Q) := by
  unfold Mp1
  rw [pk_us, pk_un (by decide), pk_un (by decide)]
theorem bI_b {P : Prop} [Decidable P] {b : Bool} (h : P ↔ b = true) : bI P = nI (if b = true then 1 else 0) := by
  by_cases c : P
  · rw [bI_t c, if_pos (h.mp c)]
  · rw [bI_f c, if_neg (fun z => c (h.mpr z))]
theorem play_st {h : HSt} {s : Nat → Int32} (r : RelS h s) {c : Nat} (hc : c < 6) : ∀ n, n ≤ 8 → MplayN s c n 7 = s 7 + nI (cnb (fun k => gB h c k && wB h c k) n) ∧ MplayN s c n 8 = s 8 + nI (cnb (fun k => gB h c k && !wB h c k) n) ∧ MplayN s c n 9 = s 9 + nI (cnb (fun k => wB h c k && !gB h c k) n) ∧ MplayQ s c n = nI (cnb (gB h c) n) := by
  intro n
  induction n with
  | zero =>
    intro _
    have z : ∀ x : Int32, x + nI 0 = x := fun x => by rw [nz, Int32.add_zero]
    exact ⟨(z _).symm, (z _).symm, (z _).symm, rfl⟩
  | succ n ih =>
    intro hn
    obtain ⟨i7, i8, i9, iq⟩ := ih (by omega)
    have hP : Mgoes (MplayN s c n) n c ↔ gB h c n = true := by
      rw [← goes_gB r hc hn]
      show (MplayN s c n (13 + n) = nI 1 ∨ ¬ MplayN s c n (69 + (6 * n + c)) ≤ 0) ↔ (s (13 + n) = nI 1 ∨ ¬ s (69 + (6 * n + c)) ≤ 0)
      rw [play_ge s c n _ (by omega), play_ge s c n _ (by omega)]
    have hQ : Mwants (MplayN s c n) n c ↔ wB h c n = true := by
      rw [← wants_wB r hc hn]
      show ¬ MplayN s c n (21 + (6 * n + c)) ≤ 0 ↔ ¬ s (21 + (6 * n + c)) ≤ 0
      rw [play_ge s c n _ (by omega)]
    have e7 : MplayN s c (n + 1) 7 = MplayN s c n 7 + bI (Mgoes (MplayN s c n) n c ∧ Mwants (MplayN s c n) n c) := Mp1_7 _ _ _
    have e8 : MplayN s c (n + 1) 8 = MplayN s c n 8 + bI (Mgoes (MplayN s c n) n c ∧ ¬ Mwants (MplayN s c n) n c) := Mp1_8 _ _ _
    have e9 : MplayN s c (n + 1) 9 = MplayN s c n 9 + bI (¬ Mgoes (MplayN s c n) n c ∧ Mwants (MplayN s c n) n c) := Mp1_9 _ _ _
    have eq : MplayQ s c (n + 1) = MplayQ s c n + bI (Mgoes (MplayN s c n) n c) := rfl
    rw [bI_b (b := gB h c n && wB h c n) (by rw [hP, hQ, Bool.and_eq_true])] at e7
    rw [bI_b (b := gB h c n && !wB h c n) (by rw [hP, hQ]; cases gB h c n <;> cases wB h c n <;> simp)] at e8
    rw [bI_b (b := wB h c n && !gB h c n) (by rw [hP, hQ]; cases gB h c n <;> cases wB h c n <;> simp)] at e9
    rw [bI_b hP] at eq
    refine ⟨?_, ?_, ?_, ?_⟩
    · rw [e7, i7, Int32.add_assoc, nI_add]; rfl
    · rw [e8, i8, Int32.add_assoc, nI_add]; rfl
    · rw [e9, i9, Int32.add_assoc, nI_add]; rfl
    · rw [eq, iq, nI_add]; rfl
theorem play_q {h : HSt} {s : Nat → Int32} (r : RelS h s) (i : Inv h) {c : Nat} (hc : c < 6) : MplayQ s c 8 = bc (Hget h c 8) := by
  rw [(play_st r hc 8 (Nat.le_refl 8)).2.2.2, get_orb i, bc_orb]
theorem rel_play {h : HSt} {s : Nat → Int32} (r : RelS h s) (i : Inv h) {c : Nat} (hc : c < 6) : RelS (Hperf c h) (MplayN s c 8) := by
  obtain ⟨p7, p8, p9, -⟩ := play_st r hc 8 (Nat.le_refl 8)
  have ge := play_ge s c 8
  have lt := play_lt s c 8
  generalize MplayN s c 8 = t at p7 p8 p9 ge lt ⊢
  obtain ⟨r1, r2, r3, r4, r5, r6, r7, r8, r9, r10, r11⟩ := r
  refine ⟨fun k hk => ?_, fun k hk => ?_, fun k hk => ?_, ?_, ?_, ?_, ?_, ?_, ?_, ?_, fun j hj => ?_⟩
  · rw [ge _ (by omega)]; exact r1 k hk
  · rw [ge _ (by omega)]; exact r2 k hk
  · show t (7 + k) = HperfC (hC h) (Hget h c 8) (Hwant h c 8) k
    unfold HperfC
    have e0 := r3 0 (by decide)
    have e1 := r3 1 (by decide)
    have e2 := r3 2 (by decide)
    rcases (by omega : k = 0 ∨ k = 1 ∨ k = 2 ∨ 3 ≤ k) with rfl | rfl | rfl | h3
    · rw [pk_un (by decide), pk_un (by decide), pk_us, ← e0, get_orb i, want_orb, orb_and _ _ 8 (Nat.le_refl 8), bc_orb]; exact p7
    · rw [pk_un (by decide), pk_us, pk_un (by decide), ← e1, get_orb i, want_orb, orb_not _ _ 8 (Nat.le_refl 8), bc_orb]; exact p8
    · rw [pk_us, pk_un (by decide), pk_un (by decide), ← e2, get_orb i, want_orb, orb_not _ _ 8 (Nat.le_refl 8), bc_orb]; exact p9
    · rw [pk_un (by omega), pk_un (by omega), pk_un (by omega), ge _ (by omega)]; exact r3 k hk
  · rw [lt _ (by decide)]; exact r4
  · rw [lt _ (by decide)]; exact r5
  · rw [lt _ (by decide)]; exact r6
  · rw [lt _ (by decide)]; exact r7
  · rw [lt _ (by decide)]; exact r8
  · rw [lt _ (by decide)]; exact r9
  · rw [lt _ (by decide)]; exact r10
  · rw [ge _ (by omega)]; exact r11 j hj
theorem inv_play {h : HSt} (i : Inv h) (c : Nat) : Inv (Hperf c h) := i
/-! rests as minutes go by -/
theorem fadeN_at (R : Nat → Int32) (k : Nat) : ∀ n, HfadeN R n k = if k < n then (if R k ≤ 0 then R k else R k - nI 1) else R k := by
  intro n
  induction n with
  | zero => rw [if_neg (Nat.not_lt_zero k)]; rfl
  | succ n ih =>
    show (if HfadeN R n n ≤ 0 then HfadeN R n else upd (HfadeN R n) n (HfadeN R n n - nI 1)) k = _
    by_cases e : k = n
    · subst e
      rw [if_neg (Nat.lt_irrefl k)] at ih
      rw [if_pos (Nat.lt_succ_self k)]
      by_cases c : R k ≤ 0
      · rw [if_pos (by rw [ih]; exact c), if_pos c, ih]
      · rw [if_neg (by rw [ih]; exact c), if_neg c, pk_us, ih]
    · have e2 : (if HfadeN R n n ≤ 0 then HfadeN R n else upd (HfadeN R n) n (HfadeN R n n - nI 1)) k = HfadeN R n k := by
        by_cases c : HfadeN R n n ≤ 0
        · rw [if_pos c]
        · rw [if_neg c, pk_un e]
      rw [e2, ih]
      by_cases c : k < n
      · rw [if_pos c, if_pos (show k < n + 1 by omega)]
      · rw [if_neg c, if_neg (show ¬ k < n + 1 by omega)]
theorem askN_L (h : HSt) (n : Nat) : hL (HaskN h n) = hL h ∧ hfd (HaskN h n) = hfd h ∧ hop (HaskN h n) = hop h ∧ hsn (HaskN h n) = hsn h ∧ Htbq (HaskN h n) = Htbq h := by
  induction n with
  | zero => exact ⟨rfl, rfl, rfl, rfl, rfl⟩
  | succ n ih =>
    have e : HaskN h (n + 1) = if ¬ hL (HaskN h n) n ≤ 0 then Hcall n (HaskN h n) else HaskN h n := rfl
    rw [e]
    by_cases c : ¬ hL (HaskN h n) n ≤ 0
    · rw [if_pos c]; exact ih
    · rw [if_neg c]; exact ih
theorem askN_R (h : HSt) (k : Nat) : ∀ n, hR (HaskN h n) k = if k < n ∧ ¬ hL h k ≤ 0 then hfd h else hR h k := by
  intro n
  induction n with
  | zero => rw [if_neg (fun z => absurd z.1 (Nat.not_lt_zero k))]; rfl
  | succ n ih =>
    have e : HaskN h (n + 1) = if ¬ hL (HaskN h n) n ≤ 0 then Hcall n (HaskN h n) else HaskN h n := rfl
    obtain ⟨eL, ef, -⟩ := askN_L h n
    rw [e, eL]
    by_cases c : ¬ hL h n ≤ 0
    · rw [if_pos c]
      show upd (hR (HaskN h n)) n (hfd (HaskN h n)) k = _
      rw [ef]
      by_cases d : k = n
      · subst d; rw [pk_us, if_pos ⟨Nat.lt_succ_self k, c⟩]
      · rw [pk_un d, ih]
        by_cases g : k < n ∧ ¬ hL h k ≤ 0
        · rw [if_pos g, if_pos ⟨by omega, g.2⟩]
        · rw [if_neg g, if_neg (fun z => g ⟨by omega, z.2⟩)]
    · rw [if_neg c, ih]
      by_cases g : k < n ∧ ¬ hL h k ≤ 0
      · rw [if_pos g, if_pos ⟨by omega, g.2⟩]
      · rw [if_neg g, if_neg (fun z => by
          by_cases d : k = n
          · subst d; exact c z.2
          · exact g ⟨by omega, z.2⟩)]
/-- a rest, and the time since the question, after a minute -/
def stR (w : Prop) [Decidable w] (f d R t : Nat) : Nat := if t + 1 < d then R - 1 else if w then f else R - 1
def stT (d t : Nat) : Nat := if t + 1 < d then t + 1 else 0
theorem fade1 {R : Nat} (hR : R ≤ 60) : (if nI R ≤ 0 then nI R else nI R - nI 1) = nI (R - 1) := by
  by_cases c : R = 0
  · subst c; rw [if_pos ((le0 (by decide)).mpr rfl)]
  · rw [if_neg (fun z => c ((le0 (by omega)).mp z)), pk_sub (by omega)]
theorem min_keep (h : HSt) : hL (Hmin h) = hL h ∧ hfd (Hmin h) = hfd h ∧ hop (Hmin h) = hop h ∧ Htbq (Hmin h) = Htbq h := by
  unfold Hmin
  by_cases c : hsn (Htk h) < Htbq (Htk h)
  · rw [if_pos c, Htk_eq]
    generalize HfadeN (hR h) 48 = F
    exact ⟨rfl, rfl, rfl, rfl⟩
  · rw [if_neg c]
    unfold HaskAll
    obtain ⟨e1, e2, e3, -, e5⟩ := askN_L (Hcnt 3 (sHsn (Htk h) (nI 0))) 48
    rw [e1, e2, e3, e5, Htk_eq]
    generalize HfadeN (hR h) 48 = F
    exact ⟨rfl, rfl, rfl, rfl⟩
theorem min_RT {h : HSt} {k R t d f : Nat} (hk : k < 48) (eR : hR h k = nI R) (hR60 : R ≤ 60) (et : hsn h = nI t) (ht : t ≤ 59) (ed : Htbq h = nI d) (hd : d ≤ 60) (ef : hfd h = nI f) : hR (Hmin h) k = nI (stR (¬ hL h k ≤ 0) f d R t) ∧ hsn (Hmin h) = nI (stT d t) := by
  have e1 : hsn (Htk h) = nI (t + 1) := by rw [hsn_tk, et, nI_add]
  have eF : hR (Htk h) k = nI (R - 1) := by
    have g := fadeN_at (hR h) k 48
    rw [if_pos hk, eR, fade1 hR60] at g
    rw [Htk_eq]
    generalize HfadeN (hR h) 48 = F at g ⊢
    exact g
  unfold Hmin stR stT
  rw [e1, tbq_tk, ed]
  by_cases c : t + 1 < d
  · rw [if_pos ((nI_ltI (by omega) (by omega)).mpr c), if_pos c, if_pos c]
    exact ⟨eF, e1⟩
  · rw [if_neg (fun z => c ((nI_ltI (by omega) (by omega)).mp z)), if_neg c, if_neg c]
    unfold HaskAll
    refine ⟨?_, ?_⟩
    · have eL : hL (Hcnt 3 (sHsn (Htk h) (nI 0))) = hL h := by
        rw [Htk_eq]
      have ef2 : hfd (Hcnt 3 (sHsn (Htk h) (nI 0))) = nI f := by
        rw [Htk_eq]
        generalize HfadeN (hR h) 48 = F
        exact ef
      have eR2 : hR (Hcnt 3 (sHsn (Htk h) (nI 0))) k = nI (R - 1) := by
        rw [Htk_eq] at eF ⊢
        generalize HfadeN (hR h) 48 = F at eF ⊢
        exact eF
      rw [askN_R, eL, ef2, eR2]
      by_cases w : ¬ hL h k ≤ 0
      · rw [if_pos ⟨hk, w⟩, if_pos w]
      · rw [if_neg (fun z => w z.2), if_neg w]
    · rw [(askN_L (Hcnt 3 (sHsn (Htk h) (nI 0))) 48).2.2.2.1]
/-- rest and time after n minutes -/
def sq (w : Prop) [Decidable w] (f d R t : Nat) : Nat → Nat × Nat
  | 0 => (R, t)
  | n + 1 => (stR w f d (sq w f d R t n).1 (sq w f d R t n).2, stT d (sq w f d R t n).2)
theorem pass_keep (h : HSt) (n : Nat) : hL (HpassN h n) = hL h ∧ hfd (HpassN h n) = hfd h ∧ hop (HpassN h n) = hop h ∧ Htbq (HpassN h n) = Htbq h := by
  induction n with
  | zero => exact ⟨rfl, rfl, rfl, rfl⟩
  | succ n ih =>
    have e : HpassN h (n + 1) = Hmin (HpassN h n) := rfl
    obtain ⟨a, b, c, d⟩ := min_keep (HpassN h n)
    rw [e, a, b, c, d]
    exact ih
theorem sq_le {w : Prop} [Decidable w] {f d R t : Nat} (hf : f ≤ 60) (hd : d ≤ 60) (hR : R ≤ 60) (ht : t ≤ 59) (n : Nat) : (sq w f d R t n).1 ≤ 60 ∧ (sq w f d R t n).2 ≤ 59 := by
  induction n with
  | zero => exact ⟨hR, ht⟩
  | succ n ih =>
    show stR w f d (sq w f d R t n).1 (sq w f d R t n).2 ≤ 60 ∧ stT d (sq w f d R t n).2 ≤ 59
    unfold stR stT
    obtain ⟨a, b⟩ := ih
    refine ⟨?_, ?_⟩
    · (repeat' split) <;> omega
    · split <;> omega
theorem pass_RT {h : HSt} {k R t d f : Nat} (hk : k < 48) (eR : hR h k = nI R) (hR60 : R ≤ 60) (et : hsn h = nI t) (ht : t ≤ 59) (ed : Htbq h = nI d) (hd : d ≤ 60) (ef : hfd h = nI f) (hf : f ≤ 60) (n : Nat) : hR (HpassN h n) k = nI (sq (¬ hL h k ≤ 0) f d R t n).1 ∧ hsn (HpassN h n) = nI (sq (¬ hL h k ≤ 0) f d R t n).2 := by
  induction n with
  | zero => exact ⟨eR, et⟩
  | succ n ih =>
    obtain ⟨kL, kf, -, kd⟩ := pass_keep h n
    obtain ⟨b1, b2⟩ := sq_le (w := ¬ hL h k ≤ 0) hf hd hR60 ht n
    have z := min_RT (h := HpassN h n) hk ih.1 b1 ih.2 b2 (kd.trans ed) hd (kf.trans ef)
    have e : HpassN h (n + 1) = Hmin (HpassN h n) := rfl
    rw [e, z.1, z.2, kL]
    exact ⟨rfl, rfl⟩
theorem sq_f {w : Prop} [Decidable w] (hw : ¬ w) (f d R t n : Nat) : (sq w f d R t n).1 = R - n := by
  induction n with
  | zero => rfl
  | succ n ih =>
    show stR w f d (sq w f d R t n).1 (sq w f d R t n).2 = _
    unfold stR
    rw [if_neg hw, ite_self, ih]
    omega
/-- the minutes until the next question -/
def qN (d t : Nat) : Nat := if t < d then d - t else 1
theorem qN_pos (d t : Nat) : 1 ≤ qN d t := by unfold qN; split <;> omega
theorem sq_1 {w : Prop} [Decidable w] (f d R t n : Nat) (hn : n < qN d t) : sq w f d R t n = (R - n, t + n) := by
  induction n with
  | zero => rfl
  | succ n ih =>
    have h2 : t + n + 1 < d := by unfold qN at hn; split at hn <;> omega
    show (stR w f d (sq w f d R t n).1 (sq w f d R t n).2, stT d (sq w f d R t n).2) = _
    rw [ih (by omega)]
    unfold stR stT
    show ((if t + n + 1 < d then R - n - 1 else if w then f else R - n - 1), (if t + n + 1 < d then t + n + 1 else 0)) = _
    rw [if_pos h2, if_pos h2]
    rfl
theorem sq_q {w : Prop} [Decidable w] (hw : w) (f d R t : Nat) : sq w f d R t (qN d t) = (f, 0) := by
  have h1 := qN_pos d t
  obtain ⟨q, hq⟩ : ∃ q, qN d t = q + 1 := ⟨qN d t - 1, by omega⟩
  have h2 : ¬ t + q + 1 < d := by unfold qN at hq; split at hq <;> omega
  rw [hq]
  show (stR w f d (sq w f d R t q).1 (sq w f d R t q).2, stT d (sq w f d R t q).2) = _
  rw [sq_1 f d R t q (by omega)]
  unfold stR stT
  show ((if t + q + 1 < d then R - q - 1 else if w then f else R - q - 1), (if t + q + 1 < d then t + q + 1 else 0)) = _
  rw [if_neg h2, if_neg h2, if_pos hw]
theorem sq_add {w : Prop} [Decidable w] (f d R t a n : Nat) : sq w f d R t (a + n) = sq w f d (sq w f d R t a).1 (sq w f d R t a).2 n := by
  induction n with
  | zero => rfl
  | succ n ih =>
    show (stR w f d (sq w f d R t (a + n)).1 (sq w f d R t (a + n)).2, stT d (sq w f d R t (a + n)).2) = _
    rw [ih]
    rfl
/-- with a listener: gone in the cycle behind the question, or never -/
theorem sq_2 {w : Prop} [Decidable w] (hw : w) (f d R t n : Nat) (hn : n < d) : sq w f d R t (qN d t + n) = (f - n, n) := by
  rw [sq_add, sq_q hw]
  have h := sq_1 (w := w) f d f 0 n (by unfold qN; rw [if_pos (by omega)]; exact hn)
  rw [h, Nat.zero_add]
theorem sq_ever {w : Prop} [Decidable w] (hw : w) (f d R t n : Nat) (hd : 1 ≤ d) (hf : d ≤ f) : ∃ j, j < d ∧ sq w f d R t (qN d t + n) = (f - j, j) := by
  induction n with
  | zero => exact ⟨0, hd, by rw [Nat.add_zero, sq_q hw]; rfl⟩
  | succ n ih =>
    obtain ⟨j, hj, e⟩ := ih
    have e2 : sq w f d R t (qN d t + (n + 1)) = (stR w f d (sq w f d R t (qN d t + n)).1 (sq w f d R t (qN d t + n)).2, stT d (sq w f d R t (qN d t + n)).2) := rfl
    rw [e2, e]
    unfold stR stT
    by_cases c : j + 1 < d
    · refine ⟨j + 1, c, ?_⟩
      show ((if j + 1 < d then f - j - 1 else if w then f else f - j - 1), (if j + 1 < d then j + 1 else 0)) = _
      rw [if_pos c, if_pos c]; rfl
    · refine ⟨0, hd, ?_⟩
      show ((if j + 1 < d then f - j - 1 else if w then f else f - j - 1), (if j + 1 < d then j + 1 else 0)) = _
      rw [if_neg c, if_neg c, if_pos hw]; rfl
/-! fading -/
theorem Mst_hit {s : Nat → Int32} {k e : Nat} (he : MgoN s e (69 + k) ≤ 0) : ∀ m i, i ≤ e → e ≤ i + m → (∀ j, i ≤ j → j < e → ¬ MgoN s j (69 + k) ≤ 0) → Mst s k i m = e := by
  intro m
  induction m with
  | zero => exact fun i h1 h2 _ => by show i = e; omega
  | succ m ih =>
    intro i h1 h2 h3
    show (if MgoN s i (69 + k) ≤ 0 then i else Mst s k (i + 1) m) = e
    by_cases c : i = e
    · subst c; rw [if_pos he]
    · rw [if_neg (h3 i (Nat.le_refl i) (by omega))]
      exact ih (i + 1) (by omega) (by omega) (fun j hj => h3 j (by omega))
theorem Mst_miss {s : Nat → Int32} {k : Nat} : ∀ m i, (∀ j, i ≤ j → j < i + m → ¬ MgoN s j (69 + k) ≤ 0) → Mst s k i m = i + m := by
  intro m
  induction m with
  | zero => exact fun i _ => rfl
  | succ m ih =>
    intro i h
    show (if MgoN s i (69 + k) ≤ 0 then i else Mst s k (i + 1) m) = i + (m + 1)
    rw [if_neg (h i (Nat.le_refl i) (by omega)), ih (i + 1) (fun j h1 h2 => h j (by omega) (by omega))]
    omega
theorem asks_nat {h : HSt} {d t : Nat} (ed : Htbq h = nI d) (hd : d ≤ 60) (et : hsn h = nI t) (ht : t ≤ 59) : HasksIn h = nI (qN d t) := by
  unfold HasksIn qN
  rw [ed, et]
  by_cases c : t < d
  · rw [if_pos c, pk_sub (by omega)]
    by_cases c2 : 1 < d - t
    · rw [if_pos ((nI_ltI (by decide) (by omega)).mpr c2)]
    · rw [if_neg (fun z => c2 ((nI_ltI (by decide) (by omega)).mp z)), show d - t = 1 by omega]
  · have hsmall : ∀ d, d < 61 → ∀ t, t < 60 → d ≤ t → ¬ nI 1 < nI d - nI t := by decide +kernel
    rw [if_neg c, if_neg (hsmall d (by omega) t (by omega) (by omega))]
theorem fades_eq {h : HSt} {s : Nat → Int32} (r : RelS h s) (i : Inv h) {k : Nat} (hk : k < 48) : Mfd s k = HfadesIn k h := by
  obtain ⟨R, hR60, eR⟩ := i.2.1 k hk
  obtain ⟨f, hf, ef⟩ := i.2.2.1
  obtain ⟨t, ht, et⟩ := i.2.2.2.2.2.1
  obtain ⟨d, hd, ed⟩ := tbq_nat i
  have hq := asks_nat ed hd.2 et ht
  have qle : qN d t ≤ 60 := by unfold qN; split <;> omega
  have q1 := qN_pos d t
  have hv : ∀ j, MgoN s j (69 + k) = nI (sq (¬ hL h k ≤ 0) f d R t j).1 := fun j => by
    have e : MgoN s j (69 + k) = hR (HpassN h j) k := (rel_pass r j).2.1 k hk
    rw [e]
    exact (pass_RT hk eR hR60 et ht ed hd.2 ef hf.2 j).1
  have hb : ∀ j, (sq (¬ hL h k ≤ 0) f d R t j).1 ≤ 60 := fun j => (sq_le hf.2 hd.2 hR60 ht j).1
  have z0 : ∀ j, MgoN s j (69 + k) ≤ 0 ↔ (sq (¬ hL h k ≤ 0) f d R t j).1 = 0 := fun j => by
    rw [hv j]; exact le0 (by have := hb j; omega)
  have hit : ∀ e, e ≤ 150 → (sq (¬ hL h k ≤ 0) f d R t e).1 = 0 → (∀ j, j < e → (sq (¬ hL h k ≤ 0) f d R t j).1 ≠ 0) → Mfd s k = nI e := by
    intro e h1 h2 h3
    have h4 := Mst_hit (s := s) (k := k) ((z0 e).mpr h2) 150 0 (Nat.zero_le e) (by omega) (fun j _ hj z => h3 j hj ((z0 j).mp z))
    unfold Mfd
    rw [h4, if_pos ((z0 e).mpr h2)]
  unfold HfadesIn
  rw [eR, hq, ed, ef]
  by_cases w : ¬ hL h k ≤ 0
  · rw [if_pos w]
    by_cases c : qN d t ≤ R
    · rw [if_pos ((nI_leI (by omega) (by omega)).mpr c)]
      by_cases c2 : d ≤ f
      · rw [if_pos ((nI_leI (by omega) (by omega)).mpr c2)]
        have never : ∀ j, (sq (¬ hL h k ≤ 0) f d R t j).1 ≠ 0 := by
          intro j
          by_cases c3 : j < qN d t
          · rw [sq_1 f d R t j c3]; show R - j ≠ 0; omega
          · obtain ⟨x, hx, e⟩ := sq_ever w f d R t (j - qN d t) hd.1 c2
            rw [show qN d t + (j - qN d t) = j by omega] at e
            rw [e]; show f - x ≠ 0; omega
        have h4 := Mst_miss (s := s) (k := k) 150 0 (fun j _ _ z => never j ((z0 j).mp z))
        unfold Mfd
        rw [h4, if_neg (fun z => never _ ((z0 _).mp z))]
      · rw [if_neg (fun z => c2 ((nI_leI (by omega) (by omega)).mp z)), nI_add]
        refine hit (qN d t + f) (by omega) ?_ (fun j hj => ?_)
        · rw [sq_2 w f d R t f (by omega)]; show f - f = 0; omega
        · by_cases c3 : j < qN d t
          · rw [sq_1 f d R t j c3]; show R - j ≠ 0; omega
          · have e := sq_2 w f d R t (j - qN d t) (by omega)
            rw [show qN d t + (j - qN d t) = j by omega] at e
            rw [e]; show f - (j - qN d t) ≠ 0; omega
    · rw [if_neg (fun z => c ((nI_leI (by omega) (by omega)).mp z))]
      refine hit R (by omega) ?_ (fun j hj => ?_)
      · rw [sq_1 f d R t R (by omega)]; show R - R = 0; omega
      · rw [sq_1 f d R t j (by omega)]; show R - j ≠ 0; omega
  · rw [if_neg w]
    refine hit R (by omega) ?_ (fun j hj => ?_)
    · rw [sq_f w]; omega
    · rw [sq_f w]; omega
/-! disturbed -/
theorem dist_eq {h : HSt} {s : Nat → Int32} (r : RelS h s) (i : Inv h) {c x : Nat} (hc : c < 6) (hx : x ≤ 60) : ∀ n, n ≤ 8 → Mdist (MgoN s x) c n = nI (Hdist h c x n) := by
  obtain ⟨f, hf, ef⟩ := i.2.2.1
  obtain ⟨t, ht, et⟩ := i.2.2.2.2.2.1
  obtain ⟨d, hd, ed⟩ := tbq_nat i
  have rp := rel_pass r x
  obtain ⟨kL, -, ko, -⟩ := pass_keep h x
  intro n
  induction n with
  | zero => exact fun _ => rfl
  | succ n ih =>
    intro hn
    have ih := ih (by omega)
    have hk : n * 6 + c < 48 := by omega
    obtain ⟨R, hR60, eR⟩ := i.2.1 (n * 6 + c) hk
    have hP := goes_gB rp hc (n := n) hn
    have hQ := wants_wB rp hc (n := n) hn
    have e1 : Mdist (MgoN s x) c (n + 1) = Mdist (MgoN s x) c n + bI (Mgoes (MgoN s x) n c ∧ ¬ Mwants (MgoN s x) n c) := rfl
    have e2 : Hdist h c x (n + 1) = if ¬ hL h (n * 6 + c) ≤ 0 then Hdist h c x n else if Hopen h n then Hdist h c x n + 1 else if hR h (n * 6 + c) ≤ nI x then Hdist h c x n else Hdist h c x n + 1 := rfl
    rw [e1, e2, ih]
    have wE : wB (HpassN h x) c n = decide (¬ hL h (n * 6 + c) ≤ 0) := by unfold wB; rw [kL]
    have rE : hR (HpassN h x) (n * 6 + c) = nI (sq (¬ hL h (n * 6 + c) ≤ 0) f d R t x).1 := (pass_RT hk eR hR60 et ht ed hd.2 ef hf.2 x).1
    by_cases w : ¬ hL h (n * 6 + c) ≤ 0
    · rw [if_pos w, bI_f (fun z => z.2 (by rw [hQ, wE]; exact decide_eq_true w)), nI_add, Nat.add_zero]
    · rw [if_neg w]
      have nw : ¬ Mwants (MgoN s x) n c := by rw [hQ, wE]; intro z; exact w (of_decide_eq_true z)
      rw [sq_f w] at rE
      have gE : gB (HpassN h x) c n = true ↔ (Hopen h n ∨ ¬ R ≤ x) := by
        unfold gB opb
        rw [Bool.or_eq_true, decide_eq_true_iff, decide_eq_true_iff, ko, rE, le0 (by omega)]
        have e : R - x = 0 ↔ R ≤ x := by omega
        rw [e]
      by_cases o : Hopen h n
      · rw [if_pos o, bI_t ⟨hP.mpr (gE.mpr (Or.inl o)), nw⟩, nI_add]
      · rw [if_neg o, eR]
        by_cases c2 : R ≤ x
        · rw [if_pos ((nI_leI (by omega) (by omega)).mpr c2), bI_f (fun z => (gE.mp (hP.mp z.1)).elim o (fun y => y c2)), nI_add, Nat.add_zero]
        · rw [if_neg (fun z => c2 ((nI_leI (by omega) (by omega)).mp z)), bI_t ⟨hP.mpr (gE.mpr (Or.inr c2)), nw⟩, nI_add]
/-! the digest -/
theorem dgC_eq {f g : Nat → Int32} (x : Int64) : ∀ n, (∀ j, j < n → f (7 + j) = g j) → MdgC f x n = DgC g x n := by
  intro n
  induction n with
  | zero => exact fun _ => rfl
  | succ n ih =>
    intro h
    show mixI (MdgC f x n) (f (7 + n)) = mixI (DgC g x n) (g n)
    rw [ih (fun j hj => h j (by omega)), h n (by omega)]
theorem dgM_eq {h : HSt} {s : Nat → Int32} (r : RelS h s) (i : Inv h) (x : Int64) : ∀ n, n ≤ 6 → MdgM s x n = DgM h x n := by
  intro n
  induction n with
  | zero => exact fun _ => rfl
  | succ n ih =>
    intro hn
    show mixI (mixI (MdgM s x n) (Mrow s n 8)) (Mwan s n 8) = mixI (mixI (DgM h x n) (Hget h n 8)) (Hwant h n 8)
    rw [ih (by omega), row_eq r i hn, wan_eq r hn 8 (Nat.le_refl 8)]
theorem dgK_in {h : HSt} {s : Nat → Int32} (r : RelS h s) (i : Inv h) (x : Int64) {q : Nat} (hq : q < 8) : ∀ j, j < 6 → MdgK s x (6 * q + (j + 1)) = DgK h q (mixI (MdgK s x (6 * q)) (bI (Hopen h q))) (j + 1) := by
  have step : ∀ n y, n < 48 → mixI (mixI (mixI y (s (21 + n))) (s (69 + n))) (Mfd s n) = mixI (mixI (mixI y (hL h n)) (hR h n)) (HfadesIn n h) := fun n y hn => by
    rw [fades_eq r i hn, r.1 n hn, r.2.1 n hn]
  intro j
  induction j with
  | zero =>
    intro _
    show mixI (mixI (mixI (MdgK1 s (MdgK s x (6 * q)) (6 * q)) (s (21 + 6 * q))) (s (69 + 6 * q))) (Mfd s (6 * q)) = mixI (mixI (mixI (mixI (MdgK s x (6 * q)) (bI (Hopen h q))) (hL h (q * 6 + 0))) (hR h (q * 6 + 0))) (HfadesIn (q * 6 + 0) h)
    rw [step (6 * q) _ (by omega), show q * 6 + 0 = 6 * q by omega]
    have e : MdgK1 s (MdgK s x (6 * q)) (6 * q) = mixI (MdgK s x (6 * q)) (bI (Hopen h q)) := by
      unfold MdgK1
      rw [if_pos (by omega), show 6 * q / 6 = q by omega, r.2.2.2.2.2.2.2.2.2.2 q hq]
    rw [e]
  | succ j ih =>
    intro hj
    have ih := ih (by omega)
    show mixI (mixI (mixI (MdgK1 s (MdgK s x (6 * q + (j + 1))) (6 * q + (j + 1))) (s (21 + (6 * q + (j + 1))))) (s (69 + (6 * q + (j + 1))))) (Mfd s (6 * q + (j + 1))) = mixI (mixI (mixI (DgK h q (mixI (MdgK s x (6 * q)) (bI (Hopen h q))) (j + 1)) (hL h (q * 6 + (j + 1)))) (hR h (q * 6 + (j + 1)))) (HfadesIn (q * 6 + (j + 1)) h)
    rw [step (6 * q + (j + 1)) _ (by omega), ← ih, show q * 6 + (j + 1) = 6 * q + (j + 1) by omega]
    have e : MdgK1 s (MdgK s x (6 * q + (j + 1))) (6 * q + (j + 1)) = MdgK s x (6 * q + (j + 1)) := by
      unfold MdgK1
      rw [if_neg (by omega)]
    rw [e]
theorem dgR_eq {h : HSt} {s : Nat → Int32} (r : RelS h s) (i : Inv h) (x : Int64) : ∀ q, q ≤ 8 → MdgK s x (6 * q) = DgR h x q := by
  intro q
  induction q with
  | zero => exact fun _ => rfl
  | succ q ih =>
    intro hq
    have e := dgK_in r i x (q := q) hq 5 (by decide)
    rw [show 6 * (q + 1) = 6 * q + (5 + 1) by omega, e, ih (by omega)]
    rfl
theorem dig_eq {h : HSt} {s : Nat → Int32} (r : RelS h s) (i : Inv h) : Mdig s = Udig h := by
  unfold Mdig Udig
  have e := dgR_eq r i (MdgM s (MdgC s (mixI (mixI (mixI (mixI (mixI 4701 (s 5)) (s 6)) (Mchief s)) (Ment s 48)) (MasksIn s)) 6) 6) 8 (Nat.le_refl 8)
  rw [show 6 * 8 = 48 from rfl] at e
  rw [e, dgM_eq r i _ 6 (Nat.le_refl 6), dgC_eq (g := hC h) _ 6 r.2.2.1, chief_eq r, ent_eq r 48 (Nat.le_refl 48), asks_eq r i, r.2.2.2.2.2.2.2.2.1, r.2.2.2.2.2.2.2.2.2.1]
end
section
/-! what the law's calls keep and set -/
theorem kOd5 {od sz : Nat} (h : sz ≤ 5) : kOd od sz = od := if_pos (by omega)
theorem kSz5 {sz : Nat} (h : sz ≤ 5) : kSz sz = sz + 1 := if_pos (by omega)
theorem kJ5 {od sz : Nat} (h : sz ≤ 5) : kJ od sz = (od + sz) % 6 := if_pos (by omega)
def Lopen (r b : Nat) (h : HSt) : HSt := if bI (Hopen h r) = nI b then h else Hturn r h
def Ltimes (a b c : Nat) (h : HSt) : HSt := sHas (sHpt (sHfd h (nI a)) (nI b)) (nI c)
def Lpres (p b : Nat) (h : HSt) : HSt := if ¬ p = 1 then sHf2 h (nI b) else sHf1 h (nI b)
end
section
/-- a private method of a class that the tables say can be made, by its rows of tables_1 -/
def lw_okq (q : MethodName × Nat) : Prop := (q.1.cls ≠ "java/lang/invoke/MethodHandle" ∧ q.1.cls ≠ "java/lang/invoke/VarHandle") ∧ Cond.instantiable q.1.cls q.2 ∈ tables_1 ∧ Cond.privateMethod q.1 ∈ tables_1 ∧ Cond.instanceMethod q.1 ∈ tables_1
theorem lw_p0 : lw_okq (⟨"java/lang/Throwable", "fillInStackTrace", "(I)Ljava/lang/Throwable;"⟩, 6) := ⟨⟨by decide +kernel, by decide +kernel⟩, List.mem_of_getElem? (i := 164) (by decide +kernel), List.mem_of_getElem? (i := 162) (by decide +kernel), List.mem_of_getElem? (i := 163) (by decide +kernel)⟩
theorem lw_p1 : lw_okq (⟨"ConcertUsher$Hall", "hearCall", "(I)V"⟩, 12) := ⟨⟨by decide +kernel, by decide +kernel⟩, List.mem_of_getElem? (i := 23) (by decide +kernel), List.mem_of_getElem? (i := 309) (by decide +kernel), List.mem_of_getElem? (i := 310) (by decide +kernel)⟩
theorem lw_p2 : lw_okq (⟨"ConcertUsher$Hall", "hearFarewell", "(I)V"⟩, 12) := ⟨⟨by decide +kernel, by decide +kernel⟩, List.mem_of_getElem? (i := 23) (by decide +kernel), List.mem_of_getElem? (i := 326) (by decide +kernel), List.mem_of_getElem? (i := 327) (by decide +kernel)⟩
theorem lw_p3 : lw_okq (⟨"ConcertUsher$Hall", "fadeEntries", "()V"⟩, 12) := ⟨⟨by decide +kernel, by decide +kernel⟩, List.mem_of_getElem? (i := 23) (by decide +kernel), List.mem_of_getElem? (i := 405) (by decide +kernel), List.mem_of_getElem? (i := 406) (by decide +kernel)⟩
theorem lw_p4 : lw_okq (⟨"ConcertUsher$Hall", "timeBetweenQuestions", "()I"⟩, 12) := ⟨⟨by decide +kernel, by decide +kernel⟩, List.mem_of_getElem? (i := 23) (by decide +kernel), List.mem_of_getElem? (i := 409) (by decide +kernel), List.mem_of_getElem? (i := 410) (by decide +kernel)⟩
theorem lw_p5 : lw_okq (⟨"ConcertUsher$Hall", "askAllRows", "()V"⟩, 12) := ⟨⟨by decide +kernel, by decide +kernel⟩, List.mem_of_getElem? (i := 23) (by decide +kernel), List.mem_of_getElem? (i := 414) (by decide +kernel), List.mem_of_getElem? (i := 415) (by decide +kernel)⟩
def lw_privs_1 : List (MethodName × Nat) := [(⟨"java/lang/Throwable", "fillInStackTrace", "(I)Ljava/lang/Throwable;"⟩, 6), (⟨"ConcertUsher$Hall", "hearCall", "(I)V"⟩, 12), (⟨"ConcertUsher$Hall", "hearFarewell", "(I)V"⟩, 12), (⟨"ConcertUsher$Hall", "fadeEntries", "()V"⟩, 12), (⟨"ConcertUsher$Hall", "timeBetweenQuestions", "()I"⟩, 12), (⟨"ConcertUsher$Hall", "askAllRows", "()V"⟩, 12)]
theorem lw_r1 : ∀ q ∈ lw_privs_1, lw_okq q := List.forall_mem_cons.mpr ⟨lw_p0, List.forall_mem_cons.mpr ⟨lw_p1, List.forall_mem_cons.mpr ⟨lw_p2, List.forall_mem_cons.mpr ⟨lw_p3, List.forall_mem_cons.mpr ⟨lw_p4, List.forall_mem_cons.mpr ⟨lw_p5, fun _ h => absurd h List.not_mem_nil⟩⟩⟩⟩⟩⟩
def lw_privs : List (MethodName × Nat) := lw_privs_1
def lw_tbl : List Cond := k2_sels lw_privs ++ tables_1
theorem lw_privs_ok : ∀ q ∈ lw_privs, lw_okq q := lw_r1
/-- the streams that the claim lets the run draw from -/
abbrev lw_cs : List Choice := [Jvm.Choice.named "NaN.bits"]
theorem lw_bits : nanBits ∈ lw_cs := by first | decide | exact List.mem_cons_self | simp [lw_cs, nanBits]
end
section
/-! ===== BEGIN words of one list among another's, by their places ===== -/
theorem goodIn_r {big : List Cond} (ws : List Cond) (ps : List Nat) (hp : ws = ps.filterMap (fun i => big[i]?)) (h : ws.all goodWord = true) : GoodIn big ws := by
  intro w hw
  have h1 := List.all_eq_true.mp h w hw
  rw [hp] at hw
  obtain ⟨i, -, hi⟩ := List.mem_filterMap.mp hw
  have hm : w ∈ big := by first | exact List.mem_of_getElem? hi | exact List.getElem?_mem hi
  exact ⟨hm, good_of_word h1⟩
theorem goodIn_app {big a b : List Cond} (ha : GoodIn big a) (hb : GoodIn big b) : GoodIn big (a ++ b) := fun w h => (List.mem_append.mp h).elim (ha w) (hb w)
theorem goodIn_ca {big a b : List Cond} {c : Cond} (ha : GoodIn big (c :: a)) (hb : GoodIn big b) : GoodIn big (c :: (a ++ b)) := fun w h => (List.mem_cons.mp h).elim (fun e => ha w (List.mem_cons.mpr (Or.inl e))) (fun h => (List.mem_append.mp h).elim (fun h => ha w (List.mem_cons.mpr (Or.inr h))) (hb w))
theorem goodIn_sub {big ws : List Cond} (hm : ∀ w ∈ ws, w ∈ big) (h : ws.all goodWord = true) : GoodIn big ws := fun w hw => ⟨hm w hw, good_of_word (List.all_eq_true.mp h w hw)⟩
/-! ===== END ===== -/

/-! ===== BEGIN exceptions that leave a method, and their catching by the caller (launches without stack traces) ===== -/
section VXA
/-! The laws vx_back, vx_callV, vx_callS, vx_callSW, vx_throw0, vx_throwS follow proofs of the library, with one case more: JvmDerived/Free/Laws.lean (Back.of_free), Shelf42/LK1.lean (callV, callS), Shelf/KitTraced.lean (throwNew0V, throwNewS). -/
/-- where a method has thrown q: the class by its name, the cell, what was written, the world -/
def vx_T (XC : String → State → State → Prop) (st : State) (q : Addr) (t : State) (mc ms : Nat) (free : Addr → Prop) : Prop :=
  ∃ (E : String) (ce : Cell) (L : List Loc), XC E st t ∧ t.heap[q]? = some ce ∧ ce.vm = .none ∧ st.vm.findClass E = some ce.cls ∧ st.WarmedH t.vm ∧ st.sameButNew ({ t with vm := st.vm } : State) L mc ms ∧ ∀ z ∈ L, free z.base
def vx_Q (Qc : Array Value → State → Outcome → State → Prop) (XC : String → State → State → Prop) (mc ms : Nat) (free : Addr → Prop) : Array Value → State → Outcome → State → Prop := fun a st o t =>
  (Qc a st o t ∧ ∃ L, FrameEnd st o t L mc ms ∧ ∀ q ∈ L, free q.base) ∨ ∃ q, o = .threw q ∧ vx_T XC st q t mc ms free
/-- a callee that returns or throws -/
def vx_Met (l : Launch) (y : MethodName) (ws : List Cond) (rm : Room) (Pc : Array Value → State → Prop) (Qc : Array Value → State → Outcome → State → Prop) (XC : String → State → State → Prop) (mc ms : Nat) (free : Addr → Prop) : Prop :=
  MetFree l y (headSpec ws rm) Pc (fun _ _ _ _ _ => True) (vx_Q Qc XC mc ms free)
def vx_Post (XC : String → State → State → Prop) (mc ms : Nat) (free : Addr → Prop) : Pt → Array Value → Addr → Pt → Prop := fun A a q B =>
  ∃ (g : JFrame) (mk : MethodId) (t : State) (L : List Loc) (E : String) (ce : Cell), B.U.heap = t.heap ∧ B.U.vm = t.vm ∧ XC E (A.U.calling g mk a) t ∧ t.heap[q]? = some ce ∧ ce.vm = .none ∧ A.U.vm.findClass E = some ce.cls ∧ B.locs = A.locs ++ L ∧ (∀ z ∈ L, free z.base) ∧ B.cells = A.cells + mc ∧ B.slots = A.slots + ms
def vx_Back (l : Launch) (R : Room) (p : Program) (e : Env) (below : List Frame) (s : State) (sargs : Array Value) (y : MethodName) (len W9 : Nat)
    (Pre : Pt → Array Value → Prop) (Post : Pt → Array Value → Option Value → Pt → Prop) (PostX : Pt → Array Value → Addr → Pt → Prop) : Prop :=
  ∀ (m : MethodId) (meth : Method) (c : Code) (A : Pt) (g : JFrame) (ig : Instr) (mk : MethodId) (a : Array Value),
    Stand p l e R s m sargs below meth c A.U A.locs A.cells A.slots → g.method = m → g.locals.size = c.maxLocals → decode c.code g.pc = .ok (ig, len) →
    2 * g.monitorRoom + (g.stack.map fun v => v.category).sum ≤ W9 → A.U.methodNamed? y = some mk → Pre A a →
    (∃ (v : Option Value) (B : Pt), Stand p l e R s m sargs below meth c B.U B.locs B.cells B.slots ∧ Post A a v B ∧
      Steps p.tables e below (doInvoke e (A.U.setTop g) [] mk a).1 (B.U.setTop { g with pc := g.pc + len, stack := v.toList ++ g.stack })) ∨
    (∃ (q : Addr) (B : Pt), Stand p l e R s m sargs below meth c B.U B.locs B.cells B.slots ∧ PostX A a q B ∧
      Steps p.tables e below (doInvoke e (A.U.setTop g) [] mk a).1 ((B.U.setTop g).pushFrame (.throwing q)))
section Payer
variable {l : Launch} {R : Room} {p : Program} {e : Env} {below : List Frame} {s : State} {sargs : Array Value} {y : MethodName} {len W9 : Nat}
theorem vx_back {ws : List Cond} {rm : Room} {Pc : Array Value → State → Prop} {Qc : Array Value → State → Outcome → State → Prop} {XC : String → State → State → Prop} {mc ms : Nat} {free : Addr → Prop} {bytes : ByteArray} {maxL : Nat} {ret : Option FieldType}
    (hM : vx_Met l y ws rm Pc Qc XC mc ms free) (hblind : FrameBlind Pc) (hrc : rm.cells = mc) (hrs : rm.slots = ms)
    (hframes : rm.frames + 1 ≤ R.frames) (hlocals : W9 + (maxL + 11) + rm.locals ≤ R.locals)
    (hws : ∀ w ∈ ws, ∀ a' U, s.WarmedH U.vm → w.before a' U = true) (hcode : Cond.code y bytes maxL ret ∈ ws) (hinit : ∀ a' U, s.WarmedH U.vm → (Cond.initialized y.cls).before a' U = true) :
    vx_Back l R p e below s sargs y len W9 (PreOf R mc ms Pc) (PostOf Qc mc ms free) (vx_Post XC mc ms free) := by
  intro m meth c A g ig mk a X hg hsize hdg hW hn hp
  have h1 : (headSpec ws rm).pre.before a A.U = true := atoms_intro fun w hw => hws w hw _ _ X.warmed
  have h2 : (Cond.code y bytes maxL ret).before a A.U = true := hws _ hcode _ _ X.warmed
  have h3 : (Cond.initialized y.cls).before a A.U = true := hinit _ _ X.warmed
  have h4 : A.cells + (headSpec ws rm).room.cells ≤ R.cells := by rw [show (headSpec ws rm).room.cells = mc from hrc]; exact hp.1
  have h5 : A.slots + (headSpec ws rm).room.slots ≤ R.slots := by rw [show (headSpec ws rm).room.slots = ms from hrs]; exact hp.2.1
  have hPc : Pc a (A.U.calling g mk a) := hblind _ _ _ _ hp.2.2
  obtain ⟨U, Ls, c0, s0⟩ := A
  dsimp only [Pt.U, Pt.locs, Pt.cells, Pt.slots] at h1 h2 h3 h4 h5 X hn hPc ⊢
  obtain ⟨methY, cY, hmY, hcY, -, hlY, -, -, -, -⟩ := Cond.code_spec hn h2
  obtain ⟨kY, hkY, -⟩ := className_of_methodNamed hn
  have hinitY : kY.init = .initialized := Cond.initialized_spec (findClass_of_methodNamed hn) hkY h3
  have h : At U g.method c below := by rw [hg]; exact X.here
  have hlocals9 : W9 + (maxL + 11) + (headSpec ws rm).room.locals ≤ R.locals := hlocals
  have happ : (headSpec ws rm).appliesLoose y e.platform (U.calling g mk a) = true :=
    Spec.appliesLoose_calling (g := g) h hdg hn hkY hinitY
      (X.room_calling (g := g) (R' := (headSpec ws rm).room) hsize hmY hcY hframes (by rw [hlY]; omega) h4 h5) h1
  obtain ⟨mid, hmid⟩ := h.above
  have hfr : (U.setTop g).frames = (.java g :: mid) ++ below := by rw [State.frames_setTop' g h.top, hmid]; rfl
  obtain ⟨o, s₂, hsteps, -, hend, hq⟩ := Steps.callFree hM p X.admits X.cas X.clock (acts := []) hfr happ hPc trivial
  have hq' : vx_Q Qc XC mc ms free a (U.calling g mk a) o s₂ := hq
  rw [State.frames_setTop' g h.top] at hend
  obtain ⟨g₀, hg0⟩ := Option.isSome_iff_exists.mp h.top
  obtain ⟨r, hr⟩ := State.topJava?_eq_some.mp hg0
  have hr' : (({ U with heap := s₂.heap, slotsUsed := s₂.slotsUsed } : State).setVm s₂.vm).frames = .java g₀ :: r := hr
  rcases hq' with ⟨hqc, L, hfe, hL⟩ | ⟨q, rfl, E, ce, L, hx, hce, hcv, hcl, hW₂, hsm, hL⟩
  · obtain ⟨⟨v, rfl⟩, hW₂, e2, q2, q3, q4, q5, q6⟩ := id hfe
    have e3 : s₂ = ({ (U.calling g mk a).setFrames s₂.frames with heap := s₂.heap, slotsUsed := s₂.slotsUsed } : State).setVm s₂.vm := by
      have : s₂ = ({ s₂ with vm := (U.calling g mk a).vm } : State).setVm s₂.vm := rfl
      rw [e2] at this
      exact this
    obtain ⟨c₂, i₂, len₂, hc₂, hd₂, hf₂⟩ := hend
    have hW' : U.WarmedH s₂.vm := hW₂
    have hcc : c₂ = c := by
      have h1 : s₂.code? g.method = U.code? g.method := by
        rw [State.code?_eq, State.code?_eq, hW'.alike.method?]
      exact Option.some.inj (hc₂.symm.trans (h1.trans h.code))
    subst hcc
    have hlen : len₂ = len := by rw [hdg] at hd₂; cases hd₂; rfl
    subst hlen
    have hs₂ : s₂ = (({ U with heap := s₂.heap, slotsUsed := s₂.slotsUsed } : State).setVm s₂.vm).setTop { g with pc := g.pc + len₂, stack := v.toList ++ g.stack } := by
      refine e3.trans ?_
      rw [hf₂, State.calling_eq h.top, State.setFrames_setFrames, State.setTop_of_frames _ hr', hr]
      rfl
    have hsame : U.sameButNew ({ U with heap := s₂.heap, slotsUsed := s₂.slotsUsed } : State) L mc ms := by
      refine ⟨?_, q2, q3, q4, q5, q6⟩
      obtain ⟨t, ht, -⟩ := State.frames_cons hr
      show ({ U with heap := s₂.heap, slotsUsed := s₂.slotsUsed } : State) = { U.setFrames U.frames with heap := s₂.heap, slotsUsed := s₂.slotsUsed }
      rw [State.setFrames_self ht]
    subst hg
    refine Or.inl ⟨v, ⟨(({ U with heap := s₂.heap, slotsUsed := s₂.slotsUsed } : State).setVm s₂.vm), Ls ++ L, c0 + mc, s0 + ms⟩,
      ⟨X.admits, X.cas, X.clock, X.frames, X.room, X.hears, X.method, X.code, (X.here.setHeapUsed s₂.heap s₂.slotsUsed).setVm hW'.alike, X.tail, State.WarmedH.trans X.warmed hW', X.limits, X.bytes, X.same.trans (hsame.setVm s.vm)⟩,
      ⟨g, mk, s₂, L, rfl, rfl, hqc, rfl, hL, rfl, rfl⟩, ?_⟩
    show Steps p.tables e below _ ((({ U with heap := s₂.heap, slotsUsed := s₂.slotsUsed } : State).setVm s₂.vm).setTop { g with pc := g.pc + len₂, stack := v.toList ++ g.stack })
    rw [← hs₂]
    exact hsteps
  · obtain ⟨e2, q2, q3, q4, q5, q6⟩ := id hsm
    have e3 : s₂ = ({ (U.calling g mk a).setFrames s₂.frames with heap := s₂.heap, slotsUsed := s₂.slotsUsed } : State).setVm s₂.vm := by
      have : s₂ = ({ s₂ with vm := (U.calling g mk a).vm } : State).setVm s₂.vm := rfl
      rw [e2] at this
      exact this
    have hf₂ : s₂.frames = .throwing q :: .java g :: U.frames.tail := hend
    have hW' : U.WarmedH s₂.vm := hW₂
    have hs₂ : s₂ = ((({ U with heap := s₂.heap, slotsUsed := s₂.slotsUsed } : State).setVm s₂.vm).setTop g).pushFrame (.throwing q) := by
      refine e3.trans ?_
      rw [hf₂, State.calling_eq h.top, State.setFrames_setFrames, State.pushFrame, State.frames_setTop _ hr', State.setTop_of_frames _ hr', State.setFrames_setFrames, hr]
      rfl
    have hsame : U.sameButNew ({ U with heap := s₂.heap, slotsUsed := s₂.slotsUsed } : State) L mc ms := by
      refine ⟨?_, q2, q3, q4, q5, q6⟩
      obtain ⟨t, ht, -⟩ := State.frames_cons hr
      show ({ U with heap := s₂.heap, slotsUsed := s₂.slotsUsed } : State) = { U.setFrames U.frames with heap := s₂.heap, slotsUsed := s₂.slotsUsed }
      rw [State.setFrames_self ht]
    subst hg
    refine Or.inr ⟨q, ⟨(({ U with heap := s₂.heap, slotsUsed := s₂.slotsUsed } : State).setVm s₂.vm), Ls ++ L, c0 + mc, s0 + ms⟩,
      ⟨X.admits, X.cas, X.clock, X.frames, X.room, X.hears, X.method, X.code, (X.here.setHeapUsed s₂.heap s₂.slotsUsed).setVm hW'.alike, X.tail, State.WarmedH.trans X.warmed hW', X.limits, X.bytes, X.same.trans (hsame.setVm s.vm)⟩,
      ⟨g, mk, s₂, L, E, ce, rfl, rfl, hx, hce, hcv, hcl, rfl, hL, rfl, rfl⟩, ?_⟩
    show Steps p.tables e below _ (((({ U with heap := s₂.heap, slotsUsed := s₂.slotsUsed } : State).setVm s₂.vm).setTop g).pushFrame (.throwing q))
    rw [← hs₂]
    exact hsteps
end Payer
section Calls
variable {p : Program} {l : Launch} {e : Env} {R : Room} {s : State} {m : MethodId} {args : Array Value} {below : List Frame} {meth : Method} {c : Code} {T : State} {locs : List Loc} {cells slots : Nat}
theorem vx_callV (X : Stand p l e R s m args below meth c T locs cells slots) (hexec : p.tables.exec = Jvm.exec) {own C : String} {index : Nat} {y : MethodName} {bytes : ByteArray} {maxL : Nat} {ret : Option FieldType}
    (hown : s.vm.findClass own = some m.cls) (hlink : (Cond.methodLink own index y).before args s = true) (hinst : (Cond.instanceMethod y).before args s = true) (hsel : (Cond.selects C y y).before args s = true)
    (hcode : (Cond.code y bytes maxL ret).before args s = true) (hy : y.cls ≠ "java/lang/invoke/MethodHandle" ∧ y.cls ≠ "java/lang/invoke/VarHandle")
    {W9 : Nat} {Pre : Pt → Array Value → Prop} {Post : Pt → Array Value → Option Value → Pt → Prop} {PostX : Pt → Array Value → Addr → Pt → Prop} (hK : vx_Back l R p e below s args y 3 W9 Pre Post PostX)
    {b : Addr} {cellB : Cell} (hcell : T.heap[b]? = some cellB) (hobj : cellB.vm.isStatics = false) (hcls : s.vm.findClass C = some cellB.cls)
    {g : JFrame} (hg : g.method = m) (hsize : g.locals.size = c.maxLocals) {argsL rest : List Value} (hlen : ∀ sig, parseMethodDescriptor y.desc = some sig → argsL.length = sig.parameters.length)
    (hstack : g.stack = argsL.reverse ++ .ref b :: rest) (hW : 2 * g.monitorRoom + (rest.map fun v => v.category).sum ≤ W9) (hdg : decode c.code g.pc = .ok (.invokevirtual index, 3))
    (hpre : ∀ vm₁, s.WarmedH vm₁ → Pre ⟨T.setVm vm₁, locs, cells, slots⟩ (Value.ref b :: argsL).toArray) :
    (∃ (v : Option Value) (vm₁ : Vm) (B : Pt), s.WarmedH vm₁ ∧ Stand p l e R s m args below meth c B.U B.locs B.cells B.slots ∧ Post ⟨T.setVm vm₁, locs, cells, slots⟩ (Value.ref b :: argsL).toArray v B ∧
      ∀ target, Steps p.tables e below (B.U.setTop { g with pc := g.pc + 3, stack := v.toList ++ rest }) target → Steps p.tables e below (T.setTop g) target) ∨
    (∃ (q : Addr) (vm₁ : Vm) (B : Pt), s.WarmedH vm₁ ∧ Stand p l e R s m args below meth c B.U B.locs B.cells B.slots ∧ PostX ⟨T.setVm vm₁, locs, cells, slots⟩ (Value.ref b :: argsL).toArray q B ∧
      Steps p.tables e below (T.setTop g) ((B.U.setTop { g with stack := rest }).pushFrame (.throwing q))) := by
  obtain ⟨mk, methM, hnamed, hmethM, hstM, habM⟩ := Cond.instanceMethod_spec hinst
  obtain ⟨methM', cM, hmethM', -, -, -, -, -, -, hsigM⟩ := Cond.code_spec hnamed hcode
  cases hmethM.symm.trans hmethM'
  obtain ⟨c2, r2, m2, q1, q2, q3, q4, kP, hkP, hkPi⟩ := Cond.selects_spec hsel
  cases hcls.symm.trans q1
  cases (State.methodFound?_of_named hnamed hy).symm.trans q2
  cases hnamed.symm.trans q3
  have hselP : selectMethod e.platform s.vm cellB.cls mk = .method mk := by rw [Launch.admits_selectMethod X.admits]; exact q4
  obtain ⟨vm₁, X₁, hstep₁⟩ := X.invokevirtual hexec hown hlink hnamed hmethM hstM hkP hkPi hy (a := b) (cell := cellB) hcell
    (fun z h => by rw [h] at hobj; cases hobj) hselP hmethM habM hkP hkPi (g := g) hg (argsL := argsL) (rest := rest) (hlen _ hsigM) hstack hdg
  rcases hK m meth c ⟨T.setVm vm₁, locs, cells, slots⟩ { g with stack := rest } (.invokevirtual index) mk (Value.ref b :: argsL).toArray X₁ hg hsize hdg hW (X₁.named hnamed) (hpre vm₁ X₁.warmed) with ⟨v, B, X', hpost, hsteps⟩ | ⟨q, B, X', hpost, hsteps⟩
  · exact Or.inl ⟨v, vm₁, B, X₁.warmed, X', hpost, fun target h => hstep₁ _ fun acts => by rw [doInvoke_state]; exact hsteps.trans h⟩
  · exact Or.inr ⟨q, vm₁, B, X₁.warmed, X', hpost, hstep₁ _ fun acts => by rw [doInvoke_state]; exact hsteps⟩
theorem vx_callS (X : Stand p l e R s m args below meth c T locs cells slots) (hexec : p.tables.exec = Jvm.exec) {own : String} {index : Nat} {y : MethodName} {bytes : ByteArray} {maxL : Nat} {ret : Option FieldType}
    (hown : s.vm.findClass own = some m.cls) (hlink : (Cond.methodLink own index y).before args s = true) (hstat : (Cond.static y).before args s = true) (hinit : (Cond.initialized y.cls).before args s = true)
    (hcode : (Cond.code y bytes maxL ret).before args s = true) (hy : y.cls ≠ "java/lang/invoke/MethodHandle" ∧ y.cls ≠ "java/lang/invoke/VarHandle")
    {W9 : Nat} {Pre : Pt → Array Value → Prop} {Post : Pt → Array Value → Option Value → Pt → Prop} {PostX : Pt → Array Value → Addr → Pt → Prop} (hK : vx_Back l R p e below s args y 3 W9 Pre Post PostX)
    {g : JFrame} (hg : g.method = m) (hsize : g.locals.size = c.maxLocals) {argsL rest : List Value} (hlen : ∀ sig, parseMethodDescriptor y.desc = some sig → argsL.length = sig.parameters.length)
    (hstack : g.stack = argsL.reverse ++ rest) (hW : 2 * g.monitorRoom + (rest.map fun v => v.category).sum ≤ W9) (hdg : decode c.code g.pc = .ok (.invokestatic index, 3))
    (hpre : ∀ vm₁, s.WarmedH vm₁ → Pre ⟨T.setVm vm₁, locs, cells, slots⟩ argsL.toArray) :
    (∃ (v : Option Value) (vm₁ : Vm) (B : Pt), s.WarmedH vm₁ ∧ Stand p l e R s m args below meth c B.U B.locs B.cells B.slots ∧ Post ⟨T.setVm vm₁, locs, cells, slots⟩ argsL.toArray v B ∧
      ∀ target, Steps p.tables e below (B.U.setTop { g with pc := g.pc + 3, stack := v.toList ++ rest }) target → Steps p.tables e below (T.setTop g) target) ∨
    (∃ (q : Addr) (vm₁ : Vm) (B : Pt), s.WarmedH vm₁ ∧ Stand p l e R s m args below meth c B.U B.locs B.cells B.slots ∧ PostX ⟨T.setVm vm₁, locs, cells, slots⟩ argsL.toArray q B ∧
      Steps p.tables e below (T.setTop g) ((B.U.setTop { g with stack := rest }).pushFrame (.throwing q))) := by
  obtain ⟨mk, hnamed⟩ := Cond.code_named hcode
  obtain ⟨methM, cM, hmethM, -, -, -, -, -, -, hsigM⟩ := Cond.code_spec hnamed hcode
  have hstatic : methM.isStatic = true := Cond.static_spec hnamed hmethM hstat
  obtain ⟨kP, hkP, -⟩ := className_of_methodNamed hnamed
  have hinitP : kP.init = .initialized := Cond.initialized_spec (findClass_of_methodNamed hnamed) hkP hinit
  obtain ⟨vm₁, X₁, hstep₁⟩ := X.invokestatic hexec hown hlink hnamed hmethM hstatic hkP hinitP hy (g := g) hg (argsL := argsL) (rest := rest) (hlen _ hsigM) hstack hdg
  rcases hK m meth c ⟨T.setVm vm₁, locs, cells, slots⟩ { g with stack := rest } (.invokestatic index) mk argsL.toArray X₁ hg hsize hdg hW (X₁.named hnamed) (hpre vm₁ X₁.warmed) with ⟨v, B, X', hpost, hsteps⟩ | ⟨q, B, X', hpost, hsteps⟩
  · exact Or.inl ⟨v, vm₁, B, X₁.warmed, X', hpost, fun target h => hstep₁ _ fun acts => by rw [doInvoke_state]; exact hsteps.trans h⟩
  · exact Or.inr ⟨q, vm₁, B, X₁.warmed, X', hpost, hstep₁ _ fun acts => by rw [doInvoke_state]; exact hsteps⟩
end Calls
theorem vx_cls {s : State} {T : State} {vm₁ : Vm} {E : String} {k : ClassId} (hW : s.WarmedH vm₁) (h : (T.setVm vm₁).vm.findClass E = some k) : s.vm.findClass E = some k := by
  have h1 : vm₁.findClass E = some k := h
  rw [hW.alike.findClass] at h1
  exact h1
/-- the method's frame g, with q thrown over it -/
def vx_W (p : Program) (l : Launch) (e : Env) (R : Room) (s : State) (m : MethodId) (args : Array Value) (below : List Frame) (meth : Method) (c : Code) (H : Heap) (locs : List Loc) (cells slots : Nat) (Q : State → Prop) (g : JFrame) (q : Addr) : Prop :=
  ∀ T : State, T.heap = H → Stand p l e R s m args below meth c T locs cells slots → ∃ t, Steps p.tables e below ((T.setTop g).pushFrame (.throwing q)) t ∧ Q t
def vx_Run (p : Program) (l : Launch) (e : Env) (R : Room) (s : State) (m : MethodId) (args : Array Value) (below : List Frame) (meth : Method) (c : Code) (H : Heap) (locs : List Loc) (cells slots mc ms : Nat) (g : JFrame) (rest : List Value) (Qa : State → Outcome → State → Prop) (XC : String → State → State → Prop) (free : Addr → Prop) : Prop :=
  ∀ T : State, T.heap = H → Stand p l e R s m args below meth c T locs cells slots →
    (∃ (v : Option Value) (st₀ t T' : State) (L : List Loc), st₀.heap = H ∧ Stand p l e R s m args below meth c T' (locs ++ L) (cells + mc) (slots + ms) ∧ (∀ q ∈ L, free q.base) ∧ T'.heap = t.heap ∧ T'.vm = t.vm ∧ Qa st₀ (.returned v) t ∧
      Goes p e below T g T' { g with pc := g.pc + 3, stack := v.toList ++ rest }) ∨
    (∃ (q : Addr) (st₀ t T' : State) (L : List Loc) (E : String) (ce : Cell), st₀.heap = H ∧ Stand p l e R s m args below meth c T' (locs ++ L) (cells + mc) (slots + ms) ∧ (∀ z ∈ L, free z.base) ∧ T'.heap = t.heap ∧ T'.vm = t.vm ∧ XC E st₀ t ∧ t.heap[q]? = some ce ∧ ce.vm = .none ∧ s.vm.findClass E = some ce.cls ∧
      Steps p.tables e below (T.setTop g) ((T'.setTop { g with stack := rest }).pushFrame (.throwing q)))
def vx_X {S : Type} (px : S → Prop) (B : String → S → State → Prop) (A : Nat → Prop) : String → State → State → Prop := fun E st t => ∃ u : S, px u ∧ B E u t ∧ va_F A st t
section Runs
variable {p : Program} {l : Launch} {e : Env} {R : Room} {s : State} {m : MethodId} {args : Array Value} {below : List Frame} {meth : Method} {c : Code} {H : Heap} {locs : List Loc} {cells slots : Nat}
variable {y : MethodName} {bytes cc : ByteArray} {maxL nL mc ms n index : Nat} {ret : Option FieldType} {ws : List Cond} {rm : Room} {Pc : Array Value → State → Prop} {Qc : Array Value → State → Outcome → State → Prop} {XC : String → State → State → Prop} {free : Addr → Prop} {Ts : List Cond} {own C : String} {b : Addr} {As rest : List Value} {g : JFrame}
theorem vx_callBack (cb : CallB R s args own index y bytes maxL ret ws rm mc ms n) (hM : vx_Met l y ws rm Pc Qc XC mc ms free) (hbl : FrameBlind Pc) : vx_Back l R p e below s args y 3 8 (PreOf R mc ms Pc) (PostOf Qc mc ms free) (vx_Post XC mc ms free) := by
  obtain ⟨hrc, hrs, hfr, hlo, hws, hcw, -, hini, -⟩ := cb
  exact vx_back (bytes := bytes) (maxL := maxL) (ret := ret) hM hbl hrc hrs hfr hlo hws hcw (fun a' U hW => word_at hW (Or.inl (by first | rfl | simp [Cond.onTables, Cond.keeps, Cond.steady])) hini)
theorem vx_runV (S : CallFix p m c cc nL s args Ts own) (hM : vx_Met l y ws rm Pc Qc XC mc ms free) (cw : CallW R s args own C index y bytes maxL ret ws rm mc ms n) (hp : PreV s H C b Pc As)
    (hg : g.method = m) (hn : As.length = n) (hsize : g.locals.size = nL) (hstack : g.stack = As.reverse ++ .ref b :: rest) (hW : 2 * g.monitorRoom + (rest.map fun v => v.category).sum ≤ 8) (hdg : decode cc g.pc = .ok (.invokevirtual index, 3)) (hf : cells + mc ≤ R.cells ∧ slots + ms ≤ R.slots) :
    vx_Run p l e R s m args below meth c H locs cells slots mc ms g rest (Qc (Value.ref b :: As).toArray) XC free := by
  have hK : vx_Back l R p e below s args y 3 8 (PreOf R mc ms Pc) (PostOf Qc mc ms free) (vx_Post XC mc ms free) := vx_callBack cw.1 hM hp.1
  obtain ⟨⟨-, -, -, -, -, -, hcode, -, hy, hlen, hl⟩, hin, hse⟩ := cw
  obtain ⟨hx, hb, hml, ho, -⟩ := S
  obtain ⟨-, ⟨cellB, hcB, hoB, hclB⟩, hPc⟩ := hp
  intro T hT X
  rcases vx_callV X hx (C := C) (bytes := bytes) (maxL := maxL) (ret := ret) ho hl hin hse hcode hy hK (by rw [hT]; exact hcB) hoB hclB hg (hsize.trans hml.symm) (argsL := As) (rest := rest) (fun sig h => hn.trans (hlen sig h)) hstack hW (by rw [hb]; exact hdg)
    (fun vm₁ hW₁ => ⟨hf.1, hf.2, hPc (T.setVm vm₁) hT hW₁⟩) with ⟨v, vm₁, ⟨U', l2, c2, s2⟩, hW₁, X', ⟨g', mk, t, L, e1, e2, hq, h1, hL, h2, h3⟩, st⟩ | ⟨q, vm₁, ⟨U', l2, c2, s2⟩, hW₁, X', ⟨g', mk, t, L, E, ce, e1, e2, hq, hce, hcv, hcl, h1, hL, h2, h3⟩, st⟩
  · dsimp only [Pt.U, Pt.locs, Pt.cells, Pt.slots] at X' e1 e2 h1 h2 h3 st
    subst h1; subst h2; subst h3
    exact Or.inl ⟨v, (T.setVm vm₁).calling g' mk (Value.ref b :: As).toArray, t, U', L, hT, X', hL, e1, e2, hq, st⟩
  · dsimp only [Pt.U, Pt.locs, Pt.cells, Pt.slots] at X' e1 e2 h1 h2 h3 st hcl
    subst h1; subst h2; subst h3
    exact Or.inr ⟨q, (T.setVm vm₁).calling g' mk (Value.ref b :: As).toArray, t, U', L, E, ce, hT, X', hL, e1, e2, hq, hce, hcv, vx_cls hW₁ hcl, st⟩
theorem vx_runS (S : CallFix p m c cc nL s args Ts own) (hM : vx_Met l y ws rm Pc Qc XC mc ms free) (cw : CallB R s args own index y bytes maxL ret ws rm mc ms n ∧ (Cond.static y).before args s = true) (hp : PreS s H Pc As)
    (hg : g.method = m) (hn : As.length = n) (hsize : g.locals.size = nL) (hstack : g.stack = As.reverse ++ rest) (hW : 2 * g.monitorRoom + (rest.map fun v => v.category).sum ≤ 8) (hdg : decode cc g.pc = .ok (.invokestatic index, 3)) (hf : cells + mc ≤ R.cells ∧ slots + ms ≤ R.slots) :
    vx_Run p l e R s m args below meth c H locs cells slots mc ms g rest (Qc As.toArray) XC free := by
  have hK : vx_Back l R p e below s args y 3 8 (PreOf R mc ms Pc) (PostOf Qc mc ms free) (vx_Post XC mc ms free) := vx_callBack cw.1 hM hp.1
  obtain ⟨⟨-, -, -, -, -, -, hcode, hini, hy, hlen, hl⟩, hstt⟩ := cw
  obtain ⟨hx, hb, hml, ho, -⟩ := S
  intro T hT X
  rcases vx_callS X hx (bytes := bytes) (maxL := maxL) (ret := ret) ho hl hstt hini hcode hy hK hg (hsize.trans hml.symm) (argsL := As) (rest := rest) (fun sig h => hn.trans (hlen sig h)) hstack hW (by rw [hb]; exact hdg)
    (fun vm₁ hW₁ => ⟨hf.1, hf.2, hp.2 (T.setVm vm₁) hT hW₁⟩) with ⟨v, vm₁, ⟨U', l2, c2, s2⟩, hW₁, X', ⟨g', mk, t, L, e1, e2, hq, h1, hL, h2, h3⟩, st⟩ | ⟨q, vm₁, ⟨U', l2, c2, s2⟩, hW₁, X', ⟨g', mk, t, L, E, ce, e1, e2, hq, hce, hcv, hcl, h1, hL, h2, h3⟩, st⟩
  · dsimp only [Pt.U, Pt.locs, Pt.cells, Pt.slots] at X' e1 e2 h1 h2 h3 st
    subst h1; subst h2; subst h3
    exact Or.inl ⟨v, (T.setVm vm₁).calling g' mk As.toArray, t, U', L, hT, X', hL, e1, e2, hq, st⟩
  · dsimp only [Pt.U, Pt.locs, Pt.cells, Pt.slots] at X' e1 e2 h1 h2 h3 st hcl
    subst h1; subst h2; subst h3
    exact Or.inr ⟨q, (T.setVm vm₁).calling g' mk As.toArray, t, U', L, E, ce, hT, X', hL, e1, e2, hq, hce, hcv, vx_cls hW₁ hcl, st⟩
end Runs
section Rows
variable {p : Program} {l : Launch} {e : Env} {R : Room} {s : State} {m : MethodId} {args : Array Value} {below : List Frame} {meth : Method} {c : Code} {H : Heap} {locs : List Loc} {cells slots : Nat} {Q : State → Prop}
variable {mc ms : Nat} {free : Addr → Prop} {A0 A1 : Nat → Prop} {H0 : Heap} {a : Array Value} {pc : Nat} {ls : Array Slot} {st0 rest : List Value}
theorem vx_keep {st₀ t T' : State} {L : List Loc} (h0 : st₀.heap = H) (e1 : T'.heap = t.heap) (hS : va_S A0 H0 H locs) (hA : ∀ q, q < H.size → A1 q → A0 q) (hf : ∀ q, free q → A0 q) (hL : ∀ q ∈ L, free q.base) (hF : va_F A1 st₀ t) :
    H.size ≤ T'.heap.size ∧ (∀ q : Nat, q < H.size → ¬ A1 q → T'.heap[q]? = H[q]?) ∧ va_S A0 H0 T'.heap (locs ++ L) := by
  obtain ⟨hz, hk⟩ := hF
  rw [h0] at hz hk
  exact ⟨by rw [e1]; exact hz, fun q h1 h2 => by rw [e1]; exact hk q h1 h2,
    ⟨Nat.le_trans hS.1 (by rw [e1]; exact hz), fun q h1 h2 => by rw [e1, hk q (Nat.lt_of_lt_of_le h1 hS.1) (fun z => h2 (hA q (Nat.lt_of_lt_of_le h1 hS.1) z))]; exact hS.2.1 q h1 h2, fun q hq => by
      rcases List.mem_append.mp hq with h | h
      · exact hS.2.2 q h
      · exact hf _ (hL q h)⟩⟩
theorem vx_calli {S SX : Type} {post : Int32 → S → Prop} {px : SX → Prop} {B : S → State → Prop} {BX : String → SX → State → Prop} {AX : Nat → Prop} (hr : vx_Run p l e R s m args below meth c H locs cells slots mc ms (F0 m pc ls st0) rest (va_Qi post B A1 a) (vx_X px BX AX) free) (hS : va_S A0 H0 H locs) (hA : ∀ q, q < H.size → A1 q → A0 q) (hf : ∀ q, free q → A0 q) (hAX : ∀ q, q < H.size → AX q → A0 q)
    (kx : ∀ (E : String) (ce : Cell) (q9 : Addr) (u : SX) (t : State) (H1 : Heap) (locs1 : List Loc), t.heap = H1 → s.vm.Alike t.vm → px u → BX E u t → H.size ≤ H1.size → (∀ q : Nat, q < H.size → ¬ AX q → H1[q]? = H[q]?) → va_S A0 H0 H1 locs1 → H1[q9]? = some ce → ce.vm = .none → s.vm.findClass E = some ce.cls → vx_W p l e R s m args below meth c H1 locs1 (cells + mc) (slots + ms) Q (F0 m pc ls rest) q9)
    (kk : ∀ (r : Int32) (u : S) (t : State) (H1 : Heap) (locs1 : List Loc), t.heap = H1 → s.vm.Alike t.vm → post r u → B u t → H.size ≤ H1.size → (∀ q : Nat, q < H.size → ¬ A1 q → H1[q]? = H[q]?) → va_S A0 H0 H1 locs1 → W p l e R s m args below meth c H1 locs1 (cells + mc) (slots + ms) Q (F0 m (pc + 3) ls (.int r :: rest))) : W p l e R s m args below meth c H locs cells slots Q (F0 m pc ls st0) := by
  intro T hT X
  rcases hr T hT X with ⟨v, st₀, t, T', L, h0, X', hL, e1, e2, ⟨⟨r, u, hv, hp, hb⟩, hF⟩, st⟩ | ⟨q, st₀, t, T', L, E, ce, h0, X', hL, e1, e2, ⟨u, hp, hb, hF⟩, hce, hcv, hcl, st⟩
  · cases hv
    obtain ⟨k1, k2, k3⟩ := vx_keep h0 e1 hS hA hf hL hF
    obtain ⟨t2, a1, b1⟩ := kk r u t T'.heap (locs ++ L) e1.symm (by rw [← e2]; exact X'.warmed.alike) hp hb k1 k2 k3 T' rfl X'
    exact ⟨t2, st t2 a1, b1⟩
  · obtain ⟨k1, k2, k3⟩ := vx_keep h0 e1 hS hAX hf hL hF
    obtain ⟨t2, a1, b1⟩ := kx E ce q u t T'.heap (locs ++ L) e1.symm (by rw [← e2]; exact X'.warmed.alike) hp hb k1 k2 k3 (by rw [e1]; exact hce) hcv hcl T' rfl X'
    exact ⟨t2, st.trans a1, b1⟩
theorem vx_calll {S SX : Type} {post : Int64 → S → Prop} {px : SX → Prop} {B : S → State → Prop} {BX : String → SX → State → Prop} {AX : Nat → Prop} (hr : vx_Run p l e R s m args below meth c H locs cells slots mc ms (F0 m pc ls st0) rest (va_Ql post B A1 a) (vx_X px BX AX) free) (hS : va_S A0 H0 H locs) (hA : ∀ q, q < H.size → A1 q → A0 q) (hf : ∀ q, free q → A0 q) (hAX : ∀ q, q < H.size → AX q → A0 q)
    (kx : ∀ (E : String) (ce : Cell) (q9 : Addr) (u : SX) (t : State) (H1 : Heap) (locs1 : List Loc), t.heap = H1 → s.vm.Alike t.vm → px u → BX E u t → H.size ≤ H1.size → (∀ q : Nat, q < H.size → ¬ AX q → H1[q]? = H[q]?) → va_S A0 H0 H1 locs1 → H1[q9]? = some ce → ce.vm = .none → s.vm.findClass E = some ce.cls → vx_W p l e R s m args below meth c H1 locs1 (cells + mc) (slots + ms) Q (F0 m pc ls rest) q9)
    (kk : ∀ (r : Int64) (u : S) (t : State) (H1 : Heap) (locs1 : List Loc), t.heap = H1 → s.vm.Alike t.vm → post r u → B u t → H.size ≤ H1.size → (∀ q : Nat, q < H.size → ¬ A1 q → H1[q]? = H[q]?) → va_S A0 H0 H1 locs1 → W p l e R s m args below meth c H1 locs1 (cells + mc) (slots + ms) Q (F0 m (pc + 3) ls (.long r :: rest))) : W p l e R s m args below meth c H locs cells slots Q (F0 m pc ls st0) := by
  intro T hT X
  rcases hr T hT X with ⟨v, st₀, t, T', L, h0, X', hL, e1, e2, ⟨⟨r, u, hv, hp, hb⟩, hF⟩, st⟩ | ⟨q, st₀, t, T', L, E, ce, h0, X', hL, e1, e2, ⟨u, hp, hb, hF⟩, hce, hcv, hcl, st⟩
  · cases hv
    obtain ⟨k1, k2, k3⟩ := vx_keep h0 e1 hS hA hf hL hF
    obtain ⟨t2, a1, b1⟩ := kk r u t T'.heap (locs ++ L) e1.symm (by rw [← e2]; exact X'.warmed.alike) hp hb k1 k2 k3 T' rfl X'
    exact ⟨t2, st t2 a1, b1⟩
  · obtain ⟨k1, k2, k3⟩ := vx_keep h0 e1 hS hAX hf hL hF
    obtain ⟨t2, a1, b1⟩ := kx E ce q u t T'.heap (locs ++ L) e1.symm (by rw [← e2]; exact X'.warmed.alike) hp hb k1 k2 k3 (by rw [e1]; exact hce) hcv hcl T' rfl X'
    exact ⟨t2, st.trans a1, b1⟩
theorem vx_callf {S SX : Type} {post : UInt32 → S → Prop} {px : SX → Prop} {B : S → State → Prop} {BX : String → SX → State → Prop} {AX : Nat → Prop} (hr : vx_Run p l e R s m args below meth c H locs cells slots mc ms (F0 m pc ls st0) rest (va_Qf post B A1 a) (vx_X px BX AX) free) (hS : va_S A0 H0 H locs) (hA : ∀ q, q < H.size → A1 q → A0 q) (hf : ∀ q, free q → A0 q) (hAX : ∀ q, q < H.size → AX q → A0 q)
    (kx : ∀ (E : String) (ce : Cell) (q9 : Addr) (u : SX) (t : State) (H1 : Heap) (locs1 : List Loc), t.heap = H1 → s.vm.Alike t.vm → px u → BX E u t → H.size ≤ H1.size → (∀ q : Nat, q < H.size → ¬ AX q → H1[q]? = H[q]?) → va_S A0 H0 H1 locs1 → H1[q9]? = some ce → ce.vm = .none → s.vm.findClass E = some ce.cls → vx_W p l e R s m args below meth c H1 locs1 (cells + mc) (slots + ms) Q (F0 m pc ls rest) q9)
    (kk : ∀ (r : UInt32) (u : S) (t : State) (H1 : Heap) (locs1 : List Loc), t.heap = H1 → s.vm.Alike t.vm → post r u → B u t → H.size ≤ H1.size → (∀ q : Nat, q < H.size → ¬ A1 q → H1[q]? = H[q]?) → va_S A0 H0 H1 locs1 → W p l e R s m args below meth c H1 locs1 (cells + mc) (slots + ms) Q (F0 m (pc + 3) ls (.float r :: rest))) : W p l e R s m args below meth c H locs cells slots Q (F0 m pc ls st0) := by
  intro T hT X
  rcases hr T hT X with ⟨v, st₀, t, T', L, h0, X', hL, e1, e2, ⟨⟨r, u, hv, hp, hb⟩, hF⟩, st⟩ | ⟨q, st₀, t, T', L, E, ce, h0, X', hL, e1, e2, ⟨u, hp, hb, hF⟩, hce, hcv, hcl, st⟩
  · cases hv
    obtain ⟨k1, k2, k3⟩ := vx_keep h0 e1 hS hA hf hL hF
    obtain ⟨t2, a1, b1⟩ := kk r u t T'.heap (locs ++ L) e1.symm (by rw [← e2]; exact X'.warmed.alike) hp hb k1 k2 k3 T' rfl X'
    exact ⟨t2, st t2 a1, b1⟩
  · obtain ⟨k1, k2, k3⟩ := vx_keep h0 e1 hS hAX hf hL hF
    obtain ⟨t2, a1, b1⟩ := kx E ce q u t T'.heap (locs ++ L) e1.symm (by rw [← e2]; exact X'.warmed.alike) hp hb k1 k2 k3 (by rw [e1]; exact hce) hcv hcl T' rfl X'
    exact ⟨t2, st.trans a1, b1⟩
theorem vx_calld {S SX : Type} {post : UInt64 → S → Prop} {px : SX → Prop} {B : S → State → Prop} {BX : String → SX → State → Prop} {AX : Nat → Prop} (hr : vx_Run p l e R s m args below meth c H locs cells slots mc ms (F0 m pc ls st0) rest (va_Qd post B A1 a) (vx_X px BX AX) free) (hS : va_S A0 H0 H locs) (hA : ∀ q, q < H.size → A1 q → A0 q) (hf : ∀ q, free q → A0 q) (hAX : ∀ q, q < H.size → AX q → A0 q)
    (kx : ∀ (E : String) (ce : Cell) (q9 : Addr) (u : SX) (t : State) (H1 : Heap) (locs1 : List Loc), t.heap = H1 → s.vm.Alike t.vm → px u → BX E u t → H.size ≤ H1.size → (∀ q : Nat, q < H.size → ¬ AX q → H1[q]? = H[q]?) → va_S A0 H0 H1 locs1 → H1[q9]? = some ce → ce.vm = .none → s.vm.findClass E = some ce.cls → vx_W p l e R s m args below meth c H1 locs1 (cells + mc) (slots + ms) Q (F0 m pc ls rest) q9)
    (kk : ∀ (r : UInt64) (u : S) (t : State) (H1 : Heap) (locs1 : List Loc), t.heap = H1 → s.vm.Alike t.vm → post r u → B u t → H.size ≤ H1.size → (∀ q : Nat, q < H.size → ¬ A1 q → H1[q]? = H[q]?) → va_S A0 H0 H1 locs1 → W p l e R s m args below meth c H1 locs1 (cells + mc) (slots + ms) Q (F0 m (pc + 3) ls (.double r :: rest))) : W p l e R s m args below meth c H locs cells slots Q (F0 m pc ls st0) := by
  intro T hT X
  rcases hr T hT X with ⟨v, st₀, t, T', L, h0, X', hL, e1, e2, ⟨⟨r, u, hv, hp, hb⟩, hF⟩, st⟩ | ⟨q, st₀, t, T', L, E, ce, h0, X', hL, e1, e2, ⟨u, hp, hb, hF⟩, hce, hcv, hcl, st⟩
  · cases hv
    obtain ⟨k1, k2, k3⟩ := vx_keep h0 e1 hS hA hf hL hF
    obtain ⟨t2, a1, b1⟩ := kk r u t T'.heap (locs ++ L) e1.symm (by rw [← e2]; exact X'.warmed.alike) hp hb k1 k2 k3 T' rfl X'
    exact ⟨t2, st t2 a1, b1⟩
  · obtain ⟨k1, k2, k3⟩ := vx_keep h0 e1 hS hAX hf hL hF
    obtain ⟨t2, a1, b1⟩ := kx E ce q u t T'.heap (locs ++ L) e1.symm (by rw [← e2]; exact X'.warmed.alike) hp hb k1 k2 k3 (by rw [e1]; exact hce) hcv hcl T' rfl X'
    exact ⟨t2, st.trans a1, b1⟩
theorem vx_callv {S SX : Type} {post : S → Prop} {px : SX → Prop} {B : S → State → Prop} {BX : String → SX → State → Prop} {AX : Nat → Prop} (hr : vx_Run p l e R s m args below meth c H locs cells slots mc ms (F0 m pc ls st0) rest (va_Qv post B A1 a) (vx_X px BX AX) free) (hS : va_S A0 H0 H locs) (hA : ∀ q, q < H.size → A1 q → A0 q) (hf : ∀ q, free q → A0 q) (hAX : ∀ q, q < H.size → AX q → A0 q)
    (kx : ∀ (E : String) (ce : Cell) (q9 : Addr) (u : SX) (t : State) (H1 : Heap) (locs1 : List Loc), t.heap = H1 → s.vm.Alike t.vm → px u → BX E u t → H.size ≤ H1.size → (∀ q : Nat, q < H.size → ¬ AX q → H1[q]? = H[q]?) → va_S A0 H0 H1 locs1 → H1[q9]? = some ce → ce.vm = .none → s.vm.findClass E = some ce.cls → vx_W p l e R s m args below meth c H1 locs1 (cells + mc) (slots + ms) Q (F0 m pc ls rest) q9)
    (kk : ∀ (u : S) (t : State) (H1 : Heap) (locs1 : List Loc), t.heap = H1 → s.vm.Alike t.vm → post u → B u t → H.size ≤ H1.size → (∀ q : Nat, q < H.size → ¬ A1 q → H1[q]? = H[q]?) → va_S A0 H0 H1 locs1 → W p l e R s m args below meth c H1 locs1 (cells + mc) (slots + ms) Q (F0 m (pc + 3) ls (rest))) : W p l e R s m args below meth c H locs cells slots Q (F0 m pc ls st0) := by
  intro T hT X
  rcases hr T hT X with ⟨v, st₀, t, T', L, h0, X', hL, e1, e2, ⟨⟨u, hv, hp, hb⟩, hF⟩, st⟩ | ⟨q, st₀, t, T', L, E, ce, h0, X', hL, e1, e2, ⟨u, hp, hb, hF⟩, hce, hcv, hcl, st⟩
  · cases hv
    obtain ⟨k1, k2, k3⟩ := vx_keep h0 e1 hS hA hf hL hF
    obtain ⟨t2, a1, b1⟩ := kk u t T'.heap (locs ++ L) e1.symm (by rw [← e2]; exact X'.warmed.alike) hp hb k1 k2 k3 T' rfl X'
    exact ⟨t2, st t2 a1, b1⟩
  · obtain ⟨k1, k2, k3⟩ := vx_keep h0 e1 hS hAX hf hL hF
    obtain ⟨t2, a1, b1⟩ := kx E ce q u t T'.heap (locs ++ L) e1.symm (by rw [← e2]; exact X'.warmed.alike) hp hb k1 k2 k3 (by rw [e1]; exact hce) hcv hcl T' rfl X'
    exact ⟨t2, st.trans a1, b1⟩
/-- caught by the row x of this method's table; the rows ahead don't take it -/
theorem vx_catch {own name : String} {E : String} {ce : Cell} {q : Addr} (hown : s.vm.findClass own = some m.cls) (pre : List ExceptionTableEntry) (x : ExceptionTableEntry) (suf : List ExceptionTableEntry) (hsplit : c.exceptionTable.toList = pre ++ x :: suf)
    (hpass : ∀ z ∈ pre, covers z pc = false ∨ (z.catchType ≠ 0 ∧ ∃ nm : String, (Cond.classLink own z.catchType nm).before args s = true ∧ va_Nc E nm s)) (hx : covers x pc = true) (h0 : x.catchType ≠ 0)
    (hlink : (Cond.classLink own x.catchType name).before args s = true) (hcast : (Cond.castable E name).before args s = true) (hcell : H[q]? = some ce) (hv : ce.vm = .none) (hcl : s.vm.findClass E = some ce.cls)
    (kk : W p l e R s m args below meth c H locs cells slots Q (F0 m x.handlerPc ls [.ref q])) : vx_W p l e R s m args below meth c H locs cells slots Q (F0 m pc ls rest) q := by
  intro T hT X
  have hpl : e.platform.magicAccessors = ({} : Platform).magicAccessors := by rw [X.admits.platform]
  obtain ⟨c3, c4, hc3, hc4, hasg⟩ := Cond.castable_spec hcast
  cases Option.some.inj (hc3.symm.trans hcl)
  obtain ⟨c5, hc5, hcl5⟩ := Cond.classLink_spec hown hlink e.platform hpl
  cases Option.some.inj (hc4.symm.trans hc5)
  obtain ⟨vm', X', st⟩ := X.thenCaughtThrough q (g := F0 m pc ls rest) rfl (Steps.refl _) (by rw [hT]; exact hcell) (by rw [hv]; rfl) (by obtain ⟨k9, h9, -⟩ := Vm.findClass_spec hcl; exact ⟨k9, h9⟩) pre x suf hsplit
    (fun z hz => by
      rcases hpass z hz with h | ⟨hz0, nm, hl1, hn1⟩
      · exact Or.inl h
      · obtain ⟨c6, hc6, hcl6⟩ := Cond.classLink_spec hown hl1 e.platform hpl
        obtain ⟨a8, b8, h1, h2, h3⟩ := hn1
        cases Option.some.inj (h1.symm.trans hcl)
        cases Option.some.inj (h2.symm.trans hc6)
        exact Or.inr ⟨hz0, _, hcl6, h3⟩) hx (Or.inr ⟨h0, c4, hcl5, hasg⟩)
  obtain ⟨t, a1, b1⟩ := kk (T.setVm vm') hT X'
  exact ⟨t, st.trans a1, b1⟩
end Rows
section Ends
variable {p : Program} {l : Launch} {e : Env} {R : Room} {s : State} {m : MethodId} {args : Array Value} {below : List Frame} {meth : Method} {c : Code} {H : Heap} {locs : List Loc} {cells slots : Nat} {Q : State → Prop}
variable {mc ms : Nat} {free : Addr → Prop} {A0 A1 : Nat → Prop} {H0 : Heap} {a : Array Value} {ls : Array Slot} {st0 rest : List Value}
variable {Qc : Array Value → State → Outcome → State → Prop} {XC : String → State → State → Prop}
/-- what a body that may throw owes at its end -/
def vx_MQ (below : List Frame) (Qc : Array Value → State → Outcome → State → Prop) (XC : String → State → State → Prop) (a : Array Value) (s : State) (mc ms : Nat) (free : Addr → Prop) : State → Prop := fun t =>
  ∃ o, t.status = .running ∧ Ended t below o ∧ vx_Q Qc XC mc ms free a s o t
theorem vx_ret {g : JFrame} {mc ms : Nat} (k : W p l e R s m args below meth c H locs cells slots (MQ below Qc args s mc ms free) g) : W p l e R s m args below meth c H locs cells slots (vx_MQ below Qc XC args s mc ms free) g := by
  intro T hT X
  obtain ⟨t, a1, o, b1, b2, b3, b4⟩ := k T hT X
  exact ⟨t, a1, o, b1, b2, Or.inl ⟨b3, b4⟩⟩
/-- not caught here: it goes on to the caller -/
theorem vx_widen {g : JFrame} {q : Addr} {k n : Nat} (h1 : cells ≤ k) (h2 : slots ≤ n) (kk : vx_W p l e R s m args below meth c H locs k n Q g q) : vx_W p l e R s m args below meth c H locs cells slots Q g q := fun T hT X => kk T hT (stand_widen X h1 h2)
theorem vx_out {pc : Nat} {E : String} {ce : Cell} {q : Addr} {mc ms : Nat} (hout : ∀ x ∈ c.exceptionTable.toList, covers x pc = false) (hlocks : meth.locks = false) (hcell : H[q]? = some ce) (hv : ce.vm = .none) (hcl : s.vm.findClass E = some ce.cls)
    (hx : ∀ t : State, t.heap = H → s.vm.Alike t.vm → XC E s t) (hf : ∀ z ∈ locs, free z.base) (hc : cells ≤ mc) (hs : slots ≤ ms) :
    vx_W p l e R s m args below meth c H locs cells slots (vx_MQ below Qc XC args s mc ms free) (F0 m pc ls rest) q := by
  intro T hT X
  obtain ⟨st1, hrun, hend, hW, hsm⟩ := X.leaveThrown q (g := F0 m pc ls rest) rfl rfl rfl hout hlocks
  have hcell9 : (T.setFrames (.throwing q :: below)).heap[q]? = some ce := by
    show T.heap[q]? = some ce
    rw [hT]; exact hcell
  exact ⟨_, st1, .threw q, hrun, hend, Or.inr ⟨q, rfl, E, ce, locs, hx _ hT hW.alike, hcell9, hv, hcl, hW, hsm.mono hc hs, hf⟩⟩
theorem vx_frame {U : State} {k n : Nat} (h : s.sameButNew ({ U with vm := s.vm } : State) locs k n) : s.heap.size ≤ U.heap.size ∧ ∀ q : Nat, q < s.heap.size → (∀ z ∈ locs, z.base ≠ q) → U.heap[q]? = s.heap[q]? := by
  obtain ⟨-, h2, -, -, -, h6⟩ := h
  refine ⟨h2, fun q hq hz => ?_⟩
  obtain ⟨c9, e1, e2, e3, e4⟩ := h6 q _ (Array.getElem?_eq_getElem hq)
  have hs : c9.slots = (s.heap[q]).slots := Array.ext_getElem? fun i => e4 i fun hm => hz _ hm rfl
  have h9 : c9 = s.heap[q] := by
    rw [hs] at e2
    exact e2
  have e5 : U.heap[q]? = some c9 := e1
  rw [e5, h9, Array.getElem?_eq_getElem hq]
/-- the words of a throw but the four that speak of the heap -/
def vx_no (w : Cond) : Bool := decide (w ≠ .isRef (.static Bundle.tN "UNASSIGNED_STACK" Bundle.steD)) && decide (w ≠ .isRef (.static Bundle.tN "SUPPRESSED_SENTINEL" Bundle.listD)) && decide (w ≠ .laysStatic Bundle.tN "UNASSIGNED_STACK" Bundle.steD) && decide (w ≠ .laysStatic Bundle.tN "SUPPRESSED_SENTINEL" Bundle.listD)
def vx_at0 (own : String) (ic : Nat) (X : String) (names : List String) : List Cond := (Bundle.ownAtoms0 own ic X names).filter vx_no
def vx_atS (own : String) (ic : Nat) (X : String) (names : List String) : List Cond := (Bundle.ownAtoms own ic X names).filter vx_no
/-- a word that the tables alone decide, or a good one -/
def vx_ot (w : Cond) : Bool := w.onTables || goodWord w
theorem vx_ot_at {args a' : Array Value} {s U : State} {w : Cond} (hW : s.WarmedH U.vm) (hvm : s.vm = U.vm) (hg : vx_ot w = true) (h : w.before args s = true) : w.before a' U = true := by
  simp only [vx_ot, Bool.or_eq_true] at hg
  rcases hg with hg | hg
  · exact va_tabs hg hvm h
  · exact word_at hW (good_of_word hg) h
/-- a list's words: the good ones out of the method's own list, the others by premises of their own -/
theorem vx_hat {args : Array Value} {s : State} {L B : List Cond} (h1 : ∀ w ∈ L.filter goodWord, w.before args s = true) (h2 : ∀ w ∈ L.filter (fun w => !goodWord w), w ∈ B) (h3 : ∀ w ∈ B, w.before args s = true) : ∀ w ∈ L, w.before args s = true := by
  intro w hw
  by_cases g : goodWord w = true
  · exact h1 w (List.mem_filter.mpr ⟨hw, g⟩)
  · refine h3 w (h2 w (List.mem_filter.mpr ⟨hw, ?_⟩))
    show (!goodWord w) = true
    cases hgw : goodWord w
    · rfl
    · exact absurd hgw g
theorem vx_c {args : Array Value} {s : State} {w : Cond} {B : List Cond} (h : w.before args s = true) (t : ∀ w ∈ B, w.before args s = true) : ∀ w' ∈ w :: B, w'.before args s = true := fun w' h' => (List.mem_cons.mp h').elim (fun e => by rw [e]; exact h) (t w')
theorem vx_n {args : Array Value} {s : State} : ∀ w ∈ ([] : List Cond), w.before args s = true := fun _ h => nomatch h
theorem vx_own {args : Array Value} {s : State} {L : List Cond} (h1 : ∀ w ∈ L.filter vx_no, w.before args s = true)
    (hU : (Cond.isRef (.static Bundle.tN "UNASSIGNED_STACK" Bundle.steD)).before args s = true) (hN : (Cond.isRef (.static Bundle.tN "SUPPRESSED_SENTINEL" Bundle.listD)).before args s = true)
    (lU : (Cond.laysStatic Bundle.tN "UNASSIGNED_STACK" Bundle.steD).before args s = true) (lN : (Cond.laysStatic Bundle.tN "SUPPRESSED_SENTINEL" Bundle.listD).before args s = true) : ∀ w ∈ L, w.before args s = true := by
  intro w hw
  by_cases e1 : w = .isRef (.static Bundle.tN "UNASSIGNED_STACK" Bundle.steD)
  · rw [e1]; exact hU
  · by_cases e2 : w = .isRef (.static Bundle.tN "SUPPRESSED_SENTINEL" Bundle.listD)
    · rw [e2]; exact hN
    · by_cases e3 : w = .laysStatic Bundle.tN "UNASSIGNED_STACK" Bundle.steD
      · rw [e3]; exact lU
      · by_cases e4 : w = .laysStatic Bundle.tN "SUPPRESSED_SENTINEL" Bundle.listD
        · rw [e4]; exact lN
        · exact h1 w (List.mem_filter.mpr ⟨hw, by unfold vx_no; rw [decide_eq_true e1, decide_eq_true e2, decide_eq_true e3, decide_eq_true e4]; rfl⟩)
/-- where a static field lies, its class's statics cell in H -/
def vx_L (C n d : String) (A : Nat → Prop) (U : State) (H : Heap) : Prop := ∃ (c : ClassId) (k : Class) (i : Nat) (f : Field) (a : Nat) (cell : Cell), U.vm.findClass C = some c ∧ U.fieldFound? C n d = some (c, k, i, f) ∧ f.isStatic = true ∧ k.statics = some a ∧ H[a]? = some cell ∧ cell.vm.isStatics = true ∧ cell.cls = c ∧ f.slot < cell.slots.size ∧ k.staticTypes[f.slot]? = some f.type ∧ ¬ A a
theorem vx_L.moved {C n d : String} {A : Nat → Prop} {u U : State} {H : Heap} (hvm : u.vm.Alike U.vm) (h : vx_L C n d A u H) : vx_L C n d A U H := by
  obtain ⟨c, k, i, f, a, cell, h1, h2, h3, h4, h5, h6, h7, h8, h9, h10⟩ := h
  obtain ⟨k', hi', he⟩ := State.fieldFound?_setVm hvm h2
  exact ⟨c, k', i, f, a, cell, by rw [hvm.findClass]; exact h1, hi', h3, by rw [he]; exact h4, h5, h6, h7, h8, by rw [he]; exact h9, h10⟩
theorem vx_L.kept {C n d : String} {A : Nat → Prop} {U : State} {H H1 : Heap} (h : vx_L C n d A U H) (hq : ∀ a : Nat, a < H.size → ¬ A a → H1[a]? = H[a]?) : vx_L C n d A U H1 := by
  obtain ⟨c, k, i, f, a, cell, h1, h2, h3, h4, h5, h6, h7, h8, h9, h10⟩ := h
  exact ⟨c, k, i, f, a, cell, h1, h2, h3, h4, by rw [hq a (Array.getElem?_eq_some_iff.mp h5).1 h10]; exact h5, h6, h7, h8, h9, h10⟩
theorem vx_L.narrow {C n d : String} {A B : Nat → Prop} {U : State} {H : Heap} (h : vx_L C n d A U H) (hAB : ∀ q, B q → A q) : vx_L C n d B U H := by
  obtain ⟨c, k, i, f, a, cell, h1, h2, h3, h4, h5, h6, h7, h8, h9, h10⟩ := h
  exact ⟨c, k, i, f, a, cell, h1, h2, h3, h4, h5, h6, h7, h8, h9, fun z => h10 (hAB _ z)⟩
theorem vx_L.word {C n d : String} {A : Nat → Prop} {s : State} {args : Array Value} (h : vx_L C n d A s s.heap) : (Cond.laysStatic C n d).before args s = true := by
  obtain ⟨c, k, i, f, a, cell, h1, h2, h3, h4, h5, h6, h7, h8, h9, -⟩ := h
  show (Cond.laysStatic C n d).holds args s none s [] = true
  exact Cond.laysStatic_of h1 h2 h3 h4 h5 h6 h7 h8 h9
/-- .. and what it holds: null or some reference -/
def vx_Zq (C n d : String) (A : Nat → Prop) (U : State) (H : Heap) : Prop := va_Zq C n d A U H ∧ vx_L C n d A U H
theorem vx_Zq.moved {C n d : String} {A : Nat → Prop} {u U : State} {H : Heap} (hvm : u.vm.Alike U.vm) (h : vx_Zq C n d A u H) : vx_Zq C n d A U H := ⟨va_Zq.moved hvm h.1, vx_L.moved hvm h.2⟩
theorem vx_Zq.kept {C n d : String} {A : Nat → Prop} {U : State} {H H1 : Heap} (h : vx_Zq C n d A U H) (hq : ∀ a : Nat, a < H.size → ¬ A a → H1[a]? = H[a]?) : vx_Zq C n d A U H1 := ⟨va_Zq.kept h.1 hq, vx_L.kept h.2 hq⟩
theorem vx_Zq.narrow {C n d : String} {A B : Nat → Prop} {U : State} {H : Heap} (h : vx_Zq C n d A U H) (hAB : ∀ q, B q → A q) : vx_Zq C n d B U H := ⟨va_Zq.narrow h.1 hAB, vx_L.narrow h.2 hAB⟩
theorem vx_Zqof {args : Array Value} {s : State} {C n d : String} {A : Nat → Prop} (hl : (Cond.laysStatic C n d).before args s = true) (hini : (Cond.initialized C).before args s = true) (h : (Cond.isRef (.static C n d)).before args s = true) (hA : ∀ a : Nat, a < s.heap.size → ¬ A a) : vx_Zq C n d A s s.heap := by
  refine ⟨va_Zqof hl hini h hA, ?_⟩
  obtain ⟨c, k, i, f, a, cell, h1, h2, h3, h4, h5, h6, h7, h8, h9⟩ := Cond.laysStatic_spec hl
  exact ⟨c, k, i, f, a, cell, h1, h2, h3, h4, h5, h6, h7, h8, h9, hA a (Array.getElem?_eq_some_iff.mp h5).1⟩
theorem vx_isRef {C n d : String} {v : Value} {A : Nat → Prop} {s : State} {args : Array Value} (h : va_Z C n d v A s s.heap) (hv : v.isRef = true) : (Cond.isRef (.static C n d)).before args s = true := by
  obtain ⟨cf, kf, fi, f, a, cell, h1, h2, h3, h4, h5, h6, h7, -⟩ := h
  have he : (Term.static C n d).eval args s none [] s = some v := by
    simp [Term.eval, State.fieldNamed?, h1, h2, h4, h5, h6, h7]
  simp only [Cond.before, Cond.holds, Cond.value, he]
  cases v <;> simp_all [Value.isRef]
theorem vx_isRefq {C n d : String} {A : Nat → Prop} {s : State} {args : Array Value} (h : va_Zq C n d A s s.heap) : (Cond.isRef (.static C n d)).before args s = true := by
  rcases h with h | ⟨t, h⟩
  · exact vx_isRef h rfl
  · exact vx_isRef h rfl
/-- the same frame, seen from here: as if the method were called anew in this heap -/
theorem vx_rebase {T : State} (X : Stand p l e R s m args below meth c T locs cells slots) {R' : Room} (hf : R'.frames ≤ R.frames) (hl : R'.locals ≤ R.locals) (hc : cells + R'.cells ≤ R.cells) (hs : slots + R'.slots ≤ R.slots) :
    Stand p l e R' ((T.setVm s.vm).setFrames (.invoking m args :: below)) m args below meth c T [] 0 0 := by
  have htop : (T.setVm s.vm).topJava?.isSome := X.here.top
  have hF : ((T.setVm s.vm).setFrames (.invoking m args :: below)).frames = .invoking m args :: below := State.frames_setFrames _ (State.cur_lt_of_top htop)
  obtain ⟨g₀, hg0⟩ := Option.isSome_iff_exists.mp htop
  obtain ⟨r, hr⟩ := State.topJava?_eq_some.mp hg0
  have hl9 : e.platform.stackLimits (T.setVm s.vm).me = e.platform.stackLimits s.me := X.limits
  have hb9 : (T.setVm s.vm).me.stackBytes = s.me.stackBytes := X.bytes
  refine ⟨X.admits, X.cas, X.clock, hF, ?_, X.hears, X.method, X.code, X.here, X.tail, X.warmed, ?_, ?_, ?_⟩
  · have h := X.room
    have hU : ((T.setVm s.vm).setFrames (.invoking m args :: below)).localsInUse = s.localsInUse := by
      rw [State.localsInUse_invoking hF (meth := meth) (c := c) X.method X.code, State.localsInUse_invoking X.frames X.method X.code]
    simp only [State.hasRoom, Bool.and_eq_true, decide_eq_true_eq] at h ⊢
    obtain ⟨⟨⟨⟨h1, h2, h3, h4, h5, h6⟩, h7⟩, h8⟩, h9⟩ := h
    rw [X.frames, List.length_cons] at h2 h3
    have q1 := X.heapSize
    have q2 := X.used
    simp only [hF, hU, List.length_cons, State.stackLimits_setFrames, State.stackBytes_setFrames, hl9, hb9]
    refine ⟨⟨⟨⟨by omega, by omega, by omega, by omega, by omega, h6⟩, ?_⟩, ?_⟩, X.book⟩
    · show T.heap.size + R'.cells ≤ e.platform.maxCells
      omega
    · show T.slotsUsed + R'.slots ≤ e.platform.maxSlots
      omega
  · rw [State.stackLimits_setFrames]; rfl
  · rw [State.stackBytes_setFrames]; rfl
  · refine ⟨?_, Nat.le_refl _, Nat.le_refl _, ?_, ?_, fun a c9 h9 => ⟨c9, h9, rfl, rfl, fun _ _ => rfl⟩⟩
    · obtain ⟨t, ht, -⟩ := State.frames_cons hr
      show T.setVm s.vm = { ((T.setVm s.vm).setFrames (.invoking m args :: below)).setFrames (T.setVm s.vm).frames with heap := T.heap, slotsUsed := T.slotsUsed }
      rw [State.setFrames_setFrames, State.setFrames_self ht]
      rfl
    · show T.slotsUsed = T.slotsUsed + ((T.heap.toList.drop T.heap.size).map (·.slots.size)).sum
      rw [List.drop_eq_nil_of_le (Nat.le_of_eq Array.length_toList)]
      rfl
    · show ((T.heap.toList.drop T.heap.size).map (·.slots.size)).sum ≤ 0
      rw [List.drop_eq_nil_of_le (Nat.le_of_eq Array.length_toList)]
      exact Nat.le_refl _
/-- 'throw new E()': new; dup; invokespecial; athrow -/
theorem vx_throw0 {cc : ByteArray} {pc : Nat} (hexec : p.tables.exec = Jvm.exec) (hb : c.code = cc) (hl : l.stackTraces = false) {own cls : String} {names : List String} {ik ic mc ms : Nat} {A : Nat → Prop}
    (hown : s.vm.findClass own = some m.cls) (hcls : Bundle.fit cls = true) (hnames : ∀ n ∈ names, Bundle.fit n = true)
    (hk : (Cond.classLink own ik cls).before args s = true) (hini : (Cond.initialized cls).before args s = true) (hat : ∀ w ∈ vx_at0 own ic cls names, w.before args s = true)
    (hgood : ∀ w ∈ Cond.classLink own ik cls :: Cond.initialized cls :: vx_at0 own ic cls names, vx_ot w = true)
    (hU : vx_Zq Bundle.tN "UNASSIGNED_STACK" Bundle.steD A s s.heap) (hN : vx_Zq Bundle.tN "SUPPRESSED_SENTINEL" Bundle.listD A s s.heap) (hS : va_S A s.heap H locs) (hsize : ls.size = c.maxLocals)
    (d0 : decode cc pc = .ok (.new ik, 3)) (d3 : decode cc (pc + 3) = .ok (.dup, 1)) (d4 : decode cc (pc + 4) = .ok (.invokespecial ic, 3)) (d7 : decode cc (pc + 7) = .ok (.athrow, 1))
    (hout : ∀ x ∈ c.exceptionTable.toList, covers x (pc + 7) = false)
    (hRframes : names.length + 3 < R.frames) (hRlocals : (rest.map fun v => v.category).sum + (13 * (names.length + 1) + 42) ≤ R.locals) (hRcells : cells + 1 ≤ R.cells) (hRslots : slots + 6 ≤ R.slots) (hlocks : meth.locks = false)
    (hx : ∀ t : State, s.vm.Alike t.vm → H.size ≤ t.heap.size → (∀ q : Nat, q < H.size → t.heap[q]? = H[q]?) → XC cls s t)
    (hf : ∀ z ∈ locs, free z.base) (hc : cells + 1 ≤ mc) (hs : slots + 6 ≤ ms) :
    W p l e R s m args below meth c H locs cells slots (vx_MQ below Qc XC args s mc ms free) (F0 m pc ls rest) := by
  intro T hT X
  have htr : e.platform.stackTraces = false := (show e.platform.stackTraces = l.stackTraces by rw [X.admits.platform]).trans hl
  have Y := vx_rebase X (R' := { frames := R.frames, locals := R.locals, cells := 1, slots := 6 }) (Nat.le_refl _) (Nat.le_refl _) hRcells hRslots
  obtain ⟨s', hA⟩ : ∃ z, z = (T.setVm s.vm).setFrames (.invoking m args :: below) := ⟨_, rfl⟩
  rw [← hA] at Y
  have hvm : s'.vm = s.vm := by rw [hA]; rfl
  have hhp : s'.heap = H := by rw [hA]; exact hT
  have hW0 : s.WarmedH s'.vm := by rw [hvm]; exact State.WarmedH.refl s
  have hat' : ∀ w ∈ vx_at0 own ic cls names, w.before args s' = true := fun w hw => vx_ot_at hW0 hvm.symm (hgood w (List.mem_cons_of_mem _ (List.mem_cons_of_mem _ hw))) (hat w hw)
  have hk' : (Cond.classLink own ik cls).before args s' = true := vx_ot_at hW0 hvm.symm (hgood _ List.mem_cons_self) hk
  have hini' : (Cond.initialized cls).before args s' = true := vx_ot_at hW0 hvm.symm (hgood _ (List.mem_cons_of_mem _ List.mem_cons_self)) hini
  have hU' : vx_Zq Bundle.tN "UNASSIGNED_STACK" Bundle.steD A s' s'.heap := by rw [hhp]; exact vx_Zq.moved hW0.alike (hU.kept hS.2.1)
  have hN' : vx_Zq Bundle.tN "SUPPRESSED_SENTINEL" Bundle.listD A s' s'.heap := by rw [hhp]; exact vx_Zq.moved hW0.alike (hN.kept hS.2.1)
  have h : ∀ w ∈ Bundle.ownAtoms0 own ic cls names, w.before args s' = true := vx_own hat' (vx_isRefq hU'.1) (vx_isRefq hN'.1) hU'.2.word hN'.2.word
  have hown' : s'.vm.findClass own = some m.cls := by rw [hvm]; exact hown
  have hins : (Cond.instantiable cls 6).before args s' = true := h _ (by simp [Bundle.ownAtoms0])
  obtain ⟨vm₁, cX, kX, hfX, hkX, -, -, X₁, st1⟩ := Y.newCold hexec (own := own) (C := cls) (index := ik) (n := 6) hown' hk' hins hini'
    (g := F0 m pc ls rest) rfl (by rw [hb]; exact d0) (Nat.le_refl _) (Nat.le_refl _)
  generalize hT1 : (T.setVm vm₁).pushCell { cls := cX, slots := kX.instanceTypes.map defaultValue, vm := .none } = T1 at X₁ st1
  have hcat : (Value.ref T.heap.size).category = 1 := rfl
  have hcellA : T1.heap[T.heap.size]? = some (freshCell cX kX) := by rw [← hT1]; exact State.heap_pushCell_size _ _
  have d3' : decode c.code (pc + 3) = .ok (.dup, 1) := by rw [hb]; exact d3
  obtain ⟨U, hsteps, hrun, hend, hW, hsame, ce, hce, hO⟩ := X₁.ctorThrow0 hexec htr (own := own) (cls := cls) (names := names) (ic := ic) hown' hcls hnames h (fun x hx => nomatch hx) hfX hkX hcellA (by rw [hhp, hT]; exact Nat.le_refl _)
    (g := { method := m, pc := pc + 4, locals := ls, stack := .ref T.heap.size :: .ref T.heap.size :: rest, locked := none }) rfl hsize rfl rfl (rest := rest) rfl
    (by rw [hb]; exact d4) (by rw [hb]; exact d7) hout hRframes (by simp only [List.map_cons, List.sum_cons, hcat]; omega) hlocks
  obtain ⟨f1, f2⟩ := vx_frame hsame
  rw [hhp] at f1 f2
  have hWs : s.WarmedH U.vm := State.WarmedH.trans hW0 hW
  have hcl : s.vm.findClass cls = some ce.cls := by
    have h9 := hO.cls
    rw [hvm] at h9
    exact h9
  have hall : s.sameButNew ({ U with vm := s.vm } : State) locs mc ms := by
    subst hA
    obtain ⟨e1, e2⟩ := hsame
    rw [State.setFrames_setFrames] at e1
    have h2 : (T.setVm s.vm).sameButNew ({ U with vm := s.vm } : State) [] (0 + 1) (0 + 6) := ⟨e1, e2⟩
    have h3 := X.same.trans h2
    rw [List.append_nil] at h3
    exact h3.mono hc hs
  refine ⟨U, ?_, .threw T.heap.size, hrun, hend, Or.inr ⟨T.heap.size, rfl, cls, ce, locs, hx U hWs.alike f1 (fun q hq => f2 q hq (fun z hz => nomatch hz)), hce, hO.vm, hcl, hWs, hall, hf⟩⟩
  refine st1 _ ?_
  show Steps p.tables e below (T1.setTop { method := m, pc := pc + 3, locals := ls, stack := .ref T.heap.size :: rest, locked := none }) _
  jvm_step X₁.here [X₁.here.top, hexec, d3', Value.category]
  exact hsteps
/-- 'throw new E("text")': new; dup; ldc; invokespecial; athrow -/
theorem vx_throwS {cc : ByteArray} {pc : Nat} (hexec : p.tables.exec = Jvm.exec) (hb : c.code = cc) (hl : l.stackTraces = false) {own cls text : String} {names : List String} {ik is ic mc ms sa : Nat} {A : Nat → Prop}
    (hown : s.vm.findClass own = some m.cls) (hcls : Bundle.fit cls = true) (hnames : ∀ n ∈ names, Bundle.fit n = true)
    (hk : (Cond.classLink own ik cls).before args s = true) (hini : (Cond.initialized cls).before args s = true) (hstr : vk_R own is text sa s) (hat : ∀ w ∈ vx_atS own ic cls names, w.before args s = true)
    (hgood : ∀ w ∈ Cond.classLink own ik cls :: Cond.initialized cls :: vx_atS own ic cls names, vx_ot w = true)
    (hU : vx_Zq Bundle.tN "UNASSIGNED_STACK" Bundle.steD A s s.heap) (hN : vx_Zq Bundle.tN "SUPPRESSED_SENTINEL" Bundle.listD A s s.heap) (hS : va_S A s.heap H locs) (hsize : ls.size = c.maxLocals)
    (d0 : decode cc pc = .ok (.new ik, 3)) (d3 : decode cc (pc + 3) = .ok (.dup, 1)) (d4 : decode cc (pc + 4) = .ok (.ldc is, 2)) (d6 : decode cc (pc + 6) = .ok (.invokespecial ic, 3)) (d9 : decode cc (pc + 9) = .ok (.athrow, 1))
    (hout : ∀ x ∈ c.exceptionTable.toList, covers x (pc + 9) = false)
    (hRframes : names.length + 3 < R.frames) (hRlocals : (rest.map fun v => v.category).sum + (13 * (names.length + 1) + 43) ≤ R.locals) (hRcells : cells + 1 ≤ R.cells) (hRslots : slots + 6 ≤ R.slots) (hlocks : meth.locks = false)
    (hx : ∀ t : State, s.vm.Alike t.vm → H.size ≤ t.heap.size → (∀ q : Nat, q < H.size → t.heap[q]? = H[q]?) → XC cls s t)
    (hf : ∀ z ∈ locs, free z.base) (hc : cells + 1 ≤ mc) (hs : slots + 6 ≤ ms) :
    W p l e R s m args below meth c H locs cells slots (vx_MQ below Qc XC args s mc ms free) (F0 m pc ls rest) := by
  intro T hT X
  have htr : e.platform.stackTraces = false := (show e.platform.stackTraces = l.stackTraces by rw [X.admits.platform]).trans hl
  have Y := vx_rebase X (R' := { frames := R.frames, locals := R.locals, cells := 1, slots := 6 }) (Nat.le_refl _) (Nat.le_refl _) hRcells hRslots
  obtain ⟨s', hA⟩ : ∃ z, z = (T.setVm s.vm).setFrames (.invoking m args :: below) := ⟨_, rfl⟩
  rw [← hA] at Y
  have hvm : s'.vm = s.vm := by rw [hA]; rfl
  have hhp : s'.heap = H := by rw [hA]; exact hT
  have hW0 : s.WarmedH s'.vm := by rw [hvm]; exact State.WarmedH.refl s
  have hat' : ∀ w ∈ vx_atS own ic cls names, w.before args s' = true := fun w hw => vx_ot_at hW0 hvm.symm (hgood w (List.mem_cons_of_mem _ (List.mem_cons_of_mem _ hw))) (hat w hw)
  have hk' : (Cond.classLink own ik cls).before args s' = true := vx_ot_at hW0 hvm.symm (hgood _ List.mem_cons_self) hk
  have hini' : (Cond.initialized cls).before args s' = true := vx_ot_at hW0 hvm.symm (hgood _ (List.mem_cons_of_mem _ List.mem_cons_self)) hini
  have hU' : vx_Zq Bundle.tN "UNASSIGNED_STACK" Bundle.steD A s' s'.heap := by rw [hhp]; exact vx_Zq.moved hW0.alike (hU.kept hS.2.1)
  have hN' : vx_Zq Bundle.tN "SUPPRESSED_SENTINEL" Bundle.listD A s' s'.heap := by rw [hhp]; exact vx_Zq.moved hW0.alike (hN.kept hS.2.1)
  have h : ∀ w ∈ Bundle.ownAtoms own ic cls names, w.before args s' = true := vx_own hat' (vx_isRefq hU'.1) (vx_isRefq hN'.1) hU'.2.word hN'.2.word
  have hown' : s'.vm.findClass own = some m.cls := by rw [hvm]; exact hown
  have hins : (Cond.instantiable cls 6).before args s' = true := h _ (by simp [Bundle.ownAtoms])
  obtain ⟨vm₁, cX, kX, hfX, hkX, -, -, X₁, st1⟩ := Y.newCold hexec (own := own) (C := cls) (index := ik) (n := 6) hown' hk' hins hini'
    (g := F0 m pc ls rest) rfl (by rw [hb]; exact d0) (Nat.le_refl _) (Nat.le_refl _)
  generalize hT1 : (T.setVm vm₁).pushCell { cls := cX, slots := kX.instanceTypes.map defaultValue, vm := .none } = T1 at X₁ st1
  have hcat : (Value.ref T.heap.size).category = 1 := rfl
  have hcellA : T1.heap[T.heap.size]? = some (freshCell cX kX) := by rw [← hT1]; exact State.heap_pushCell_size _ _
  have d3' : decode c.code (pc + 3) = .ok (.dup, 1) := by rw [hb]; exact d3
  have d4' : decode c.code (pc + 4) = .ok (.ldc is, 2) := by rw [hb]; exact d4
  have hstr' : vk_R own is text sa s' := vk_R.warm hW0 hstr
  obtain ⟨U, hsteps, hrun, hend, hW, hsame, ce, hce, hO⟩ := X₁.ctorThrowS hexec htr (own := own) (cls := cls) (names := names) (ic := ic) hown' hcls hnames h (fun x hx => nomatch hx) hfX hkX hcellA (by rw [hhp, hT]; exact Nat.le_refl _) (msg := .ref sa) rfl
    (g := { method := m, pc := pc + 6, locals := ls, stack := .ref sa :: .ref T.heap.size :: .ref T.heap.size :: rest, locked := none }) rfl hsize rfl rfl (rest := rest) rfl
    (by rw [hb]; exact d6) (by rw [hb]; exact d9) hout hRframes (by simp only [List.map_cons, List.sum_cons, hcat]; omega) hlocks
  obtain ⟨f1, f2⟩ := vx_frame hsame
  rw [hhp] at f1 f2
  have hWs : s.WarmedH U.vm := State.WarmedH.trans hW0 hW
  have hcl : s.vm.findClass cls = some ce.cls := by
    have h9 := hO.cls
    rw [hvm] at h9
    exact h9
  have hall : s.sameButNew ({ U with vm := s.vm } : State) locs mc ms := by
    subst hA
    obtain ⟨e1, e2⟩ := hsame
    rw [State.setFrames_setFrames] at e1
    have h2 : (T.setVm s.vm).sameButNew ({ U with vm := s.vm } : State) [] (0 + 1) (0 + 6) := ⟨e1, e2⟩
    have h3 := X.same.trans h2
    rw [List.append_nil] at h3
    exact h3.mono hc hs
  refine ⟨U, ?_, .threw T.heap.size, hrun, hend, Or.inr ⟨T.heap.size, rfl, cls, ce, locs, hx U hWs.alike f1 (fun q hq => f2 q hq (fun z hz => nomatch hz)), hce, hO.vm, hcl, hWs, hall, hf⟩⟩
  refine st1 _ ?_
  show Steps p.tables e below (T1.setTop { method := m, pc := pc + 3, locals := ls, stack := .ref T.heap.size :: rest, locked := none }) _
  jvm_step X₁.here [X₁.here.top, hexec, d3', Value.category]
  exact X₁.ldcString hexec (own := own) (text := text) (index := is) (a := sa) hown' hstr'.1 hstr'.2
    (g := { method := m, pc := pc + 4, locals := ls, stack := .ref T.heap.size :: .ref T.heap.size :: rest, locked := none }) rfl d4' _ hsteps
/-- 'throw new E("text")', the text by a wide index -/
theorem vx_throwSW {cc : ByteArray} {pc : Nat} (hexec : p.tables.exec = Jvm.exec) (hb : c.code = cc) (hl : l.stackTraces = false) {own cls text : String} {names : List String} {ik is ic mc ms sa : Nat} {A : Nat → Prop}
    (hown : s.vm.findClass own = some m.cls) (hcls : Bundle.fit cls = true) (hnames : ∀ n ∈ names, Bundle.fit n = true)
    (hk : (Cond.classLink own ik cls).before args s = true) (hini : (Cond.initialized cls).before args s = true) (hstr : vk_R own is text sa s) (hat : ∀ w ∈ vx_atS own ic cls names, w.before args s = true)
    (hgood : ∀ w ∈ Cond.classLink own ik cls :: Cond.initialized cls :: vx_atS own ic cls names, vx_ot w = true)
    (hU : vx_Zq Bundle.tN "UNASSIGNED_STACK" Bundle.steD A s s.heap) (hN : vx_Zq Bundle.tN "SUPPRESSED_SENTINEL" Bundle.listD A s s.heap) (hS : va_S A s.heap H locs) (hsize : ls.size = c.maxLocals)
    (d0 : decode cc pc = .ok (.new ik, 3)) (d3 : decode cc (pc + 3) = .ok (.dup, 1)) (d4 : decode cc (pc + 4) = .ok (.ldc_w is, 3)) (d7 : decode cc (pc + 7) = .ok (.invokespecial ic, 3)) (d10 : decode cc (pc + 10) = .ok (.athrow, 1))
    (hout : ∀ x ∈ c.exceptionTable.toList, covers x (pc + 10) = false)
    (hRframes : names.length + 3 < R.frames) (hRlocals : (rest.map fun v => v.category).sum + (13 * (names.length + 1) + 43) ≤ R.locals) (hRcells : cells + 1 ≤ R.cells) (hRslots : slots + 6 ≤ R.slots) (hlocks : meth.locks = false)
    (hx : ∀ t : State, s.vm.Alike t.vm → H.size ≤ t.heap.size → (∀ q : Nat, q < H.size → t.heap[q]? = H[q]?) → XC cls s t)
    (hf : ∀ z ∈ locs, free z.base) (hc : cells + 1 ≤ mc) (hs : slots + 6 ≤ ms) :
    W p l e R s m args below meth c H locs cells slots (vx_MQ below Qc XC args s mc ms free) (F0 m pc ls rest) := by
  intro T hT X
  have htr : e.platform.stackTraces = false := (show e.platform.stackTraces = l.stackTraces by rw [X.admits.platform]).trans hl
  have Y := vx_rebase X (R' := { frames := R.frames, locals := R.locals, cells := 1, slots := 6 }) (Nat.le_refl _) (Nat.le_refl _) hRcells hRslots
  obtain ⟨s', hA⟩ : ∃ z, z = (T.setVm s.vm).setFrames (.invoking m args :: below) := ⟨_, rfl⟩
  rw [← hA] at Y
  have hvm : s'.vm = s.vm := by rw [hA]; rfl
  have hhp : s'.heap = H := by rw [hA]; exact hT
  have hW0 : s.WarmedH s'.vm := by rw [hvm]; exact State.WarmedH.refl s
  have hat' : ∀ w ∈ vx_atS own ic cls names, w.before args s' = true := fun w hw => vx_ot_at hW0 hvm.symm (hgood w (List.mem_cons_of_mem _ (List.mem_cons_of_mem _ hw))) (hat w hw)
  have hk' : (Cond.classLink own ik cls).before args s' = true := vx_ot_at hW0 hvm.symm (hgood _ List.mem_cons_self) hk
  have hini' : (Cond.initialized cls).before args s' = true := vx_ot_at hW0 hvm.symm (hgood _ (List.mem_cons_of_mem _ List.mem_cons_self)) hini
  have hU' : vx_Zq Bundle.tN "UNASSIGNED_STACK" Bundle.steD A s' s'.heap := by rw [hhp]; exact vx_Zq.moved hW0.alike (hU.kept hS.2.1)
  have hN' : vx_Zq Bundle.tN "SUPPRESSED_SENTINEL" Bundle.listD A s' s'.heap := by rw [hhp]; exact vx_Zq.moved hW0.alike (hN.kept hS.2.1)
  have h : ∀ w ∈ Bundle.ownAtoms own ic cls names, w.before args s' = true := vx_own hat' (vx_isRefq hU'.1) (vx_isRefq hN'.1) hU'.2.word hN'.2.word
  have hown' : s'.vm.findClass own = some m.cls := by rw [hvm]; exact hown
  have hins : (Cond.instantiable cls 6).before args s' = true := h _ (by simp [Bundle.ownAtoms])
  obtain ⟨vm₁, cX, kX, hfX, hkX, -, -, X₁, st1⟩ := Y.newCold hexec (own := own) (C := cls) (index := ik) (n := 6) hown' hk' hins hini'
    (g := F0 m pc ls rest) rfl (by rw [hb]; exact d0) (Nat.le_refl _) (Nat.le_refl _)
  generalize hT1 : (T.setVm vm₁).pushCell { cls := cX, slots := kX.instanceTypes.map defaultValue, vm := .none } = T1 at X₁ st1
  have hcat : (Value.ref T.heap.size).category = 1 := rfl
  have hcellA : T1.heap[T.heap.size]? = some (freshCell cX kX) := by rw [← hT1]; exact State.heap_pushCell_size _ _
  have d3' : decode c.code (pc + 3) = .ok (.dup, 1) := by rw [hb]; exact d3
  have d4' : decode c.code (pc + 4) = .ok (.ldc_w is, 3) := by rw [hb]; exact d4
  have hstr' : vk_R own is text sa s' := vk_R.warm hW0 hstr
  obtain ⟨U, hsteps, hrun, hend, hW, hsame, ce, hce, hO⟩ := X₁.ctorThrowS hexec htr (own := own) (cls := cls) (names := names) (ic := ic) hown' hcls hnames h (fun x hx => nomatch hx) hfX hkX hcellA (by rw [hhp, hT]; exact Nat.le_refl _) (msg := .ref sa) rfl
    (g := { method := m, pc := pc + 7, locals := ls, stack := .ref sa :: .ref T.heap.size :: .ref T.heap.size :: rest, locked := none }) rfl hsize rfl rfl (rest := rest) rfl
    (by rw [hb]; exact d7) (by rw [hb]; exact d10) hout hRframes (by simp only [List.map_cons, List.sum_cons, hcat]; omega) hlocks
  obtain ⟨f1, f2⟩ := vx_frame hsame
  rw [hhp] at f1 f2
  have hWs : s.WarmedH U.vm := State.WarmedH.trans hW0 hW
  have hcl : s.vm.findClass cls = some ce.cls := by
    have h9 := hO.cls
    rw [hvm] at h9
    exact h9
  have hall : s.sameButNew ({ U with vm := s.vm } : State) locs mc ms := by
    subst hA
    obtain ⟨e1, e2⟩ := hsame
    rw [State.setFrames_setFrames] at e1
    have h2 : (T.setVm s.vm).sameButNew ({ U with vm := s.vm } : State) [] (0 + 1) (0 + 6) := ⟨e1, e2⟩
    have h3 := X.same.trans h2
    rw [List.append_nil] at h3
    exact h3.mono hc hs
  refine ⟨U, ?_, .threw T.heap.size, hrun, hend, Or.inr ⟨T.heap.size, rfl, cls, ce, locs, hx U hWs.alike f1 (fun q hq => f2 q hq (fun z hz => nomatch hz)), hce, hO.vm, hcl, hWs, hall, hf⟩⟩
  refine st1 _ ?_
  show Steps p.tables e below (T1.setTop { method := m, pc := pc + 3, locals := ls, stack := .ref T.heap.size :: rest, locked := none }) _
  jvm_step X₁.here [X₁.here.top, hexec, d3', Value.category]
  exact X₁.ldcStringW hexec (own := own) (text := text) (index := is) (a := sa) hown' hstr'.1 hstr'.2
    (g := { method := m, pc := pc + 4, locals := ls, stack := .ref T.heap.size :: .ref T.heap.size :: rest, locked := none }) rfl d4' _ hsteps
end Ends
section Bodies
variable {l : Launch}
theorem vx_ofW {y : MethodName} {ws ws' : List Cond} {rm : Room} {Pc : Array Value → State → Prop} {Qc : Array Value → State → Outcome → State → Prop} {XC : String → State → State → Prop} {mc ms : Nat} {free : Addr → Prop} {cc : ByteArray} {maxL : Nat} {ret : Option FieldType}
    (hy : plainName y.cls = true) (hw : ws = Cond.code y cc maxL ret :: ws')
    (body : ∀ p e s m args below meth c s₁, BodyLoose p l y (headSpec ws rm) cc maxL ret e s m args below meth c s₁ → c.maxLocals = maxL → (∀ x ∈ c.exceptionTable.toList, False) → Pc args s →
      W p l e (headSpec ws rm).room s m args below meth c s.heap [] 0 0 (vx_MQ below Qc XC args s mc ms free) (entryFrame m args maxL)) : vx_Met l y ws rm Pc Qc XC mc ms free := by
  refine MetFree.of_bodyS (code := cc) (maxLocals := maxL) (ret := ret) hy ?_ ?_
  · intro args s m h hn
    obtain ⟨meth, c, h1, h2, h3, h4, h5, h6, -, -⟩ := Cond.code_spec hn (atoms_spec (ws := ws) h _ (by rw [hw]; exact List.mem_cons_self))
    exact ⟨meth, c, h1, h2, h3, h4, h5, h6⟩
  · intro p e s m args below meth c s₁ B hml hP _
    have hh0 : s₁.heap = s.heap := by rw [B.state]; rfl
    have ht : ∀ x ∈ c.exceptionTable.toList, False := by
      obtain ⟨meth9, c9, h1, h2, -, -, -, -, h7, -⟩ := Cond.code_spec B.named (atoms_spec (ws := ws) B.pre _ (by rw [hw]; exact List.mem_cons_self))
      cases Option.some.inj (h1.symm.trans B.method)
      cases Option.some.inj (h2.symm.trans (Stand.of_body B).code)
      intro x hx
      rw [Array.isEmpty_iff.mp h7] at hx
      cases hx
    obtain ⟨t, a1, o, b1, b2, b3⟩ := body p e s m args below meth c s₁ B hml ht hP s₁ hh0 (Stand.of_body B)
    exact ⟨t, o, a1, b1, b2, b3⟩
/-- the table of a body with handlers -/
theorem vx_table {p : Program} {x y : MethodName} {S : Spec} {cc bytes : ByteArray} {maxL maxL' : Nat} {ret ret' : Option FieldType} {e : Env} {s s₁ : State} {m : MethodId} {args : Array Value} {below : List Frame} {meth : Method} {c : Code} {hh : List (Nat × Nat × Nat × Nat)}
    (B : BodyLoose p l y S cc maxL ret e s m args below meth c s₁) (h : (Cond.codeWith y bytes maxL' ret' hh).before args s = true) : c.exceptionTable.toList = tableOf hh := by
  obtain ⟨m9, meth9, c9, hn9, h1, h2, -, -, h6, -⟩ := Cond.codeWith_spec h
  cases Option.some.inj (hn9.symm.trans B.named)
  cases Option.some.inj (h1.symm.trans B.method)
  cases Option.some.inj (h2.symm.trans (Stand.of_body B).code)
  rw [← h6, table_eq]
end Bodies
end VXA
/-! ===== END ===== -/
/-! ===== BEGIN a static call of a method with an exception table ===== -/
section VXS
variable {p : Program} {l : Launch} {e : Env} {R : Room} {s : State} {m : MethodId} {args : Array Value} {below : List Frame} {meth : Method} {c : Code} {T : State} {H : Heap} {locs : List Loc} {cells slots : Nat}
abbrev vx_CSW (R : Room) (s : State) (args : Array Value) (own : String) (index : Nat) (y : MethodName) (bytes : ByteArray) (maxL : Nat) (ret : Option FieldType) (hh : List (Nat × Nat × Nat × Nat)) (ws : List Cond) (rm : Room) (mc ms n : Nat) : Prop :=
  (rm.cells = mc ∧ rm.slots = ms ∧ rm.frames + 1 ≤ R.frames ∧ 8 + (maxL + 11) + rm.locals ≤ R.locals ∧ (∀ w ∈ ws, ∀ (a' : Array Value) (U : State), s.WarmedH U.vm → w.before a' U = true) ∧ Cond.codeWith y bytes maxL ret hh ∈ ws) ∧
  (Cond.codeWith y bytes maxL ret hh).before args s = true ∧ (Cond.initialized y.cls).before args s = true ∧ (y.cls ≠ "java/lang/invoke/MethodHandle" ∧ y.cls ≠ "java/lang/invoke/VarHandle") ∧
  (∀ sig, parseMethodDescriptor y.desc = some sig → n = sig.parameters.length) ∧ (Cond.methodLink own index y).before args s = true ∧ (Cond.static y).before args s = true
theorem vx_cwSW {own : String} {index maxL mc ms : Nat} {y : MethodName} {bytes : ByteArray} {ret : Option FieldType} {hh : List (Nat × Nat × Nat × Nat)} {Ts ws ws' : List Cond} {rm : Room} (n : Nat) (ht : ∀ w ∈ Ts, w.before args s = true) (hT : GoodIn Ts (va_wsS own index y ws)) (hw : ws = Cond.codeWith y bytes maxL ret hh :: ws') (hrc : rm.cells = mc) (hrs : rm.slots = ms)
    (hd : y.cls ≠ "java/lang/invoke/MethodHandle" ∧ y.cls ≠ "java/lang/invoke/VarHandle" ∧ (parseMethodDescriptor y.desc).map (fun d => d.parameters.length) = some n) (hR : rm.frames + 1 ≤ R.frames ∧ 8 + (maxL + 11) + rm.locals ≤ R.locals) :
    vx_CSW R s args own index y bytes maxL ret hh ws rm mc ms n := by
  have ok : ∀ w ∈ va_wsS own index y ws, w.before args s = true := fun w h => ht w (hT w h).1
  have hG : GoodIn Ts ws := fun w h => hT w (by unfold va_wsS; exact List.mem_append_right _ h)
  have hc : Cond.codeWith y bytes maxL ret hh ∈ ws := by rw [hw]; exact List.mem_cons_self
  refine ⟨⟨hrc, hrs, hR.1, hR.2, pay_in ht hG, hc⟩, ht _ (hG _ hc).1, ok _ (by simp [va_wsS]), ⟨hd.1, hd.2.1⟩, fun sig h => ?_, ok _ (by simp [va_wsS]), ok _ (by simp [va_wsS])⟩
  have h2 := hd.2.2
  rw [h] at h2
  exact (Option.some.inj h2).symm
theorem vx_callSW (X : Stand p l e R s m args below meth c T locs cells slots) (hexec : p.tables.exec = Jvm.exec) {own : String} {index : Nat} {y : MethodName} {bytes : ByteArray} {maxL : Nat} {ret : Option FieldType} {hh : List (Nat × Nat × Nat × Nat)}
    (hown : s.vm.findClass own = some m.cls) (hlink : (Cond.methodLink own index y).before args s = true) (hstat : (Cond.static y).before args s = true) (hinit : (Cond.initialized y.cls).before args s = true)
    (hcode : (Cond.codeWith y bytes maxL ret hh).before args s = true) (hy : y.cls ≠ "java/lang/invoke/MethodHandle" ∧ y.cls ≠ "java/lang/invoke/VarHandle")
    {W9 : Nat} {Pre : Pt → Array Value → Prop} {Post : Pt → Array Value → Option Value → Pt → Prop} (hK : Back l R p e below s args y 3 W9 Pre Post)
    {g : JFrame} (hg : g.method = m) (hsize : g.locals.size = c.maxLocals) {argsL rest : List Value} (hlen : ∀ sig, parseMethodDescriptor y.desc = some sig → argsL.length = sig.parameters.length)
    (hstack : g.stack = argsL.reverse ++ rest) (hW : 2 * g.monitorRoom + (rest.map fun v => v.category).sum ≤ W9) (hdg : decode c.code g.pc = .ok (.invokestatic index, 3))
    (hpre : ∀ vm₁, s.WarmedH vm₁ → Pre ⟨T.setVm vm₁, locs, cells, slots⟩ argsL.toArray) :
    ∃ (v : Option Value) (vm₁ : Vm) (B : Pt), s.WarmedH vm₁ ∧ Stand p l e R s m args below meth c B.U B.locs B.cells B.slots ∧ Post ⟨T.setVm vm₁, locs, cells, slots⟩ argsL.toArray v B ∧
      ∀ target, Steps p.tables e below (B.U.setTop { g with pc := g.pc + 3, stack := v.toList ++ rest }) target → Steps p.tables e below (T.setTop g) target := by
  obtain ⟨mk, methM, cM, hnamed, hmethM, -, -, -, -, -, -, hsigM⟩ := Cond.codeWith_spec hcode
  have hstatic : methM.isStatic = true := Cond.static_spec hnamed hmethM hstat
  obtain ⟨kP, hkP, -⟩ := className_of_methodNamed hnamed
  have hinitP : kP.init = .initialized := Cond.initialized_spec (findClass_of_methodNamed hnamed) hkP hinit
  obtain ⟨vm₁, X₁, hstep₁⟩ := X.invokestatic hexec hown hlink hnamed hmethM hstatic hkP hinitP hy (g := g) hg (argsL := argsL) (rest := rest) (hlen _ hsigM) hstack hdg
  obtain ⟨v, B, X', hpost, hsteps⟩ := hK m meth c ⟨T.setVm vm₁, locs, cells, slots⟩ { g with stack := rest } (.invokestatic index) mk argsL.toArray X₁ hg hsize hdg hW (X₁.named hnamed) (hpre vm₁ X₁.warmed)
  exact ⟨v, vm₁, B, X₁.warmed, X', hpost, fun target h => hstep₁ _ fun acts => by rw [doInvoke_state]; exact hsteps.trans h⟩
theorem vx_runSW {y : MethodName} {bytes cc : ByteArray} {maxL nL mc ms n index : Nat} {ret : Option FieldType} {hh : List (Nat × Nat × Nat × Nat)} {ws : List Cond} {rm : Room} {Pc : Array Value → State → Prop} {Qc : Array Value → State → Outcome → State → Prop} {free : Addr → Prop} {Ts : List Cond} {own : String} {As rest : List Value} {g : JFrame}
    (S : CallFix p m c cc nL s args Ts own) (hM : Met l y ws rm Pc Qc mc ms free) (cw : vx_CSW R s args own index y bytes maxL ret hh ws rm mc ms n) (hp : PreS s H Pc As)
    (hg : g.method = m) (hn : As.length = n) (hsize : g.locals.size = nL) (hstack : g.stack = As.reverse ++ rest) (hW : 2 * g.monitorRoom + (rest.map fun v => v.category).sum ≤ 8) (hdg : decode cc g.pc = .ok (.invokestatic index, 3)) (hf : cells + mc ≤ R.cells ∧ slots + ms ≤ R.slots) :
    va_Run p l e R s m args below meth c H locs cells slots mc ms g rest (Qc As.toArray) (free) := by
  obtain ⟨⟨hrc, hrs, hfr, hlo, hws, hcw⟩, hcode, hini, hy, hlen, hl, hstt⟩ := cw
  have hK : Back l R p e below s args y 3 8 (PreOf R mc ms Pc) (PostOf Qc mc ms free) := va_backW (hh := hh) (bytes := bytes) (maxL := maxL) (ret := ret) hM hp.1 hrc hrs hfr hlo hws hcw (fun a' U hW => word_at hW (Or.inl (by first | rfl | simp [Cond.onTables, Cond.keeps, Cond.steady])) hini)
  obtain ⟨hx, hb, hml, ho, -⟩ := S
  intro T hT X
  obtain ⟨v, vm₁, ⟨U', l2, c2, s2⟩, hW₁, X', ⟨g', mk, t, L, e1, e2, hq, h1, hL, h2, h3⟩, st⟩ := vx_callSW X hx (hh := hh) (bytes := bytes) (maxL := maxL) (ret := ret) ho hl hstt hini hcode hy hK hg (hsize.trans hml.symm) (argsL := As) (rest := rest) (fun sig h => hn.trans (hlen sig h)) hstack hW (by rw [hb]; exact hdg)
    (fun vm₁ hW₁ => ⟨hf.1, hf.2, hp.2 (T.setVm vm₁) hT hW₁⟩)
  dsimp only [Pt.U, Pt.locs, Pt.cells, Pt.slots] at X' e1 e2 h1 h2 h3 st
  subst h1; subst h2; subst h3
  exact ⟨v, (T.setVm vm₁).calling g' mk As.toArray, t, U', L, hT, X', hL, e1, e2, hq, st⟩
/-- not caught here, past rows that name other classes: it goes on to the caller -/
theorem vx_outP {p : Program} {l : Launch} {e : Env} {R : Room} {s : State} {m : MethodId} {args : Array Value} {below : List Frame} {meth : Method} {c : Code} {H : Heap} {locs : List Loc} {cells slots : Nat} {free : Addr → Prop} {ls : Array Slot} {rest : List Value} {Qc : Array Value → State → Outcome → State → Prop} {XC : String → State → State → Prop}
    {pc : Nat} {own E : String} {ce : Cell} {q : Addr} {mc ms : Nat} (hown : s.vm.findClass own = some m.cls) (hlocks : meth.locks = false)
    (hpass : ∀ z ∈ c.exceptionTable.toList, covers z pc = false ∨ (z.catchType ≠ 0 ∧ ∃ nm : String, (Cond.classLink own z.catchType nm).before args s = true ∧ va_Nc E nm s)) (hcell : H[q]? = some ce) (hv : ce.vm = .none) (hcl : s.vm.findClass E = some ce.cls)
    (hx : ∀ t : State, t.heap = H → s.vm.Alike t.vm → XC E s t) (hf : ∀ z ∈ locs, free z.base) (hc : cells ≤ mc) (hs : slots ≤ ms) :
    vx_W p l e R s m args below meth c H locs cells slots (vx_MQ below Qc XC args s mc ms free) (F0 m pc ls rest) q := by
  intro T hT X
  have hpl : e.platform.magicAccessors = ({} : Platform).magicAccessors := by rw [X.admits.platform]
  obtain ⟨vm', hW', X', st⟩ := X.outThrough hlocks q (g := F0 m pc ls rest) rfl rfl rfl (cell := ce) (by rw [hT]; exact hcell) (by rw [hv]; rfl)
    (by obtain ⟨k9, h9, -⟩ := Vm.findClass_spec hcl; exact ⟨k9, h9⟩) (fun z hz => by
      rcases hpass z hz with h | ⟨hz0, nm, hl1, hn1⟩
      · exact Or.inl h
      · obtain ⟨c6, hc6, hcl6⟩ := Cond.classLink_spec hown hl1 e.platform hpl
        obtain ⟨a8, b8, h1, h2, h3⟩ := hn1
        cases Option.some.inj (h1.symm.trans hcl)
        cases Option.some.inj (h2.symm.trans hc6)
        exact Or.inr ⟨hz0, _, hcl6, h3⟩)
  obtain ⟨g₀, hfr⟩ := X'.frames_eq
  have hcell9 : ((T.setVm vm').setFrames (.throwing q :: below)).heap[q]? = some ce := by
    show T.heap[q]? = some ce
    rw [hT]; exact hcell
  have hend : Ended ((T.setVm vm').setFrames (.throwing q :: below)) below (.threw q) := State.frames_setFrames _ (State.cur_lt_of_frames hfr)
  refine ⟨(T.setVm vm').setFrames (.throwing q :: below), ?_, .threw q, X'.here.running, hend, Or.inr ⟨q, rfl, E, ce, locs, hx _ hT (X'.ends _).1.alike, hcell9, hv, hcl, (X'.ends _).1, (X'.ends _).2.mono hc hs, hf⟩⟩
  rw [X.pushThrowing_eq]
  exact st
/-- a thing of a world lies in the heap -/
theorem vx_lt {D : va_G} {cl : List vw_C} {ws : va_W} {H1 : Heap} (h : va_P D cl ws H1) {k : Nat} {q : Nat × va_E} (hk : ws[k]? = some q) : q.1 < H1.size := (h k q hk).lt
end VXS
/-! ===== END ===== -/
/-! ===== BEGIN methods with a table of their own: called by a name, returning or throwing ===== -/
section VXH
/-! vx_backW, vx_callVX, vx_callSX, vx_callVW, vx_runVW, vx_runVX, vx_runSX, vx_ofWH follow the same proofs as their sisters above (Free/Laws.lean, Shelf42/LK1.lean); vx_outP calls Shelf42/NT130.lean (outThrough). -/
section
variable {l : Launch} {R : Room} {p : Program} {e : Env} {below : List Frame} {s : State} {sargs : Array Value} {y : MethodName} {len W9 : Nat}
theorem vx_backW {ws : List Cond} {rm : Room} {Pc : Array Value → State → Prop} {Qc : Array Value → State → Outcome → State → Prop} {XC : String → State → State → Prop} {mc ms : Nat} {free : Addr → Prop} {bytes : ByteArray} {maxL : Nat} {ret : Option FieldType} {hh : List (Nat × Nat × Nat × Nat)}
    (hM : vx_Met l y ws rm Pc Qc XC mc ms free) (hblind : FrameBlind Pc) (hrc : rm.cells = mc) (hrs : rm.slots = ms)
    (hframes : rm.frames + 1 ≤ R.frames) (hlocals : W9 + (maxL + 11) + rm.locals ≤ R.locals)
    (hws : ∀ w ∈ ws, ∀ a' U, s.WarmedH U.vm → w.before a' U = true) (hcode : Cond.codeWith y bytes maxL ret hh ∈ ws) (hinit : ∀ a' U, s.WarmedH U.vm → (Cond.initialized y.cls).before a' U = true) :
    vx_Back l R p e below s sargs y len W9 (PreOf R mc ms Pc) (PostOf Qc mc ms free) (vx_Post XC mc ms free) := by
  intro m meth c A g ig mk a X hg hsize hdg hW hn hp
  have h1 : (headSpec ws rm).pre.before a A.U = true := atoms_intro fun w hw => hws w hw _ _ X.warmed
  have h2 : (Cond.codeWith y bytes maxL ret hh).before a A.U = true := hws _ hcode _ _ X.warmed
  have h3 : (Cond.initialized y.cls).before a A.U = true := hinit _ _ X.warmed
  have h4 : A.cells + (headSpec ws rm).room.cells ≤ R.cells := by rw [show (headSpec ws rm).room.cells = mc from hrc]; exact hp.1
  have h5 : A.slots + (headSpec ws rm).room.slots ≤ R.slots := by rw [show (headSpec ws rm).room.slots = ms from hrs]; exact hp.2.1
  have hPc : Pc a (A.U.calling g mk a) := hblind _ _ _ _ hp.2.2
  obtain ⟨U, Ls, c0, s0⟩ := A
  dsimp only [Pt.U, Pt.locs, Pt.cells, Pt.slots] at h1 h2 h3 h4 h5 X hn hPc ⊢
  obtain ⟨m9, methY, cY, hn9, hmY, hcY, -, hlY, -⟩ := Cond.codeWith_spec h2
  cases Option.some.inj (hn9.symm.trans hn)
  obtain ⟨kY, hkY, -⟩ := className_of_methodNamed hn
  have hinitY : kY.init = .initialized := Cond.initialized_spec (findClass_of_methodNamed hn) hkY h3
  have h : At U g.method c below := by rw [hg]; exact X.here
  have hlocals9 : W9 + (maxL + 11) + (headSpec ws rm).room.locals ≤ R.locals := hlocals
  have happ : (headSpec ws rm).appliesLoose y e.platform (U.calling g mk a) = true :=
    Spec.appliesLoose_calling (g := g) h hdg hn hkY hinitY
      (X.room_calling (g := g) (R' := (headSpec ws rm).room) hsize hmY hcY hframes (by rw [hlY]; omega) h4 h5) h1
  obtain ⟨mid, hmid⟩ := h.above
  have hfr : (U.setTop g).frames = (.java g :: mid) ++ below := by rw [State.frames_setTop' g h.top, hmid]; rfl
  obtain ⟨o, s₂, hsteps, -, hend, hq⟩ := Steps.callFree hM p X.admits X.cas X.clock (acts := []) hfr happ hPc trivial
  have hq' : vx_Q Qc XC mc ms free a (U.calling g mk a) o s₂ := hq
  rw [State.frames_setTop' g h.top] at hend
  obtain ⟨g₀, hg0⟩ := Option.isSome_iff_exists.mp h.top
  obtain ⟨r, hr⟩ := State.topJava?_eq_some.mp hg0
  have hr' : (({ U with heap := s₂.heap, slotsUsed := s₂.slotsUsed } : State).setVm s₂.vm).frames = .java g₀ :: r := hr
  rcases hq' with ⟨hqc, L, hfe, hL⟩ | ⟨q, rfl, E, ce, L, hx, hce, hcv, hcl, hW₂, hsm, hL⟩
  · obtain ⟨⟨v, rfl⟩, hW₂, e2, q2, q3, q4, q5, q6⟩ := id hfe
    have e3 : s₂ = ({ (U.calling g mk a).setFrames s₂.frames with heap := s₂.heap, slotsUsed := s₂.slotsUsed } : State).setVm s₂.vm := by
      have : s₂ = ({ s₂ with vm := (U.calling g mk a).vm } : State).setVm s₂.vm := rfl
      rw [e2] at this
      exact this
    obtain ⟨c₂, i₂, len₂, hc₂, hd₂, hf₂⟩ := hend
    have hW' : U.WarmedH s₂.vm := hW₂
    have hcc : c₂ = c := by
      have h1 : s₂.code? g.method = U.code? g.method := by
        rw [State.code?_eq, State.code?_eq, hW'.alike.method?]
      exact Option.some.inj (hc₂.symm.trans (h1.trans h.code))
    subst hcc
    have hlen : len₂ = len := by rw [hdg] at hd₂; cases hd₂; rfl
    subst hlen
    have hs₂ : s₂ = (({ U with heap := s₂.heap, slotsUsed := s₂.slotsUsed } : State).setVm s₂.vm).setTop { g with pc := g.pc + len₂, stack := v.toList ++ g.stack } := by
      refine e3.trans ?_
      rw [hf₂, State.calling_eq h.top, State.setFrames_setFrames, State.setTop_of_frames _ hr', hr]
      rfl
    have hsame : U.sameButNew ({ U with heap := s₂.heap, slotsUsed := s₂.slotsUsed } : State) L mc ms := by
      refine ⟨?_, q2, q3, q4, q5, q6⟩
      obtain ⟨t, ht, -⟩ := State.frames_cons hr
      show ({ U with heap := s₂.heap, slotsUsed := s₂.slotsUsed } : State) = { U.setFrames U.frames with heap := s₂.heap, slotsUsed := s₂.slotsUsed }
      rw [State.setFrames_self ht]
    subst hg
    refine Or.inl ⟨v, ⟨(({ U with heap := s₂.heap, slotsUsed := s₂.slotsUsed } : State).setVm s₂.vm), Ls ++ L, c0 + mc, s0 + ms⟩,
      ⟨X.admits, X.cas, X.clock, X.frames, X.room, X.hears, X.method, X.code, (X.here.setHeapUsed s₂.heap s₂.slotsUsed).setVm hW'.alike, X.tail, State.WarmedH.trans X.warmed hW', X.limits, X.bytes, X.same.trans (hsame.setVm s.vm)⟩,
      ⟨g, mk, s₂, L, rfl, rfl, hqc, rfl, hL, rfl, rfl⟩, ?_⟩
    show Steps p.tables e below _ ((({ U with heap := s₂.heap, slotsUsed := s₂.slotsUsed } : State).setVm s₂.vm).setTop { g with pc := g.pc + len₂, stack := v.toList ++ g.stack })
    rw [← hs₂]
    exact hsteps
  · obtain ⟨e2, q2, q3, q4, q5, q6⟩ := id hsm
    have e3 : s₂ = ({ (U.calling g mk a).setFrames s₂.frames with heap := s₂.heap, slotsUsed := s₂.slotsUsed } : State).setVm s₂.vm := by
      have : s₂ = ({ s₂ with vm := (U.calling g mk a).vm } : State).setVm s₂.vm := rfl
      rw [e2] at this
      exact this
    have hf₂ : s₂.frames = .throwing q :: .java g :: U.frames.tail := hend
    have hW' : U.WarmedH s₂.vm := hW₂
    have hs₂ : s₂ = ((({ U with heap := s₂.heap, slotsUsed := s₂.slotsUsed } : State).setVm s₂.vm).setTop g).pushFrame (.throwing q) := by
      refine e3.trans ?_
      rw [hf₂, State.calling_eq h.top, State.setFrames_setFrames, State.pushFrame, State.frames_setTop _ hr', State.setTop_of_frames _ hr', State.setFrames_setFrames, hr]
      rfl
    have hsame : U.sameButNew ({ U with heap := s₂.heap, slotsUsed := s₂.slotsUsed } : State) L mc ms := by
      refine ⟨?_, q2, q3, q4, q5, q6⟩
      obtain ⟨t, ht, -⟩ := State.frames_cons hr
      show ({ U with heap := s₂.heap, slotsUsed := s₂.slotsUsed } : State) = { U.setFrames U.frames with heap := s₂.heap, slotsUsed := s₂.slotsUsed }
      rw [State.setFrames_self ht]
    subst hg
    refine Or.inr ⟨q, ⟨(({ U with heap := s₂.heap, slotsUsed := s₂.slotsUsed } : State).setVm s₂.vm), Ls ++ L, c0 + mc, s0 + ms⟩,
      ⟨X.admits, X.cas, X.clock, X.frames, X.room, X.hears, X.method, X.code, (X.here.setHeapUsed s₂.heap s₂.slotsUsed).setVm hW'.alike, X.tail, State.WarmedH.trans X.warmed hW', X.limits, X.bytes, X.same.trans (hsame.setVm s.vm)⟩,
      ⟨g, mk, s₂, L, E, ce, rfl, rfl, hx, hce, hcv, hcl, rfl, hL, rfl, rfl⟩, ?_⟩
    show Steps p.tables e below _ (((({ U with heap := s₂.heap, slotsUsed := s₂.slotsUsed } : State).setVm s₂.vm).setTop g).pushFrame (.throwing q))
    rw [← hs₂]
    exact hsteps
end
variable {p : Program} {l : Launch} {e : Env} {R : Room} {s : State} {m : MethodId} {args : Array Value} {below : List Frame} {meth : Method} {c : Code} {T : State} {H : Heap} {locs : List Loc} {cells slots : Nat}
theorem vx_callVX (X : Stand p l e R s m args below meth c T locs cells slots) (hexec : p.tables.exec = Jvm.exec) {own C : String} {index : Nat} {y : MethodName} {bytes : ByteArray} {maxL : Nat} {ret : Option FieldType} {hh : List (Nat × Nat × Nat × Nat)}
    (hown : s.vm.findClass own = some m.cls) (hlink : (Cond.methodLink own index y).before args s = true) (hinst : (Cond.instanceMethod y).before args s = true) (hsel : (Cond.selects C y y).before args s = true)
    (hcode : (Cond.codeWith y bytes maxL ret hh).before args s = true) (hy : y.cls ≠ "java/lang/invoke/MethodHandle" ∧ y.cls ≠ "java/lang/invoke/VarHandle")
    {W9 : Nat} {Pre : Pt → Array Value → Prop} {Post : Pt → Array Value → Option Value → Pt → Prop} {PostX : Pt → Array Value → Addr → Pt → Prop} (hK : vx_Back l R p e below s args y 3 W9 Pre Post PostX)
    {b : Addr} {cellB : Cell} (hcell : T.heap[b]? = some cellB) (hobj : cellB.vm.isStatics = false) (hcls : s.vm.findClass C = some cellB.cls)
    {g : JFrame} (hg : g.method = m) (hsize : g.locals.size = c.maxLocals) {argsL rest : List Value} (hlen : ∀ sig, parseMethodDescriptor y.desc = some sig → argsL.length = sig.parameters.length)
    (hstack : g.stack = argsL.reverse ++ .ref b :: rest) (hW : 2 * g.monitorRoom + (rest.map fun v => v.category).sum ≤ W9) (hdg : decode c.code g.pc = .ok (.invokevirtual index, 3))
    (hpre : ∀ vm₁, s.WarmedH vm₁ → Pre ⟨T.setVm vm₁, locs, cells, slots⟩ (Value.ref b :: argsL).toArray) :
    (∃ (v : Option Value) (vm₁ : Vm) (B : Pt), s.WarmedH vm₁ ∧ Stand p l e R s m args below meth c B.U B.locs B.cells B.slots ∧ Post ⟨T.setVm vm₁, locs, cells, slots⟩ (Value.ref b :: argsL).toArray v B ∧
      ∀ target, Steps p.tables e below (B.U.setTop { g with pc := g.pc + 3, stack := v.toList ++ rest }) target → Steps p.tables e below (T.setTop g) target) ∨
    (∃ (q : Addr) (vm₁ : Vm) (B : Pt), s.WarmedH vm₁ ∧ Stand p l e R s m args below meth c B.U B.locs B.cells B.slots ∧ PostX ⟨T.setVm vm₁, locs, cells, slots⟩ (Value.ref b :: argsL).toArray q B ∧
      Steps p.tables e below (T.setTop g) ((B.U.setTop { g with stack := rest }).pushFrame (.throwing q))) := by
  obtain ⟨mk, methM, hnamed, hmethM, hstM, habM⟩ := Cond.instanceMethod_spec hinst
  obtain ⟨m8, methM', cM, hn8, hmethM', -, -, -, -, -, -, hsigM⟩ := Cond.codeWith_spec hcode
  cases Option.some.inj (hn8.symm.trans hnamed)
  cases hmethM.symm.trans hmethM'
  obtain ⟨c2, r2, m2, q1, q2, q3, q4, kP, hkP, hkPi⟩ := Cond.selects_spec hsel
  cases hcls.symm.trans q1
  cases (State.methodFound?_of_named hnamed hy).symm.trans q2
  cases hnamed.symm.trans q3
  have hselP : selectMethod e.platform s.vm cellB.cls mk = .method mk := by rw [Launch.admits_selectMethod X.admits]; exact q4
  obtain ⟨vm₁, X₁, hstep₁⟩ := X.invokevirtual hexec hown hlink hnamed hmethM hstM hkP hkPi hy (a := b) (cell := cellB) hcell
    (fun z h => by rw [h] at hobj; cases hobj) hselP hmethM habM hkP hkPi (g := g) hg (argsL := argsL) (rest := rest) (hlen _ hsigM) hstack hdg
  rcases hK m meth c ⟨T.setVm vm₁, locs, cells, slots⟩ { g with stack := rest } (.invokevirtual index) mk (Value.ref b :: argsL).toArray X₁ hg hsize hdg hW (X₁.named hnamed) (hpre vm₁ X₁.warmed) with ⟨v, B, X', hpost, hsteps⟩ | ⟨q, B, X', hpost, hsteps⟩
  · exact Or.inl ⟨v, vm₁, B, X₁.warmed, X', hpost, fun target h => hstep₁ _ fun acts => by rw [doInvoke_state]; exact hsteps.trans h⟩
  · exact Or.inr ⟨q, vm₁, B, X₁.warmed, X', hpost, hstep₁ _ fun acts => by rw [doInvoke_state]; exact hsteps⟩
theorem vx_callSX (X : Stand p l e R s m args below meth c T locs cells slots) (hexec : p.tables.exec = Jvm.exec) {own : String} {index : Nat} {y : MethodName} {bytes : ByteArray} {maxL : Nat} {ret : Option FieldType} {hh : List (Nat × Nat × Nat × Nat)}
    (hown : s.vm.findClass own = some m.cls) (hlink : (Cond.methodLink own index y).before args s = true) (hstat : (Cond.static y).before args s = true) (hinit : (Cond.initialized y.cls).before args s = true)
    (hcode : (Cond.codeWith y bytes maxL ret hh).before args s = true) (hy : y.cls ≠ "java/lang/invoke/MethodHandle" ∧ y.cls ≠ "java/lang/invoke/VarHandle")
    {W9 : Nat} {Pre : Pt → Array Value → Prop} {Post : Pt → Array Value → Option Value → Pt → Prop} {PostX : Pt → Array Value → Addr → Pt → Prop} (hK : vx_Back l R p e below s args y 3 W9 Pre Post PostX)
    {g : JFrame} (hg : g.method = m) (hsize : g.locals.size = c.maxLocals) {argsL rest : List Value} (hlen : ∀ sig, parseMethodDescriptor y.desc = some sig → argsL.length = sig.parameters.length)
    (hstack : g.stack = argsL.reverse ++ rest) (hW : 2 * g.monitorRoom + (rest.map fun v => v.category).sum ≤ W9) (hdg : decode c.code g.pc = .ok (.invokestatic index, 3))
    (hpre : ∀ vm₁, s.WarmedH vm₁ → Pre ⟨T.setVm vm₁, locs, cells, slots⟩ argsL.toArray) :
    (∃ (v : Option Value) (vm₁ : Vm) (B : Pt), s.WarmedH vm₁ ∧ Stand p l e R s m args below meth c B.U B.locs B.cells B.slots ∧ Post ⟨T.setVm vm₁, locs, cells, slots⟩ argsL.toArray v B ∧
      ∀ target, Steps p.tables e below (B.U.setTop { g with pc := g.pc + 3, stack := v.toList ++ rest }) target → Steps p.tables e below (T.setTop g) target) ∨
    (∃ (q : Addr) (vm₁ : Vm) (B : Pt), s.WarmedH vm₁ ∧ Stand p l e R s m args below meth c B.U B.locs B.cells B.slots ∧ PostX ⟨T.setVm vm₁, locs, cells, slots⟩ argsL.toArray q B ∧
      Steps p.tables e below (T.setTop g) ((B.U.setTop { g with stack := rest }).pushFrame (.throwing q))) := by
  obtain ⟨mk, methM, cM, hnamed, hmethM, -, -, -, -, -, -, hsigM⟩ := Cond.codeWith_spec hcode
  have hstatic : methM.isStatic = true := Cond.static_spec hnamed hmethM hstat
  obtain ⟨kP, hkP, -⟩ := className_of_methodNamed hnamed
  have hinitP : kP.init = .initialized := Cond.initialized_spec (findClass_of_methodNamed hnamed) hkP hinit
  obtain ⟨vm₁, X₁, hstep₁⟩ := X.invokestatic hexec hown hlink hnamed hmethM hstatic hkP hinitP hy (g := g) hg (argsL := argsL) (rest := rest) (hlen _ hsigM) hstack hdg
  rcases hK m meth c ⟨T.setVm vm₁, locs, cells, slots⟩ { g with stack := rest } (.invokestatic index) mk argsL.toArray X₁ hg hsize hdg hW (X₁.named hnamed) (hpre vm₁ X₁.warmed) with ⟨v, B, X', hpost, hsteps⟩ | ⟨q, B, X', hpost, hsteps⟩
  · exact Or.inl ⟨v, vm₁, B, X₁.warmed, X', hpost, fun target h => hstep₁ _ fun acts => by rw [doInvoke_state]; exact hsteps.trans h⟩
  · exact Or.inr ⟨q, vm₁, B, X₁.warmed, X', hpost, hstep₁ _ fun acts => by rw [doInvoke_state]; exact hsteps⟩
theorem vx_callVW (X : Stand p l e R s m args below meth c T locs cells slots) (hexec : p.tables.exec = Jvm.exec) {own C : String} {index : Nat} {y : MethodName} {bytes : ByteArray} {maxL : Nat} {ret : Option FieldType} {hh : List (Nat × Nat × Nat × Nat)}
    (hown : s.vm.findClass own = some m.cls) (hlink : (Cond.methodLink own index y).before args s = true) (hinst : (Cond.instanceMethod y).before args s = true) (hsel : (Cond.selects C y y).before args s = true)
    (hcode : (Cond.codeWith y bytes maxL ret hh).before args s = true) (hy : y.cls ≠ "java/lang/invoke/MethodHandle" ∧ y.cls ≠ "java/lang/invoke/VarHandle")
    {W9 : Nat} {Pre : Pt → Array Value → Prop} {Post : Pt → Array Value → Option Value → Pt → Prop} (hK : Back l R p e below s args y 3 W9 Pre Post)
    {b : Addr} {cellB : Cell} (hcell : T.heap[b]? = some cellB) (hobj : cellB.vm.isStatics = false) (hcls : s.vm.findClass C = some cellB.cls)
    {g : JFrame} (hg : g.method = m) (hsize : g.locals.size = c.maxLocals) {argsL rest : List Value} (hlen : ∀ sig, parseMethodDescriptor y.desc = some sig → argsL.length = sig.parameters.length)
    (hstack : g.stack = argsL.reverse ++ .ref b :: rest) (hW : 2 * g.monitorRoom + (rest.map fun v => v.category).sum ≤ W9) (hdg : decode c.code g.pc = .ok (.invokevirtual index, 3))
    (hpre : ∀ vm₁, s.WarmedH vm₁ → Pre ⟨T.setVm vm₁, locs, cells, slots⟩ (Value.ref b :: argsL).toArray) :
    ∃ (v : Option Value) (vm₁ : Vm) (B : Pt), s.WarmedH vm₁ ∧ Stand p l e R s m args below meth c B.U B.locs B.cells B.slots ∧ Post ⟨T.setVm vm₁, locs, cells, slots⟩ (Value.ref b :: argsL).toArray v B ∧
      ∀ target, Steps p.tables e below (B.U.setTop { g with pc := g.pc + 3, stack := v.toList ++ rest }) target → Steps p.tables e below (T.setTop g) target := by
  obtain ⟨mk, methM, hnamed, hmethM, hstM, habM⟩ := Cond.instanceMethod_spec hinst
  obtain ⟨m8, methM', cM, hn8, hmethM', -, -, -, -, -, -, hsigM⟩ := Cond.codeWith_spec hcode
  cases Option.some.inj (hn8.symm.trans hnamed)
  cases hmethM.symm.trans hmethM'
  obtain ⟨c2, r2, m2, q1, q2, q3, q4, kP, hkP, hkPi⟩ := Cond.selects_spec hsel
  cases hcls.symm.trans q1
  cases (State.methodFound?_of_named hnamed hy).symm.trans q2
  cases hnamed.symm.trans q3
  have hselP : selectMethod e.platform s.vm cellB.cls mk = .method mk := by rw [Launch.admits_selectMethod X.admits]; exact q4
  obtain ⟨vm₁, X₁, hstep₁⟩ := X.invokevirtual hexec hown hlink hnamed hmethM hstM hkP hkPi hy (a := b) (cell := cellB) hcell
    (fun z h => by rw [h] at hobj; cases hobj) hselP hmethM habM hkP hkPi (g := g) hg (argsL := argsL) (rest := rest) (hlen _ hsigM) hstack hdg
  obtain ⟨v, B, X', hpost, hsteps⟩ := hK m meth c ⟨T.setVm vm₁, locs, cells, slots⟩ { g with stack := rest } (.invokevirtual index) mk (Value.ref b :: argsL).toArray X₁ hg hsize hdg hW (X₁.named hnamed) (hpre vm₁ X₁.warmed)
  exact ⟨v, vm₁, B, X₁.warmed, X', hpost, fun target h => hstep₁ _ fun acts => by rw [doInvoke_state]; exact hsteps.trans h⟩
abbrev vx_CVW (R : Room) (s : State) (args : Array Value) (own C : String) (index : Nat) (y : MethodName) (bytes : ByteArray) (maxL : Nat) (ret : Option FieldType) (hh : List (Nat × Nat × Nat × Nat)) (ws : List Cond) (rm : Room) (mc ms n : Nat) : Prop :=
  (rm.cells = mc ∧ rm.slots = ms ∧ rm.frames + 1 ≤ R.frames ∧ 8 + (maxL + 11) + rm.locals ≤ R.locals ∧ (∀ w ∈ ws, ∀ (a' : Array Value) (U : State), s.WarmedH U.vm → w.before a' U = true) ∧ Cond.codeWith y bytes maxL ret hh ∈ ws) ∧
  (Cond.codeWith y bytes maxL ret hh).before args s = true ∧ (Cond.initialized y.cls).before args s = true ∧ (y.cls ≠ "java/lang/invoke/MethodHandle" ∧ y.cls ≠ "java/lang/invoke/VarHandle") ∧
  (∀ sig, parseMethodDescriptor y.desc = some sig → n = sig.parameters.length) ∧ (Cond.methodLink own index y).before args s = true ∧ (Cond.instanceMethod y).before args s = true ∧ (Cond.selects C y y).before args s = true
theorem vx_cwVW {own C : String} {index maxL mc ms : Nat} {y : MethodName} {bytes : ByteArray} {ret : Option FieldType} {hh : List (Nat × Nat × Nat × Nat)} {Ts ws ws' : List Cond} {rm : Room} (n : Nat) (ht : ∀ w ∈ Ts, w.before args s = true) (hT : GoodIn Ts (wsV own index C y ws)) (hw : ws = Cond.codeWith y bytes maxL ret hh :: ws') (hrc : rm.cells = mc) (hrs : rm.slots = ms)
    (hd : y.cls = C ∧ y.cls ≠ "java/lang/invoke/MethodHandle" ∧ y.cls ≠ "java/lang/invoke/VarHandle" ∧ (parseMethodDescriptor y.desc).map (fun d => d.parameters.length) = some n) (hR : rm.frames + 1 ≤ R.frames ∧ 8 + (maxL + 11) + rm.locals ≤ R.locals) :
    vx_CVW R s args own C index y bytes maxL ret hh ws rm mc ms n := by
  obtain ⟨hC, hd⟩ := hd
  subst hC
  have ok : ∀ w ∈ wsV own index y.cls y ws, w.before args s = true := fun w h => ht w (hT w h).1
  have hG : GoodIn Ts ws := fun w h => hT w (by unfold wsV; exact List.mem_append_right _ h)
  have hc : Cond.codeWith y bytes maxL ret hh ∈ ws := by rw [hw]; exact List.mem_cons_self
  refine ⟨⟨hrc, hrs, hR.1, hR.2, pay_in ht hG, hc⟩, ht _ (hG _ hc).1, ok _ (by simp [wsV]), ⟨hd.1, hd.2.1⟩, fun sig h => ?_, ok _ (by simp [wsV]), ok _ (by simp [wsV]), ok _ (by simp [wsV])⟩
  have h2 := hd.2.2
  rw [h] at h2
  exact (Option.some.inj h2).symm
theorem vx_runVW {y : MethodName} {bytes cc : ByteArray} {maxL nL mc ms n index : Nat} {ret : Option FieldType} {hh : List (Nat × Nat × Nat × Nat)} {ws : List Cond} {rm : Room} {Pc : Array Value → State → Prop} {Qc : Array Value → State → Outcome → State → Prop} {free : Addr → Prop} {Ts : List Cond} {own C : String} {b : Addr} {As rest : List Value} {g : JFrame}
    (S : CallFix p m c cc nL s args Ts own) (hM : Met l y ws rm Pc Qc mc ms free) (cw : vx_CVW R s args own C index y bytes maxL ret hh ws rm mc ms n) (hp : PreV s H C b Pc As)
    (hg : g.method = m) (hn : As.length = n) (hsize : g.locals.size = nL) (hstack : g.stack = As.reverse ++ .ref b :: rest) (hW : 2 * g.monitorRoom + (rest.map fun v => v.category).sum ≤ 8) (hdg : decode cc g.pc = .ok (.invokevirtual index, 3)) (hf : cells + mc ≤ R.cells ∧ slots + ms ≤ R.slots) :
    va_Run p l e R s m args below meth c H locs cells slots mc ms g rest (Qc (Value.ref b :: As).toArray) free := by
  obtain ⟨⟨hrc, hrs, hfr, hlo, hws, hcw⟩, hcode, hini, hy, hlen, hl, hin, hse⟩ := cw
  have hK : Back l R p e below s args y 3 8 (PreOf R mc ms Pc) (PostOf Qc mc ms free) := va_backW (hh := hh) (bytes := bytes) (maxL := maxL) (ret := ret) hM hp.1 hrc hrs hfr hlo hws hcw (fun a' U hW => word_at hW (Or.inl (by first | rfl | simp [Cond.onTables, Cond.keeps, Cond.steady])) hini)
  obtain ⟨hx, hb, hml, ho, -⟩ := S
  obtain ⟨-, ⟨cellB, hcB, hoB, hclB⟩, hPc⟩ := hp
  intro T hT X
  obtain ⟨v, vm₁, ⟨U', l2, c2, s2⟩, hW₁, X', ⟨g', mk, t, L, e1, e2, hq, h1, hL, h2, h3⟩, st⟩ := vx_callVW X hx (C := C) (hh := hh) (bytes := bytes) (maxL := maxL) (ret := ret) ho hl hin hse hcode hy hK (by rw [hT]; exact hcB) hoB hclB hg (hsize.trans hml.symm) (argsL := As) (rest := rest) (fun sig h => hn.trans (hlen sig h)) hstack hW (by rw [hb]; exact hdg)
    (fun vm₁ hW₁ => ⟨hf.1, hf.2, hPc (T.setVm vm₁) hT hW₁⟩)
  dsimp only [Pt.U, Pt.locs, Pt.cells, Pt.slots] at X' e1 e2 h1 h2 h3 st
  subst h1; subst h2; subst h3
  exact ⟨v, (T.setVm vm₁).calling g' mk (Value.ref b :: As).toArray, t, U', L, hT, X', hL, e1, e2, hq, st⟩
section
variable {y : MethodName} {bytes cc : ByteArray} {maxL nL mc ms n index : Nat} {ret : Option FieldType} {ws : List Cond} {rm : Room} {Pc : Array Value → State → Prop} {Qc : Array Value → State → Outcome → State → Prop} {XC : String → State → State → Prop} {free : Addr → Prop} {Ts : List Cond} {own C : String} {b : Addr} {As rest : List Value} {g : JFrame}
theorem vx_runVX {hh : List (Nat × Nat × Nat × Nat)} (S : CallFix p m c cc nL s args Ts own) (hM : vx_Met l y ws rm Pc Qc XC mc ms free) (cw : vx_CVW R s args own C index y bytes maxL ret hh ws rm mc ms n) (hp : PreV s H C b Pc As)
    (hg : g.method = m) (hn : As.length = n) (hsize : g.locals.size = nL) (hstack : g.stack = As.reverse ++ .ref b :: rest) (hW : 2 * g.monitorRoom + (rest.map fun v => v.category).sum ≤ 8) (hdg : decode cc g.pc = .ok (.invokevirtual index, 3)) (hf : cells + mc ≤ R.cells ∧ slots + ms ≤ R.slots) :
    vx_Run p l e R s m args below meth c H locs cells slots mc ms g rest (Qc (Value.ref b :: As).toArray) XC free := by
  obtain ⟨⟨hrc, hrs, hfr, hlo, hws, hcw⟩, hcode, hini, hy, hlen, hl, hin, hse⟩ := cw
  have hK : vx_Back l R p e below s args y 3 8 (PreOf R mc ms Pc) (PostOf Qc mc ms free) (vx_Post XC mc ms free) := vx_backW (hh := hh) (bytes := bytes) (maxL := maxL) (ret := ret) hM hp.1 hrc hrs hfr hlo hws hcw (fun a' U hW => word_at hW (Or.inl (by first | rfl | simp [Cond.onTables, Cond.keeps, Cond.steady])) hini)
  obtain ⟨hx, hb, hml, ho, -⟩ := S
  obtain ⟨-, ⟨cellB, hcB, hoB, hclB⟩, hPc⟩ := hp
  intro T hT X
  rcases vx_callVX X hx (C := C) (hh := hh) (bytes := bytes) (maxL := maxL) (ret := ret) ho hl hin hse hcode hy hK (by rw [hT]; exact hcB) hoB hclB hg (hsize.trans hml.symm) (argsL := As) (rest := rest) (fun sig h => hn.trans (hlen sig h)) hstack hW (by rw [hb]; exact hdg)
    (fun vm₁ hW₁ => ⟨hf.1, hf.2, hPc (T.setVm vm₁) hT hW₁⟩) with ⟨v, vm₁, ⟨U', l2, c2, s2⟩, hW₁, X', ⟨g', mk, t, L, e1, e2, hq, h1, hL, h2, h3⟩, st⟩ | ⟨q, vm₁, ⟨U', l2, c2, s2⟩, hW₁, X', ⟨g', mk, t, L, E, ce, e1, e2, hq, hce, hcv, hcl, h1, hL, h2, h3⟩, st⟩
  · dsimp only [Pt.U, Pt.locs, Pt.cells, Pt.slots] at X' e1 e2 h1 h2 h3 st
    subst h1; subst h2; subst h3
    exact Or.inl ⟨v, (T.setVm vm₁).calling g' mk (Value.ref b :: As).toArray, t, U', L, hT, X', hL, e1, e2, hq, st⟩
  · dsimp only [Pt.U, Pt.locs, Pt.cells, Pt.slots] at X' e1 e2 h1 h2 h3 st hcl
    subst h1; subst h2; subst h3
    exact Or.inr ⟨q, (T.setVm vm₁).calling g' mk (Value.ref b :: As).toArray, t, U', L, E, ce, hT, X', hL, e1, e2, hq, hce, hcv, vx_cls hW₁ hcl, st⟩
theorem vx_runSX {hh : List (Nat × Nat × Nat × Nat)} (S : CallFix p m c cc nL s args Ts own) (hM : vx_Met l y ws rm Pc Qc XC mc ms free) (cw : vx_CSW R s args own index y bytes maxL ret hh ws rm mc ms n) (hp : PreS s H Pc As)
    (hg : g.method = m) (hn : As.length = n) (hsize : g.locals.size = nL) (hstack : g.stack = As.reverse ++ rest) (hW : 2 * g.monitorRoom + (rest.map fun v => v.category).sum ≤ 8) (hdg : decode cc g.pc = .ok (.invokestatic index, 3)) (hf : cells + mc ≤ R.cells ∧ slots + ms ≤ R.slots) :
    vx_Run p l e R s m args below meth c H locs cells slots mc ms g rest (Qc As.toArray) XC free := by
  obtain ⟨⟨hrc, hrs, hfr, hlo, hws, hcw⟩, hcode, hini, hy, hlen, hl, hstt⟩ := cw
  have hK : vx_Back l R p e below s args y 3 8 (PreOf R mc ms Pc) (PostOf Qc mc ms free) (vx_Post XC mc ms free) := vx_backW (hh := hh) (bytes := bytes) (maxL := maxL) (ret := ret) hM hp.1 hrc hrs hfr hlo hws hcw (fun a' U hW => word_at hW (Or.inl (by first | rfl | simp [Cond.onTables, Cond.keeps, Cond.steady])) hini)
  obtain ⟨hx, hb, hml, ho, -⟩ := S
  intro T hT X
  rcases vx_callSX X hx (hh := hh) (bytes := bytes) (maxL := maxL) (ret := ret) ho hl hstt hini hcode hy hK hg (hsize.trans hml.symm) (argsL := As) (rest := rest) (fun sig h => hn.trans (hlen sig h)) hstack hW (by rw [hb]; exact hdg)
    (fun vm₁ hW₁ => ⟨hf.1, hf.2, hp.2 (T.setVm vm₁) hT hW₁⟩) with ⟨v, vm₁, ⟨U', l2, c2, s2⟩, hW₁, X', ⟨g', mk, t, L, e1, e2, hq, h1, hL, h2, h3⟩, st⟩ | ⟨q, vm₁, ⟨U', l2, c2, s2⟩, hW₁, X', ⟨g', mk, t, L, E, ce, e1, e2, hq, hce, hcv, hcl, h1, hL, h2, h3⟩, st⟩
  · dsimp only [Pt.U, Pt.locs, Pt.cells, Pt.slots] at X' e1 e2 h1 h2 h3 st
    subst h1; subst h2; subst h3
    exact Or.inl ⟨v, (T.setVm vm₁).calling g' mk As.toArray, t, U', L, hT, X', hL, e1, e2, hq, st⟩
  · dsimp only [Pt.U, Pt.locs, Pt.cells, Pt.slots] at X' e1 e2 h1 h2 h3 st hcl
    subst h1; subst h2; subst h3
    exact Or.inr ⟨q, (T.setVm vm₁).calling g' mk As.toArray, t, U', L, E, ce, hT, X', hL, e1, e2, hq, hce, hcv, vx_cls hW₁ hcl, st⟩
end
end VXH
theorem vx_ofWH {l : Launch} {y : MethodName} {ws ws' : List Cond} {rm : Room} {Pc : Array Value → State → Prop} {Qc : Array Value → State → Outcome → State → Prop} {XC : String → State → State → Prop} {mc ms : Nat} {free : Addr → Prop} {cc : ByteArray} {maxL : Nat} {ret : Option FieldType} {hh : List (Nat × Nat × Nat × Nat)}
    (hy : plainName y.cls = true) (hw : ws = Cond.codeWith y cc maxL ret hh :: ws')
    (body : ∀ p e s m args below meth c s₁, BodyLoose p l y (headSpec ws rm) cc maxL ret e s m args below meth c s₁ → c.maxLocals = maxL → Pc args s →
      W p l e (headSpec ws rm).room s m args below meth c s.heap [] 0 0 (vx_MQ below Qc XC args s mc ms free) (entryFrame m args maxL)) : vx_Met l y ws rm Pc Qc XC mc ms free := by
  refine MetFree.of_bodyS (code := cc) (maxLocals := maxL) (ret := ret) hy ?_ ?_
  · intro args s m h hn
    obtain ⟨m9, meth, c, hn9, h1, h2, h3, h4, -, h5, h6, -⟩ := Cond.codeWith_spec (atoms_spec (ws := ws) h _ (by rw [hw]; exact List.mem_cons_self))
    cases hn.symm.trans hn9
    exact ⟨meth, c, h1, h2, h3, h4, h5, h6⟩
  · intro p e s m args below meth c s₁ B hml hP _
    have hh0 : s₁.heap = s.heap := by rw [B.state]; rfl
    obtain ⟨t, a1, o, b1, b2, b3⟩ := body p e s m args below meth c s₁ B hml hP s₁ hh0 (Stand.of_body B)
    exact ⟨t, o, a1, b1, b2, b3⟩
/-! ===== END ===== -/

/-! ===== BEGIN printed: names, fields, word lists, decode rows ===== -/
def RX0 : String := "ConcertUsher$EventText"
def TX0 : u_T := fun k => match k with
  | 0 => ("ConcertUsher$EventText", "signs", "[C", true)
  | _ => ("ConcertUsher$EventText", "length", "I", false)
def tyX0 : Nat → FieldType := fun k => match k with
  | 0 => .array .char
  | _ => .int
abbrev wsX00 : List Cond := u_ws RX0 TX0 2
theorem nmX0 : ∀ a, a < 2 → ∀ b, b < 2 → a ≠ b → (TX0 a).2.1 ≠ (TX0 b).2.1 := by decide +kernel
theorem tyX0_ok : ∀ k, k < 2 → parseFieldDescriptor (TX0 k).2.2.1 = some (tyX0 k) := by decide +kernel
abbrev cX0_init : ByteArray := prog_2_method_1_code
def yX0_init : MethodName := ⟨RX0, "<init>", "()V"⟩
def RX1 : String := "ConcertUsher$Hall"
def TX1 : u_T := fun k => match k with
  | 0 => ("ConcertUsher$Hall", "listeners", "[I", true)
  | 1 => ("ConcertUsher$Hall", "rests", "[I", true)
  | 2 => ("ConcertUsher$Hall", "counts", "[I", true)
  | 3 => ("ConcertUsher$Hall", "openRows", "I", false)
  | 4 => ("ConcertUsher$Hall", "isQuick", "Z", false)
  | 5 => ("ConcertUsher$Hall", "isFirstPresent", "Z", false)
  | 6 => ("ConcertUsher$Hall", "isSecondPresent", "Z", false)
  | 7 => ("ConcertUsher$Hall", "fading", "I", false)
  | 8 => ("ConcertUsher$Hall", "patience", "I", false)
  | 9 => ("ConcertUsher$Hall", "asking", "I", false)
  | 10 => ("ConcertUsher$Hall", "minutes", "I", false)
  | _ => ("ConcertUsher$Hall", "sinceQuestion", "I", false)
def tyX1 : Nat → FieldType := fun k => match k with
  | 0 => .array .int
  | 1 => .array .int
  | 2 => .array .int
  | 3 => .int
  | 4 => .boolean
  | 5 => .boolean
  | 6 => .boolean
  | 7 => .int
  | 8 => .int
  | 9 => .int
  | 10 => .int
  | _ => .int
abbrev wsX10 : List Cond := u_ws RX1 TX1 12
theorem nmX1 : ∀ a, a < 12 → ∀ b, b < 12 → a ≠ b → (TX1 a).2.1 ≠ (TX1 b).2.1 := by decide +kernel
theorem tyX1_ok : ∀ k, k < 12 → parseFieldDescriptor (TX1 k).2.2.1 = some (tyX1 k) := by decide +kernel
abbrev cX1_init : ByteArray := prog_3_method_1_code
def yX1_init : MethodName := ⟨RX1, "<init>", "()V"⟩
abbrev cX1_copyFrom : ByteArray := prog_3_method_2_code
def yX1_copyFrom : MethodName := ⟨RX1, "copyFrom", "(LConcertUsher$Hall;)V"⟩
abbrev cX1_hasRoom : ByteArray := prog_3_method_3_code
def yX1_hasRoom : MethodName := ⟨RX1, "hasRoom", "(I)Z"⟩
abbrev cX1_isWantedAt : ByteArray := prog_3_method_4_code
def yX1_isWantedAt : MethodName := ⟨RX1, "isWantedAt", "(I)Z"⟩
abbrev cX1_seat : ByteArray := prog_3_method_5_code
def yX1_seat : MethodName := ⟨RX1, "seat", "(I)V"⟩
abbrev cX1_unseat : ByteArray := prog_3_method_6_code
def yX1_unseat : MethodName := ⟨RX1, "unseat", "(IZ)V"⟩
abbrev cX1_hearCall : ByteArray := prog_3_method_7_code
def yX1_hearCall : MethodName := ⟨RX1, "hearCall", "(I)V"⟩
abbrev cX1_hearFarewell : ByteArray := prog_3_method_8_code
def yX1_hearFarewell : MethodName := ⟨RX1, "hearFarewell", "(I)V"⟩
abbrev cX1_askAllRows : ByteArray := prog_3_method_9_code
def yX1_askAllRows : MethodName := ⟨RX1, "askAllRows", "()V"⟩
abbrev cX1_isRowOpen : ByteArray := prog_3_method_10_code
def yX1_isRowOpen : MethodName := ⟨RX1, "isRowOpen", "(I)Z"⟩
abbrev cX1_turnRow : ByteArray := prog_3_method_11_code
def yX1_turnRow : MethodName := ⟨RX1, "turnRow", "(I)V"⟩
abbrev cX1_chiefAsker : ByteArray := prog_3_method_12_code
def yX1_chiefAsker : MethodName := ⟨RX1, "chiefAsker", "()I"⟩
abbrev cX1_entriesInAll : ByteArray := prog_3_method_13_code
def yX1_entriesInAll : MethodName := ⟨RX1, "entriesInAll", "()I"⟩
abbrev cX1_rowsThatGet : ByteArray := prog_3_method_14_code
def yX1_rowsThatGet : MethodName := ⟨RX1, "rowsThatGet", "(I)I"⟩
abbrev cX1_rowsThatWant : ByteArray := prog_3_method_15_code
def yX1_rowsThatWant : MethodName := ⟨RX1, "rowsThatWant", "(I)I"⟩
abbrev cX1_letPass : ByteArray := prog_3_method_16_code
def yX1_letPass : MethodName := ⟨RX1, "letPass", "(I)I"⟩
abbrev cX1_fadeEntries : ByteArray := prog_3_method_17_code
def yX1_fadeEntries : MethodName := ⟨RX1, "fadeEntries", "()V"⟩
abbrev cX1_timeBetweenQuestions : ByteArray := prog_3_method_18_code
def yX1_timeBetweenQuestions : MethodName := ⟨RX1, "timeBetweenQuestions", "()I"⟩
abbrev cX1_perform : ByteArray := prog_3_method_19_code
def yX1_perform : MethodName := ⟨RX1, "perform", "(I)I"⟩
abbrev cX1_asksIn : ByteArray := prog_3_method_20_code
def yX1_asksIn : MethodName := ⟨RX1, "asksIn", "()I"⟩
abbrev cX1_fadesIn : ByteArray := prog_3_method_21_code
def yX1_fadesIn : MethodName := ⟨RX1, "fadesIn", "(I)I"⟩
def RX2 : String := "ConcertUsher$History"
def TX2 : u_T := fun k => match k with
  | 0 => ("ConcertUsher$History", "halls", "[LConcertUsher$Hall;", true)
  | 1 => ("ConcertUsher$History", "oldest", "I", false)
  | _ => ("ConcertUsher$History", "size", "I", false)
def tyX2 : Nat → FieldType := fun k => match k with
  | 0 => .array (.object "ConcertUsher$Hall")
  | 1 => .int
  | _ => .int
abbrev wsX20 : List Cond := u_ws RX2 TX2 3
theorem nmX2 : ∀ a, a < 3 → ∀ b, b < 3 → a ≠ b → (TX2 a).2.1 ≠ (TX2 b).2.1 := by decide +kernel
theorem tyX2_ok : ∀ k, k < 3 → parseFieldDescriptor (TX2 k).2.2.1 = some (tyX2 k) := by decide +kernel
abbrev cX2_init : ByteArray := prog_4_method_1_code
def yX2_init : MethodName := ⟨RX2, "<init>", "()V"⟩
abbrev cX2_keep : ByteArray := prog_4_method_2_code
def yX2_keep : MethodName := ⟨RX2, "keep", "(LConcertUsher$Hall;)V"⟩
abbrev cX2_takeBack : ByteArray := prog_4_method_3_code
def yX2_takeBack : MethodName := ⟨RX2, "takeBack", "(LConcertUsher$Hall;)V"⟩
def RX3 : String := "ConcertUsher"
def TX3 : u_T := fun k => match k with
  | 0 => ("ConcertUsher", "hall", "LConcertUsher$Hall;", true)
  | 1 => ("ConcertUsher", "history", "LConcertUsher$History;", true)
  | _ => ("ConcertUsher", "text", "LConcertUsher$EventText;", true)
def tyX3 : Nat → FieldType := fun k => match k with
  | 0 => .object "ConcertUsher$Hall"
  | 1 => .object "ConcertUsher$History"
  | _ => .object "ConcertUsher$EventText"
abbrev wsX30 : List Cond := u_ws RX3 TX3 3
theorem nmX3 : ∀ a, a < 3 → ∀ b, b < 3 → a ≠ b → (TX3 a).2.1 ≠ (TX3 b).2.1 := by decide +kernel
theorem tyX3_ok : ∀ k, k < 3 → parseFieldDescriptor (TX3 k).2.2.1 = some (tyX3 k) := by decide +kernel
abbrev cX3_init : ByteArray := prog_1_method_1_code
def yX3_init : MethodName := ⟨RX3, "<init>", "()V"⟩
abbrev cX3_come : ByteArray := prog_1_method_2_code
def yX3_come : MethodName := ⟨RX3, "come", "(II)I"⟩
abbrev cX3_leave : ByteArray := prog_1_method_3_code
def yX3_leave : MethodName := ⟨RX3, "leave", "(IIZ)I"⟩
abbrev cX3_listeners : ByteArray := prog_1_method_4_code
def yX3_listeners : MethodName := ⟨RX3, "listeners", "(II)I"⟩
abbrev cX3_setOpen : ByteArray := prog_1_method_5_code
def yX3_setOpen : MethodName := ⟨RX3, "setOpen", "(IZ)Z"⟩
abbrev cX3_setQuick : ByteArray := prog_1_method_6_code
def yX3_setQuick : MethodName := ⟨RX3, "setQuick", "(Z)Z"⟩
abbrev cX3_setTimes : ByteArray := prog_1_method_7_code
def yX3_setTimes : MethodName := ⟨RX3, "setTimes", "(III)I"⟩
abbrev cX3_setPresent : ByteArray := prog_1_method_8_code
def yX3_setPresent : MethodName := ⟨RX3, "setPresent", "(IZ)I"⟩
abbrev cX3_chief : ByteArray := prog_1_method_9_code
def yX3_chief : MethodName := ⟨RX3, "chief", "()I"⟩
abbrev cX3_rest : ByteArray := prog_1_method_10_code
def yX3_rest : MethodName := ⟨RX3, "rest", "(II)I"⟩
abbrev cX3_entries : ByteArray := prog_1_method_11_code
def yX3_entries : MethodName := ⟨RX3, "entries", "()I"⟩
abbrev cX3_isOpen : ByteArray := prog_1_method_12_code
def yX3_isOpen : MethodName := ⟨RX3, "isOpen", "(I)Z"⟩
abbrev cX3_rows : ByteArray := prog_1_method_13_code
def yX3_rows : MethodName := ⟨RX3, "rows", "(I)I"⟩
abbrev cX3_wanted : ByteArray := prog_1_method_14_code
def yX3_wanted : MethodName := ⟨RX3, "wanted", "(I)I"⟩
abbrev cX3_pass : ByteArray := prog_1_method_15_code
def yX3_pass : MethodName := ⟨RX3, "pass", "(I)I"⟩
abbrev cX3_play : ByteArray := prog_1_method_16_code
def yX3_play : MethodName := ⟨RX3, "play", "(I)I"⟩
abbrev cX3_minutes : ByteArray := prog_1_method_17_code
def yX3_minutes : MethodName := ⟨RX3, "minutes", "()I"⟩
abbrev cX3_sinceQuestion : ByteArray := prog_1_method_18_code
def yX3_sinceQuestion : MethodName := ⟨RX3, "sinceQuestion", "()I"⟩
abbrev cX3_count : ByteArray := prog_1_method_19_code
def yX3_count : MethodName := ⟨RX3, "count", "(I)I"⟩
abbrev cX3_usefulShare : ByteArray := prog_1_method_20_code
def yX3_usefulShare : MethodName := ⟨RX3, "usefulShare", "()D"⟩
abbrev cX3_minutesToFade : ByteArray := prog_1_method_21_code
def yX3_minutesToFade : MethodName := ⟨RX3, "minutesToFade", "(II)I"⟩
abbrev cX3_minutesToQuestion : ByteArray := prog_1_method_22_code
def yX3_minutesToQuestion : MethodName := ⟨RX3, "minutesToQuestion", "()I"⟩
abbrev cX3_undo : ByteArray := prog_1_method_28_code
def yX3_undo : MethodName := ⟨RX3, "undo", "()I"⟩
abbrev cX3_savedStates : ByteArray := prog_1_method_29_code
def yX3_savedStates : MethodName := ⟨RX3, "savedStates", "()I"⟩
abbrev cX3_checkRow : ByteArray := prog_1_method_33_code
def yX3_checkRow : MethodName := ⟨RX3, "checkRow", "(I)V"⟩
abbrev cX3_checkConcert : ByteArray := prog_1_method_34_code
def yX3_checkConcert : MethodName := ⟨RX3, "checkConcert", "(I)V"⟩
abbrev cX3_checkMinutes : ByteArray := prog_1_method_35_code
def yX3_checkMinutes : MethodName := ⟨RX3, "checkMinutes", "(I)V"⟩
abbrev cX3_isRow : ByteArray := prog_1_method_36_code
def yX3_isRow : MethodName := ⟨RX3, "isRow", "(I)Z"⟩
abbrev cX3_isConcert : ByteArray := prog_1_method_37_code
def yX3_isConcert : MethodName := ⟨RX3, "isConcert", "(I)Z"⟩
abbrev cX3_placeOf : ByteArray := prog_1_method_38_code
def yX3_placeOf : MethodName := ⟨RX3, "placeOf", "(II)I"⟩
def RX4 : String := "ConcertUsherModel"
def TX4 : u_T := fun k => match k with
  | _ => ("", "", "", false)
def tyX4 : Nat → FieldType := fun k => match k with
  | _ => .int
abbrev wsX40 : List Cond := u_ws RX4 TX4 0
theorem nmX4 : ∀ a, a < 0 → ∀ b, b < 0 → a ≠ b → (TX4 a).2.1 ≠ (TX4 b).2.1 := by decide +kernel
theorem tyX4_ok : ∀ k, k < 0 → parseFieldDescriptor (TX4 k).2.2.1 = some (tyX4 k) := by decide +kernel
def RJ6 : String := "java/lang/Integer"
def TJ6 : u_T := fun k => match k with
  | _ => ("", "", "", false)
def tyJ6 : Nat → FieldType := fun k => match k with
  | _ => .int
abbrev wsJ60 : List Cond := u_ws RJ6 TJ6 0
theorem nmJ6 : ∀ a, a < 0 → ∀ b, b < 0 → a ≠ b → (TJ6 a).2.1 ≠ (TJ6 b).2.1 := by decide +kernel
theorem tyJ6_ok : ∀ k, k < 0 → parseFieldDescriptor (TJ6 k).2.2.1 = some (tyJ6 k) := by decide +kernel
abbrev cJ6_bitCount_0f7a4 : ByteArray := prog_11_method_49_code
def yJ6_bitCount_0f7a4 : MethodName := ⟨RJ6, "bitCount", "(I)I"⟩
def RJ9 : String := "java/lang/Math"
def TJ9 : u_T := fun k => match k with
  | _ => ("", "", "", false)
def tyJ9 : Nat → FieldType := fun k => match k with
  | _ => .int
abbrev wsJ90 : List Cond := u_ws RJ9 TJ9 0
theorem nmJ9 : ∀ a, a < 0 → ∀ b, b < 0 → a ≠ b → (TJ9 a).2.1 ≠ (TJ9 b).2.1 := by decide +kernel
theorem tyJ9_ok : ∀ k, k < 0 → parseFieldDescriptor (TJ9 k).2.2.1 = some (tyJ9 k) := by decide +kernel
abbrev cJ9_max_7cf53 : ByteArray := prog_12_method_65_code
def yJ9_max_7cf53 : MethodName := ⟨RJ9, "max", "(II)I"⟩
def RJ0 : String := "java/lang/String"
def TJ0 : u_T := fun k => match k with
  | _ => ("", "", "", false)
def tyJ0 : Nat → FieldType := fun k => match k with
  | _ => .int
abbrev wsJ00 : List Cond := u_ws RJ0 TJ0 0
theorem nmJ0 : ∀ a, a < 0 → ∀ b, b < 0 → a ≠ b → (TJ0 a).2.1 ≠ (TJ0 b).2.1 := by decide +kernel
theorem tyJ0_ok : ∀ k, k < 0 → parseFieldDescriptor (TJ0 k).2.2.1 = some (tyJ0 k) := by decide +kernel
def RJ10 : String := "java/lang/System"
def TJ10 : u_T := fun k => match k with
  | _ => ("", "", "", false)
def tyJ10 : Nat → FieldType := fun k => match k with
  | _ => .int
abbrev wsJ100 : List Cond := u_ws RJ10 TJ10 0
theorem nmJ10 : ∀ a, a < 0 → ∀ b, b < 0 → a ≠ b → (TJ10 a).2.1 ≠ (TJ10 b).2.1 := by decide +kernel
theorem tyJ10_ok : ∀ k, k < 0 → parseFieldDescriptor (TJ10 k).2.2.1 = some (tyJ10 k) := by decide +kernel
def RL : String := "ConcertUsherLaw"
abbrev cL_cell : ByteArray := method_2_code
def yL_cell : MethodName := ⟨RL, "cell", "([II)I"⟩
abbrev cL_low : ByteArray := method_3_code
def yL_low : MethodName := ⟨RL, "low", "(II)I"⟩
abbrev cL_told : ByteArray := method_4_code
def yL_told : MethodName := ⟨RL, "told", "(LConcertUsher;)J"⟩
abbrev cL_bits : ByteArray := method_5_code
def yL_bits : MethodName := ⟨RL, "bits", "(I)I"⟩
abbrev cL_act : ByteArray := method_6_code
def yL_act : MethodName := ⟨RL, "act", "(LConcertUsher;II)I"⟩
abbrev cL_isPlayed : ByteArray := method_7_code
def yL_isPlayed : MethodName := ⟨RL, "isPlayed", "(LConcertUsher;I)Z"⟩
abbrev cL_holds : ByteArray := method_8_code
def yL_holds : MethodName := ⟨RL, "holds", "(LConcertUsher;)Z"⟩
abbrev cL_isTimed : ByteArray := method_9_code
def yL_isTimed : MethodName := ⟨RL, "isTimed", "(LConcertUsher;II)Z"⟩
abbrev cL_law : ByteArray := code
def yL_law : MethodName := ⟨RL, "law", "([I)Z"⟩
def wsX0_init : List Cond := .code yX0_init cX0_init 1 none :: ([.methodLink RX0 3 objectInit, .instanceMethod objectInit, .code objectInit ⟨#[0xb1]⟩ 1 none, .arrayClass .char, .fieldLink RX0 9 "ConcertUsher$EventText" "signs" "[C", .fieldLink RX0 15 "ConcertUsher$EventText" "length" "I"] ++ wsX00)
def wsX1_init : List Cond := .code yX1_init cX1_init 1 none :: ([.methodLink RX1 3 objectInit, .instanceMethod objectInit, .code objectInit ⟨#[0xb1]⟩ 1 none, .arrayClass .int, .fieldLink RX1 9 "ConcertUsher$Hall" "listeners" "[I", .fieldLink RX1 15 "ConcertUsher$Hall" "rests" "[I", .fieldLink RX1 18 "ConcertUsher$Hall" "counts" "[I", .fieldLink RX1 21 "ConcertUsher$Hall" "openRows" "I", .fieldLink RX1 25 "ConcertUsher$Hall" "isQuick" "Z", .fieldLink RX1 29 "ConcertUsher$Hall" "isFirstPresent" "Z", .fieldLink RX1 32 "ConcertUsher$Hall" "isSecondPresent" "Z", .fieldLink RX1 35 "ConcertUsher$Hall" "fading" "I", .fieldLink RX1 38 "ConcertUsher$Hall" "patience" "I", .fieldLink RX1 41 "ConcertUsher$Hall" "asking" "I", .fieldLink RX1 44 "ConcertUsher$Hall" "minutes" "I", .fieldLink RX1 47 "ConcertUsher$Hall" "sinceQuestion" "I"] ++ wsX10)
def wsX1_copyFrom : List Cond := .code yX1_copyFrom cX1_copyFrom 2 none :: ([.fieldLink RX1 9 "ConcertUsher$Hall" "listeners" "[I", .methodLink RX1 50 arraycopyName, .native arraycopyName, .static arraycopyName, .initialized "java/lang/System", .fieldLink RX1 15 "ConcertUsher$Hall" "rests" "[I", .fieldLink RX1 18 "ConcertUsher$Hall" "counts" "[I", .fieldLink RX1 21 "ConcertUsher$Hall" "openRows" "I", .fieldLink RX1 25 "ConcertUsher$Hall" "isQuick" "Z", .fieldLink RX1 29 "ConcertUsher$Hall" "isFirstPresent" "Z", .fieldLink RX1 32 "ConcertUsher$Hall" "isSecondPresent" "Z", .fieldLink RX1 35 "ConcertUsher$Hall" "fading" "I", .fieldLink RX1 38 "ConcertUsher$Hall" "patience" "I", .fieldLink RX1 41 "ConcertUsher$Hall" "asking" "I", .fieldLink RX1 44 "ConcertUsher$Hall" "minutes" "I", .fieldLink RX1 47 "ConcertUsher$Hall" "sinceQuestion" "I"] ++ wsX10)
def wsX1_hasRoom : List Cond := .code yX1_hasRoom cX1_hasRoom 2 (some .boolean) :: ([.fieldLink RX1 9 "ConcertUsher$Hall" "listeners" "[I"] ++ wsX10)
def wsX1_isWantedAt : List Cond := .code yX1_isWantedAt cX1_isWantedAt 2 (some .boolean) :: ([.fieldLink RX1 9 "ConcertUsher$Hall" "listeners" "[I"] ++ wsX10)
def wsX1_hearCall : List Cond := .code yX1_hearCall cX1_hearCall 2 none :: ([.fieldLink RX1 9 "ConcertUsher$Hall" "listeners" "[I", .fieldLink RX1 15 "ConcertUsher$Hall" "rests" "[I", .fieldLink RX1 35 "ConcertUsher$Hall" "fading" "I", .fieldLink RX1 18 "ConcertUsher$Hall" "counts" "[I"] ++ wsX10)
def wsX1_seat : List Cond := .code yX1_seat cX1_seat 2 none :: ([.fieldLink RX1 9 "ConcertUsher$Hall" "listeners" "[I", .methodLink RX1 56 yX1_hearCall, .instanceMethod yX1_hearCall, .selects RX1 yX1_hearCall yX1_hearCall, .initialized RX1, .code yX1_hearCall cX1_hearCall 2 none, .fieldLink RX1 15 "ConcertUsher$Hall" "rests" "[I", .fieldLink RX1 35 "ConcertUsher$Hall" "fading" "I", .fieldLink RX1 18 "ConcertUsher$Hall" "counts" "[I"] ++ wsX10)
def wsX1_hearFarewell : List Cond := .code yX1_hearFarewell cX1_hearFarewell 2 none :: ([.fieldLink RX1 25 "ConcertUsher$Hall" "isQuick" "Z", .fieldLink RX1 15 "ConcertUsher$Hall" "rests" "[I", .fieldLink RX1 38 "ConcertUsher$Hall" "patience" "I", .fieldLink RX1 18 "ConcertUsher$Hall" "counts" "[I", .methodLink RX1 63 yX1_isWantedAt, .instanceMethod yX1_isWantedAt, .selects RX1 yX1_isWantedAt yX1_isWantedAt, .initialized RX1, .code yX1_isWantedAt cX1_isWantedAt 2 (some .boolean), .fieldLink RX1 9 "ConcertUsher$Hall" "listeners" "[I", .methodLink RX1 56 yX1_hearCall, .instanceMethod yX1_hearCall, .selects RX1 yX1_hearCall yX1_hearCall, .code yX1_hearCall cX1_hearCall 2 none, .fieldLink RX1 35 "ConcertUsher$Hall" "fading" "I"] ++ wsX10)
def wsX1_unseat : List Cond := .code yX1_unseat cX1_unseat 3 none :: ([.fieldLink RX1 9 "ConcertUsher$Hall" "listeners" "[I", .methodLink RX1 60 yX1_hearFarewell, .instanceMethod yX1_hearFarewell, .selects RX1 yX1_hearFarewell yX1_hearFarewell, .initialized RX1, .code yX1_hearFarewell cX1_hearFarewell 2 none, .fieldLink RX1 25 "ConcertUsher$Hall" "isQuick" "Z", .fieldLink RX1 15 "ConcertUsher$Hall" "rests" "[I", .fieldLink RX1 38 "ConcertUsher$Hall" "patience" "I", .fieldLink RX1 18 "ConcertUsher$Hall" "counts" "[I", .methodLink RX1 63 yX1_isWantedAt, .instanceMethod yX1_isWantedAt, .selects RX1 yX1_isWantedAt yX1_isWantedAt, .code yX1_isWantedAt cX1_isWantedAt 2 (some .boolean), .methodLink RX1 56 yX1_hearCall, .instanceMethod yX1_hearCall, .selects RX1 yX1_hearCall yX1_hearCall, .code yX1_hearCall cX1_hearCall 2 none, .fieldLink RX1 35 "ConcertUsher$Hall" "fading" "I"] ++ wsX10)
def wsX1_askAllRows : List Cond := .code yX1_askAllRows cX1_askAllRows 2 none :: ([.fieldLink RX1 18 "ConcertUsher$Hall" "counts" "[I", .methodLink RX1 56 yX1_hearCall, .instanceMethod yX1_hearCall, .selects RX1 yX1_hearCall yX1_hearCall, .initialized RX1, .code yX1_hearCall cX1_hearCall 2 none, .fieldLink RX1 9 "ConcertUsher$Hall" "listeners" "[I", .fieldLink RX1 15 "ConcertUsher$Hall" "rests" "[I", .fieldLink RX1 35 "ConcertUsher$Hall" "fading" "I"] ++ wsX10)
def wsX1_isRowOpen : List Cond := .code yX1_isRowOpen cX1_isRowOpen 2 (some .boolean) :: ([.fieldLink RX1 21 "ConcertUsher$Hall" "openRows" "I"] ++ wsX10)
def wsX1_turnRow : List Cond := .code yX1_turnRow cX1_turnRow 2 none :: ([.fieldLink RX1 21 "ConcertUsher$Hall" "openRows" "I"] ++ wsX10)
def wsX1_chiefAsker : List Cond := .code yX1_chiefAsker cX1_chiefAsker 1 (some .int) :: ([.fieldLink RX1 32 "ConcertUsher$Hall" "isSecondPresent" "Z", .fieldLink RX1 29 "ConcertUsher$Hall" "isFirstPresent" "Z"] ++ wsX10)
def wsX1_entriesInAll : List Cond := .code yX1_entriesInAll cX1_entriesInAll 3 (some .int) :: ([.fieldLink RX1 15 "ConcertUsher$Hall" "rests" "[I"] ++ wsX10)
def wsX3_placeOf : List Cond := .code yX3_placeOf cX3_placeOf 2 (some .int) :: ([])
def wsX1_rowsThatGet : List Cond := .code yX1_rowsThatGet cX1_rowsThatGet 4 (some .int) :: ([.fieldLink RX1 21 "ConcertUsher$Hall" "openRows" "I", .fieldLink RX1 15 "ConcertUsher$Hall" "rests" "[I", .static yX3_placeOf, .initialized RX3, .code yX3_placeOf cX3_placeOf 2 (some .int)] ++ wsX10)
def wsX1_rowsThatWant : List Cond := .code yX1_rowsThatWant cX1_rowsThatWant 4 (some .int) :: ([.static yX3_placeOf, .initialized RX3, .code yX3_placeOf cX3_placeOf 2 (some .int), .methodLink RX1 63 yX1_isWantedAt, .instanceMethod yX1_isWantedAt, .selects RX1 yX1_isWantedAt yX1_isWantedAt, .initialized RX1, .code yX1_isWantedAt cX1_isWantedAt 2 (some .boolean), .fieldLink RX1 9 "ConcertUsher$Hall" "listeners" "[I"] ++ wsX10)
def wsX1_fadeEntries : List Cond := .code yX1_fadeEntries cX1_fadeEntries 2 none :: ([.fieldLink RX1 15 "ConcertUsher$Hall" "rests" "[I"] ++ wsX10)
def wsX1_timeBetweenQuestions : List Cond := .code yX1_timeBetweenQuestions cX1_timeBetweenQuestions 1 (some .int) :: ([.fieldLink RX1 41 "ConcertUsher$Hall" "asking" "I", .methodLink RX1 81 yX1_chiefAsker, .instanceMethod yX1_chiefAsker, .selects RX1 yX1_chiefAsker yX1_chiefAsker, .initialized RX1, .code yX1_chiefAsker cX1_chiefAsker 1 (some .int), .fieldLink RX1 32 "ConcertUsher$Hall" "isSecondPresent" "Z", .fieldLink RX1 29 "ConcertUsher$Hall" "isFirstPresent" "Z"] ++ wsX10)
def wsX1_letPass_r1 : List Cond := [Cond.fieldLink RX1 44 "ConcertUsher$Hall" "minutes" "I", Cond.fieldLink RX1 47 "ConcertUsher$Hall" "sinceQuestion" "I", Cond.methodLink RX1 71 yX1_fadeEntries, Cond.instanceMethod yX1_fadeEntries, Cond.selects RX1 yX1_fadeEntries yX1_fadeEntries, Cond.initialized RX1, Cond.code yX1_fadeEntries cX1_fadeEntries 2 none, Cond.fieldLink RX1 15 "ConcertUsher$Hall" "rests" "[I", Cond.methodLink RX1 74 yX1_timeBetweenQuestions, Cond.instanceMethod yX1_timeBetweenQuestions, Cond.selects RX1 yX1_timeBetweenQuestions yX1_timeBetweenQuestions, Cond.code yX1_timeBetweenQuestions cX1_timeBetweenQuestions 1 (some .int), Cond.fieldLink RX1 41 "ConcertUsher$Hall" "asking" "I", Cond.methodLink RX1 81 yX1_chiefAsker, Cond.instanceMethod yX1_chiefAsker, Cond.selects RX1 yX1_chiefAsker yX1_chiefAsker, Cond.code yX1_chiefAsker cX1_chiefAsker 1 (some .int), Cond.fieldLink RX1 32 "ConcertUsher$Hall" "isSecondPresent" "Z", Cond.fieldLink RX1 29 "ConcertUsher$Hall" "isFirstPresent" "Z", Cond.methodLink RX1 78 yX1_askAllRows, Cond.instanceMethod yX1_askAllRows, Cond.selects RX1 yX1_askAllRows yX1_askAllRows, Cond.code yX1_askAllRows cX1_askAllRows 2 none, Cond.fieldLink RX1 18 "ConcertUsher$Hall" "counts" "[I"]
def wsX1_letPass_r2 : List Cond := [Cond.methodLink RX1 56 yX1_hearCall, Cond.instanceMethod yX1_hearCall, Cond.selects RX1 yX1_hearCall yX1_hearCall, Cond.code yX1_hearCall cX1_hearCall 2 none, Cond.fieldLink RX1 9 "ConcertUsher$Hall" "listeners" "[I", Cond.fieldLink RX1 35 "ConcertUsher$Hall" "fading" "I"]
def wsX1_letPass : List Cond := .code yX1_letPass cX1_letPass 4 (some .int) :: ((wsX1_letPass_r1 ++ wsX1_letPass_r2) ++ wsX10)
def wsJ6_bitCount_0f7a4 : List Cond := .code yJ6_bitCount_0f7a4 cJ6_bitCount_0f7a4 1 (some .int) :: ([.constant RJ6 265 (1431655765), .constant RJ6 266 (858993459), .constant RJ6 267 (252645135)])
def wsX1_perform_r1 : List Cond := [Cond.fieldLink RX1 18 "ConcertUsher$Hall" "counts" "[I", Cond.methodLink RX1 84 yX1_rowsThatGet, Cond.instanceMethod yX1_rowsThatGet, Cond.selects RX1 yX1_rowsThatGet yX1_rowsThatGet, Cond.initialized RX1, Cond.code yX1_rowsThatGet cX1_rowsThatGet 4 (some .int), Cond.fieldLink RX1 21 "ConcertUsher$Hall" "openRows" "I", Cond.fieldLink RX1 15 "ConcertUsher$Hall" "rests" "[I", Cond.static yX3_placeOf, Cond.initialized RX3, Cond.code yX3_placeOf cX3_placeOf 2 (some .int), Cond.methodLink RX1 88 yX1_rowsThatWant, Cond.instanceMethod yX1_rowsThatWant, Cond.selects RX1 yX1_rowsThatWant yX1_rowsThatWant, Cond.code yX1_rowsThatWant cX1_rowsThatWant 4 (some .int), Cond.methodLink RX1 63 yX1_isWantedAt, Cond.instanceMethod yX1_isWantedAt, Cond.selects RX1 yX1_isWantedAt yX1_isWantedAt, Cond.code yX1_isWantedAt cX1_isWantedAt 2 (some .boolean), Cond.fieldLink RX1 9 "ConcertUsher$Hall" "listeners" "[I", Cond.methodLink RX1 91 yJ6_bitCount_0f7a4, Cond.static yJ6_bitCount_0f7a4, Cond.initialized RJ6, Cond.code yJ6_bitCount_0f7a4 cJ6_bitCount_0f7a4 1 (some .int)]
def wsX1_perform_r2 : List Cond := [Cond.constant RJ6 265 (1431655765), Cond.constant RJ6 266 (858993459), Cond.constant RJ6 267 (252645135)]
def wsX1_perform : List Cond := .code yX1_perform cX1_perform 4 (some .int) :: ((wsX1_perform_r1 ++ wsX1_perform_r2) ++ wsX10)
def wsX1_asksIn : List Cond := .code yX1_asksIn cX1_asksIn 1 (some .int) :: ([.fieldLink RX1 47 "ConcertUsher$Hall" "sinceQuestion" "I", .methodLink RX1 96 Lib.Math.max.name, .static Lib.Math.max.name, .initialized "java/lang/Math", .code Lib.Math.max.name Lib.Math.max.code 2 (some .int), .methodLink RX1 74 yX1_timeBetweenQuestions, .instanceMethod yX1_timeBetweenQuestions, .selects RX1 yX1_timeBetweenQuestions yX1_timeBetweenQuestions, .initialized RX1, .code yX1_timeBetweenQuestions cX1_timeBetweenQuestions 1 (some .int), .fieldLink RX1 41 "ConcertUsher$Hall" "asking" "I", .methodLink RX1 81 yX1_chiefAsker, .instanceMethod yX1_chiefAsker, .selects RX1 yX1_chiefAsker yX1_chiefAsker, .code yX1_chiefAsker cX1_chiefAsker 1 (some .int), .fieldLink RX1 32 "ConcertUsher$Hall" "isSecondPresent" "Z", .fieldLink RX1 29 "ConcertUsher$Hall" "isFirstPresent" "Z"] ++ wsX10)
def wsX1_fadesIn_r1 : List Cond := [Cond.fieldLink RX1 15 "ConcertUsher$Hall" "rests" "[I", Cond.fieldLink RX1 35 "ConcertUsher$Hall" "fading" "I", Cond.methodLink RX1 101 yX1_asksIn, Cond.instanceMethod yX1_asksIn, Cond.selects RX1 yX1_asksIn yX1_asksIn, Cond.initialized RX1, Cond.code yX1_asksIn cX1_asksIn 1 (some .int), Cond.fieldLink RX1 47 "ConcertUsher$Hall" "sinceQuestion" "I", Cond.methodLink RX1 96 Lib.Math.max.name, Cond.static Lib.Math.max.name, Cond.initialized "java/lang/Math", Cond.code Lib.Math.max.name Lib.Math.max.code 2 (some .int), Cond.methodLink RX1 74 yX1_timeBetweenQuestions, Cond.instanceMethod yX1_timeBetweenQuestions, Cond.selects RX1 yX1_timeBetweenQuestions yX1_timeBetweenQuestions, Cond.code yX1_timeBetweenQuestions cX1_timeBetweenQuestions 1 (some .int), Cond.fieldLink RX1 41 "ConcertUsher$Hall" "asking" "I", Cond.methodLink RX1 81 yX1_chiefAsker, Cond.instanceMethod yX1_chiefAsker, Cond.selects RX1 yX1_chiefAsker yX1_chiefAsker, Cond.code yX1_chiefAsker cX1_chiefAsker 1 (some .int), Cond.fieldLink RX1 32 "ConcertUsher$Hall" "isSecondPresent" "Z", Cond.fieldLink RX1 29 "ConcertUsher$Hall" "isFirstPresent" "Z", Cond.methodLink RX1 63 yX1_isWantedAt]
def wsX1_fadesIn_r2 : List Cond := [Cond.instanceMethod yX1_isWantedAt, Cond.selects RX1 yX1_isWantedAt yX1_isWantedAt, Cond.code yX1_isWantedAt cX1_isWantedAt 2 (some .boolean), Cond.fieldLink RX1 9 "ConcertUsher$Hall" "listeners" "[I"]
def wsX1_fadesIn : List Cond := .code yX1_fadesIn cX1_fadesIn 3 (some .int) :: ((wsX1_fadesIn_r1 ++ wsX1_fadesIn_r2) ++ wsX10)
def wsX2_init_r1 : List Cond := [Cond.methodLink RX2 3 objectInit, Cond.instanceMethod objectInit, Cond.code objectInit ⟨#[0xb1]⟩ 1 none, Cond.classLink RX2 9 RX1, Cond.fieldLink RX2 11 "ConcertUsher$History" "halls" "[LConcertUsher$Hall;", Cond.fieldLink RX2 17 "ConcertUsher$History" "oldest" "I", Cond.fieldLink RX2 21 "ConcertUsher$History" "size" "I", Cond.instantiable RX1 12, Cond.initialized RX1, Cond.instanceMethod yX1_init, Cond.code yX1_init cX1_init 1 none, Cond.methodLink RX1 3 objectInit, Cond.arrayClass .int, Cond.fieldLink RX1 9 "ConcertUsher$Hall" "listeners" "[I", Cond.fieldLink RX1 15 "ConcertUsher$Hall" "rests" "[I", Cond.fieldLink RX1 18 "ConcertUsher$Hall" "counts" "[I", Cond.fieldLink RX1 21 "ConcertUsher$Hall" "openRows" "I", Cond.fieldLink RX1 25 "ConcertUsher$Hall" "isQuick" "Z", Cond.fieldLink RX1 29 "ConcertUsher$Hall" "isFirstPresent" "Z", Cond.fieldLink RX1 32 "ConcertUsher$Hall" "isSecondPresent" "Z", Cond.fieldLink RX1 35 "ConcertUsher$Hall" "fading" "I", Cond.fieldLink RX1 38 "ConcertUsher$Hall" "patience" "I", Cond.fieldLink RX1 41 "ConcertUsher$Hall" "asking" "I", Cond.fieldLink RX1 44 "ConcertUsher$Hall" "minutes" "I"]
def wsX2_init_r2 : List Cond := [Cond.fieldLink RX1 47 "ConcertUsher$Hall" "sinceQuestion" "I"]
def wsX2_init : List Cond := .code yX2_init cX2_init 2 none :: ((wsX2_init_r1 ++ wsX2_init_r2) ++ wsX20 ++ wsX10)
def wsX2_keep : List Cond := .code yX2_keep cX2_keep 2 none :: ([.fieldLink RX2 21 "ConcertUsher$History" "size" "I", .fieldLink RX2 17 "ConcertUsher$History" "oldest" "I", .fieldLink RX2 11 "ConcertUsher$History" "halls" "[LConcertUsher$Hall;", .methodLink RX2 25 yX1_copyFrom, .instanceMethod yX1_copyFrom, .selects RX1 yX1_copyFrom yX1_copyFrom, .initialized RX1, .code yX1_copyFrom cX1_copyFrom 2 none, .fieldLink RX1 9 "ConcertUsher$Hall" "listeners" "[I", .methodLink RX1 50 arraycopyName, .native arraycopyName, .static arraycopyName, .initialized "java/lang/System", .fieldLink RX1 15 "ConcertUsher$Hall" "rests" "[I", .fieldLink RX1 18 "ConcertUsher$Hall" "counts" "[I", .fieldLink RX1 21 "ConcertUsher$Hall" "openRows" "I", .fieldLink RX1 25 "ConcertUsher$Hall" "isQuick" "Z", .fieldLink RX1 29 "ConcertUsher$Hall" "isFirstPresent" "Z", .fieldLink RX1 32 "ConcertUsher$Hall" "isSecondPresent" "Z", .fieldLink RX1 35 "ConcertUsher$Hall" "fading" "I", .fieldLink RX1 38 "ConcertUsher$Hall" "patience" "I", .fieldLink RX1 41 "ConcertUsher$Hall" "asking" "I", .fieldLink RX1 44 "ConcertUsher$Hall" "minutes" "I", .fieldLink RX1 47 "ConcertUsher$Hall" "sinceQuestion" "I"] ++ wsX20 ++ wsX10)
def wsX2_takeBack : List Cond := .code yX2_takeBack cX2_takeBack 2 none :: ([.fieldLink RX2 21 "ConcertUsher$History" "size" "I", .fieldLink RX2 11 "ConcertUsher$History" "halls" "[LConcertUsher$Hall;", .fieldLink RX2 17 "ConcertUsher$History" "oldest" "I", .methodLink RX2 25 yX1_copyFrom, .instanceMethod yX1_copyFrom, .selects RX1 yX1_copyFrom yX1_copyFrom, .initialized RX1, .code yX1_copyFrom cX1_copyFrom 2 none, .fieldLink RX1 9 "ConcertUsher$Hall" "listeners" "[I", .methodLink RX1 50 arraycopyName, .native arraycopyName, .static arraycopyName, .initialized "java/lang/System", .fieldLink RX1 15 "ConcertUsher$Hall" "rests" "[I", .fieldLink RX1 18 "ConcertUsher$Hall" "counts" "[I", .fieldLink RX1 21 "ConcertUsher$Hall" "openRows" "I", .fieldLink RX1 25 "ConcertUsher$Hall" "isQuick" "Z", .fieldLink RX1 29 "ConcertUsher$Hall" "isFirstPresent" "Z", .fieldLink RX1 32 "ConcertUsher$Hall" "isSecondPresent" "Z", .fieldLink RX1 35 "ConcertUsher$Hall" "fading" "I", .fieldLink RX1 38 "ConcertUsher$Hall" "patience" "I", .fieldLink RX1 41 "ConcertUsher$Hall" "asking" "I", .fieldLink RX1 44 "ConcertUsher$Hall" "minutes" "I", .fieldLink RX1 47 "ConcertUsher$Hall" "sinceQuestion" "I"] ++ wsX20 ++ wsX10)
def wsX3_init_r1 : List Cond := [Cond.methodLink RX3 3 objectInit, Cond.instanceMethod objectInit, Cond.code objectInit ⟨#[0xb1]⟩ 1 none, Cond.classLink RX3 9 RX1, Cond.instantiable RX1 12, Cond.initialized RX1, Cond.fieldLink RX3 12 "ConcertUsher" "hall" "LConcertUsher$Hall;", Cond.classLink RX3 16 RX2, Cond.instantiable RX2 3, Cond.initialized RX2, Cond.fieldLink RX3 19 "ConcertUsher" "history" "LConcertUsher$History;", Cond.classLink RX3 23 RX0, Cond.instantiable RX0 2, Cond.initialized RX0, Cond.fieldLink RX3 26 "ConcertUsher" "text" "LConcertUsher$EventText;", Cond.instanceMethod yX1_init, Cond.code yX1_init cX1_init 1 none, Cond.methodLink RX1 3 objectInit, Cond.arrayClass .int, Cond.fieldLink RX1 9 "ConcertUsher$Hall" "listeners" "[I", Cond.fieldLink RX1 15 "ConcertUsher$Hall" "rests" "[I", Cond.fieldLink RX1 18 "ConcertUsher$Hall" "counts" "[I", Cond.fieldLink RX1 21 "ConcertUsher$Hall" "openRows" "I", Cond.fieldLink RX1 25 "ConcertUsher$Hall" "isQuick" "Z"]
def wsX3_init_r2 : List Cond := [Cond.fieldLink RX1 29 "ConcertUsher$Hall" "isFirstPresent" "Z", Cond.fieldLink RX1 32 "ConcertUsher$Hall" "isSecondPresent" "Z", Cond.fieldLink RX1 35 "ConcertUsher$Hall" "fading" "I", Cond.fieldLink RX1 38 "ConcertUsher$Hall" "patience" "I", Cond.fieldLink RX1 41 "ConcertUsher$Hall" "asking" "I", Cond.fieldLink RX1 44 "ConcertUsher$Hall" "minutes" "I", Cond.fieldLink RX1 47 "ConcertUsher$Hall" "sinceQuestion" "I", Cond.methodLink RX3 18 yX2_init, Cond.instanceMethod yX2_init, Cond.code yX2_init cX2_init 2 none, Cond.methodLink RX2 3 objectInit, Cond.classLink RX2 9 RX1, Cond.fieldLink RX2 11 "ConcertUsher$History" "halls" "[LConcertUsher$Hall;", Cond.fieldLink RX2 17 "ConcertUsher$History" "oldest" "I", Cond.fieldLink RX2 21 "ConcertUsher$History" "size" "I", Cond.instanceMethod yX0_init, Cond.code yX0_init cX0_init 1 none, Cond.methodLink RX0 3 objectInit, Cond.arrayClass .char, Cond.fieldLink RX0 9 "ConcertUsher$EventText" "signs" "[C", Cond.fieldLink RX0 15 "ConcertUsher$EventText" "length" "I"]
def wsX3_init : List Cond := .code yX3_init cX3_init 1 none :: ((wsX3_init_r1 ++ wsX3_init_r2) ++ wsX10 ++ wsX30 ++ wsX20 ++ wsX00)
def wsX3_isRow : List Cond := .code yX3_isRow cX3_isRow 1 (some .boolean) :: ([])
def wsX3_checkRow : List Cond := .code yX3_checkRow cX3_checkRow 1 none :: ([.classLink RX3 101 "java/lang/IndexOutOfBoundsException", .initialized "java/lang/IndexOutOfBoundsException", .methodLink RX3 200 yX3_isRow, .static yX3_isRow, .initialized RX3, .code yX3_isRow cX3_isRow 1 (some .boolean)] ++ (vx_atS RX3 105 "java/lang/IndexOutOfBoundsException" ["java/lang/RuntimeException", "java/lang/Exception"]).filter goodWord)
def wsX3_isConcert : List Cond := .code yX3_isConcert cX3_isConcert 1 (some .boolean) :: ([])
def wsX3_checkConcert : List Cond := .code yX3_checkConcert cX3_checkConcert 1 none :: ([.classLink RX3 101 "java/lang/IndexOutOfBoundsException", .initialized "java/lang/IndexOutOfBoundsException", .methodLink RX3 205 yX3_isConcert, .static yX3_isConcert, .initialized RX3, .code yX3_isConcert cX3_isConcert 1 (some .boolean)] ++ (vx_atS RX3 105 "java/lang/IndexOutOfBoundsException" ["java/lang/RuntimeException", "java/lang/Exception"]).filter goodWord)
def wsX3_come_r1 : List Cond := [Cond.classLink RX3 45 "java/lang/IllegalStateException", Cond.initialized "java/lang/IllegalStateException", Cond.fieldLink RX3 12 "ConcertUsher" "hall" "LConcertUsher$Hall;", Cond.fieldLink RX3 19 "ConcertUsher" "history" "LConcertUsher$History;", Cond.fieldLink RX3 59 "ConcertUsher$Hall" "listeners" "[I", Cond.methodLink RX3 30 yX3_checkRow, Cond.static yX3_checkRow, Cond.initialized RX3, Cond.code yX3_checkRow cX3_checkRow 1 none, Cond.classLink RX3 101 "java/lang/IndexOutOfBoundsException", Cond.initialized "java/lang/IndexOutOfBoundsException", Cond.methodLink RX3 200 yX3_isRow, Cond.static yX3_isRow, Cond.code yX3_isRow cX3_isRow 1 (some .boolean), Cond.methodLink RX3 34 yX3_checkConcert, Cond.static yX3_checkConcert, Cond.code yX3_checkConcert cX3_checkConcert 1 none, Cond.methodLink RX3 205 yX3_isConcert, Cond.static yX3_isConcert, Cond.code yX3_isConcert cX3_isConcert 1 (some .boolean), Cond.methodLink RX3 37 yX3_placeOf, Cond.static yX3_placeOf, Cond.code yX3_placeOf cX3_placeOf 2 (some .int), Cond.methodLink RX3 41 yX1_hasRoom]
def wsX3_come_r2 : List Cond := [Cond.instanceMethod yX1_hasRoom, Cond.selects RX1 yX1_hasRoom yX1_hasRoom, Cond.initialized RX1, Cond.code yX1_hasRoom cX1_hasRoom 2 (some .boolean), Cond.fieldLink RX1 9 "ConcertUsher$Hall" "listeners" "[I", Cond.methodLink RX3 52 yX2_keep, Cond.instanceMethod yX2_keep, Cond.selects RX2 yX2_keep yX2_keep, Cond.initialized RX2, Cond.code yX2_keep cX2_keep 2 none, Cond.fieldLink RX2 21 "ConcertUsher$History" "size" "I", Cond.fieldLink RX2 17 "ConcertUsher$History" "oldest" "I", Cond.fieldLink RX2 11 "ConcertUsher$History" "halls" "[LConcertUsher$Hall;", Cond.methodLink RX2 25 yX1_copyFrom, Cond.instanceMethod yX1_copyFrom, Cond.selects RX1 yX1_copyFrom yX1_copyFrom, Cond.code yX1_copyFrom cX1_copyFrom 2 none, Cond.methodLink RX1 50 arraycopyName, Cond.native arraycopyName, Cond.static arraycopyName, Cond.initialized "java/lang/System", Cond.fieldLink RX1 15 "ConcertUsher$Hall" "rests" "[I", Cond.fieldLink RX1 18 "ConcertUsher$Hall" "counts" "[I", Cond.fieldLink RX1 21 "ConcertUsher$Hall" "openRows" "I"]
def wsX3_come_r3 : List Cond := [Cond.fieldLink RX1 25 "ConcertUsher$Hall" "isQuick" "Z", Cond.fieldLink RX1 29 "ConcertUsher$Hall" "isFirstPresent" "Z", Cond.fieldLink RX1 32 "ConcertUsher$Hall" "isSecondPresent" "Z", Cond.fieldLink RX1 35 "ConcertUsher$Hall" "fading" "I", Cond.fieldLink RX1 38 "ConcertUsher$Hall" "patience" "I", Cond.fieldLink RX1 41 "ConcertUsher$Hall" "asking" "I", Cond.fieldLink RX1 44 "ConcertUsher$Hall" "minutes" "I", Cond.fieldLink RX1 47 "ConcertUsher$Hall" "sinceQuestion" "I", Cond.methodLink RX3 56 yX1_seat, Cond.instanceMethod yX1_seat, Cond.selects RX1 yX1_seat yX1_seat, Cond.code yX1_seat cX1_seat 2 none, Cond.methodLink RX1 56 yX1_hearCall, Cond.instanceMethod yX1_hearCall, Cond.selects RX1 yX1_hearCall yX1_hearCall, Cond.code yX1_hearCall cX1_hearCall 2 none]
def wsX3_come : List Cond := .code yX3_come cX3_come 4 (some .int) :: ((wsX3_come_r1 ++ (wsX3_come_r2 ++ wsX3_come_r3)) ++ wsX30 ++ wsX10 ++ wsX20 ++ (vx_atS RX3 49 "java/lang/IllegalStateException" ["java/lang/RuntimeException", "java/lang/Exception"]).filter goodWord ++ (vx_atS RX3 105 "java/lang/IndexOutOfBoundsException" ["java/lang/RuntimeException", "java/lang/Exception"]).filter goodWord)
def wsX3_leave_r1 : List Cond := [Cond.classLink RX3 45 "java/lang/IllegalStateException", Cond.initialized "java/lang/IllegalStateException", Cond.fieldLink RX3 12 "ConcertUsher" "hall" "LConcertUsher$Hall;", Cond.fieldLink RX3 19 "ConcertUsher" "history" "LConcertUsher$History;", Cond.fieldLink RX3 59 "ConcertUsher$Hall" "listeners" "[I", Cond.methodLink RX3 30 yX3_checkRow, Cond.static yX3_checkRow, Cond.initialized RX3, Cond.code yX3_checkRow cX3_checkRow 1 none, Cond.classLink RX3 101 "java/lang/IndexOutOfBoundsException", Cond.initialized "java/lang/IndexOutOfBoundsException", Cond.methodLink RX3 200 yX3_isRow, Cond.static yX3_isRow, Cond.code yX3_isRow cX3_isRow 1 (some .boolean), Cond.methodLink RX3 34 yX3_checkConcert, Cond.static yX3_checkConcert, Cond.code yX3_checkConcert cX3_checkConcert 1 none, Cond.methodLink RX3 205 yX3_isConcert, Cond.static yX3_isConcert, Cond.code yX3_isConcert cX3_isConcert 1 (some .boolean), Cond.methodLink RX3 37 yX3_placeOf, Cond.static yX3_placeOf, Cond.code yX3_placeOf cX3_placeOf 2 (some .int), Cond.methodLink RX3 63 yX1_isWantedAt]
def wsX3_leave_r2 : List Cond := [Cond.instanceMethod yX1_isWantedAt, Cond.selects RX1 yX1_isWantedAt yX1_isWantedAt, Cond.initialized RX1, Cond.code yX1_isWantedAt cX1_isWantedAt 2 (some .boolean), Cond.fieldLink RX1 9 "ConcertUsher$Hall" "listeners" "[I", Cond.methodLink RX3 52 yX2_keep, Cond.instanceMethod yX2_keep, Cond.selects RX2 yX2_keep yX2_keep, Cond.initialized RX2, Cond.code yX2_keep cX2_keep 2 none, Cond.fieldLink RX2 21 "ConcertUsher$History" "size" "I", Cond.fieldLink RX2 17 "ConcertUsher$History" "oldest" "I", Cond.fieldLink RX2 11 "ConcertUsher$History" "halls" "[LConcertUsher$Hall;", Cond.methodLink RX2 25 yX1_copyFrom, Cond.instanceMethod yX1_copyFrom, Cond.selects RX1 yX1_copyFrom yX1_copyFrom, Cond.code yX1_copyFrom cX1_copyFrom 2 none, Cond.methodLink RX1 50 arraycopyName, Cond.native arraycopyName, Cond.static arraycopyName, Cond.initialized "java/lang/System", Cond.fieldLink RX1 15 "ConcertUsher$Hall" "rests" "[I", Cond.fieldLink RX1 18 "ConcertUsher$Hall" "counts" "[I", Cond.fieldLink RX1 21 "ConcertUsher$Hall" "openRows" "I"]
def wsX3_leave_r3 : List Cond := [Cond.fieldLink RX1 25 "ConcertUsher$Hall" "isQuick" "Z", Cond.fieldLink RX1 29 "ConcertUsher$Hall" "isFirstPresent" "Z", Cond.fieldLink RX1 32 "ConcertUsher$Hall" "isSecondPresent" "Z", Cond.fieldLink RX1 35 "ConcertUsher$Hall" "fading" "I", Cond.fieldLink RX1 38 "ConcertUsher$Hall" "patience" "I", Cond.fieldLink RX1 41 "ConcertUsher$Hall" "asking" "I", Cond.fieldLink RX1 44 "ConcertUsher$Hall" "minutes" "I", Cond.fieldLink RX1 47 "ConcertUsher$Hall" "sinceQuestion" "I", Cond.methodLink RX3 68 yX1_unseat, Cond.instanceMethod yX1_unseat, Cond.selects RX1 yX1_unseat yX1_unseat, Cond.code yX1_unseat cX1_unseat 3 none, Cond.methodLink RX1 60 yX1_hearFarewell, Cond.instanceMethod yX1_hearFarewell, Cond.selects RX1 yX1_hearFarewell yX1_hearFarewell, Cond.code yX1_hearFarewell cX1_hearFarewell 2 none, Cond.methodLink RX1 63 yX1_isWantedAt, Cond.methodLink RX1 56 yX1_hearCall, Cond.instanceMethod yX1_hearCall, Cond.selects RX1 yX1_hearCall yX1_hearCall, Cond.code yX1_hearCall cX1_hearCall 2 none]
def wsX3_leave : List Cond := .code yX3_leave cX3_leave 5 (some .int) :: ((wsX3_leave_r1 ++ (wsX3_leave_r2 ++ wsX3_leave_r3)) ++ wsX30 ++ wsX10 ++ wsX20 ++ (vx_atS RX3 49 "java/lang/IllegalStateException" ["java/lang/RuntimeException", "java/lang/Exception"]).filter goodWord ++ (vx_atS RX3 105 "java/lang/IndexOutOfBoundsException" ["java/lang/RuntimeException", "java/lang/Exception"]).filter goodWord)
def wsX3_listeners : List Cond := .code yX3_listeners cX3_listeners 3 (some .int) :: ([.fieldLink RX3 12 "ConcertUsher" "hall" "LConcertUsher$Hall;", .fieldLink RX3 59 "ConcertUsher$Hall" "listeners" "[I", .methodLink RX3 30 yX3_checkRow, .static yX3_checkRow, .initialized RX3, .code yX3_checkRow cX3_checkRow 1 none, .classLink RX3 101 "java/lang/IndexOutOfBoundsException", .initialized "java/lang/IndexOutOfBoundsException", .methodLink RX3 200 yX3_isRow, .static yX3_isRow, .code yX3_isRow cX3_isRow 1 (some .boolean), .methodLink RX3 34 yX3_checkConcert, .static yX3_checkConcert, .code yX3_checkConcert cX3_checkConcert 1 none, .methodLink RX3 205 yX3_isConcert, .static yX3_isConcert, .code yX3_isConcert cX3_isConcert 1 (some .boolean), .methodLink RX3 37 yX3_placeOf, .static yX3_placeOf, .code yX3_placeOf cX3_placeOf 2 (some .int)] ++ wsX30 ++ wsX10 ++ (vx_atS RX3 105 "java/lang/IndexOutOfBoundsException" ["java/lang/RuntimeException", "java/lang/Exception"]).filter goodWord)
def wsX3_setOpen_r1 : List Cond := [Cond.fieldLink RX3 19 "ConcertUsher" "history" "LConcertUsher$History;", Cond.fieldLink RX3 12 "ConcertUsher" "hall" "LConcertUsher$Hall;", Cond.methodLink RX3 30 yX3_checkRow, Cond.static yX3_checkRow, Cond.initialized RX3, Cond.code yX3_checkRow cX3_checkRow 1 none, Cond.classLink RX3 101 "java/lang/IndexOutOfBoundsException", Cond.initialized "java/lang/IndexOutOfBoundsException", Cond.methodLink RX3 200 yX3_isRow, Cond.static yX3_isRow, Cond.code yX3_isRow cX3_isRow 1 (some .boolean), Cond.methodLink RX3 52 yX2_keep, Cond.instanceMethod yX2_keep, Cond.selects RX2 yX2_keep yX2_keep, Cond.initialized RX2, Cond.code yX2_keep cX2_keep 2 none, Cond.fieldLink RX2 21 "ConcertUsher$History" "size" "I", Cond.fieldLink RX2 17 "ConcertUsher$History" "oldest" "I", Cond.fieldLink RX2 11 "ConcertUsher$History" "halls" "[LConcertUsher$Hall;", Cond.methodLink RX2 25 yX1_copyFrom, Cond.instanceMethod yX1_copyFrom, Cond.selects RX1 yX1_copyFrom yX1_copyFrom, Cond.initialized RX1, Cond.code yX1_copyFrom cX1_copyFrom 2 none]
def wsX3_setOpen_r2 : List Cond := [Cond.fieldLink RX1 9 "ConcertUsher$Hall" "listeners" "[I", Cond.methodLink RX1 50 arraycopyName, Cond.native arraycopyName, Cond.static arraycopyName, Cond.initialized "java/lang/System", Cond.fieldLink RX1 15 "ConcertUsher$Hall" "rests" "[I", Cond.fieldLink RX1 18 "ConcertUsher$Hall" "counts" "[I", Cond.fieldLink RX1 21 "ConcertUsher$Hall" "openRows" "I", Cond.fieldLink RX1 25 "ConcertUsher$Hall" "isQuick" "Z", Cond.fieldLink RX1 29 "ConcertUsher$Hall" "isFirstPresent" "Z", Cond.fieldLink RX1 32 "ConcertUsher$Hall" "isSecondPresent" "Z", Cond.fieldLink RX1 35 "ConcertUsher$Hall" "fading" "I", Cond.fieldLink RX1 38 "ConcertUsher$Hall" "patience" "I", Cond.fieldLink RX1 41 "ConcertUsher$Hall" "asking" "I", Cond.fieldLink RX1 44 "ConcertUsher$Hall" "minutes" "I", Cond.fieldLink RX1 47 "ConcertUsher$Hall" "sinceQuestion" "I", Cond.methodLink RX3 72 yX1_isRowOpen, Cond.instanceMethod yX1_isRowOpen, Cond.selects RX1 yX1_isRowOpen yX1_isRowOpen, Cond.code yX1_isRowOpen cX1_isRowOpen 2 (some .boolean), Cond.methodLink RX3 75 yX1_turnRow, Cond.instanceMethod yX1_turnRow, Cond.selects RX1 yX1_turnRow yX1_turnRow, Cond.code yX1_turnRow cX1_turnRow 2 none]
def wsX3_setOpen : List Cond := .code yX3_setOpen cX3_setOpen 4 (some .boolean) :: ((wsX3_setOpen_r1 ++ wsX3_setOpen_r2) ++ wsX30 ++ wsX20 ++ wsX10 ++ (vx_atS RX3 105 "java/lang/IndexOutOfBoundsException" ["java/lang/RuntimeException", "java/lang/Exception"]).filter goodWord)
def wsX3_setQuick_r1 : List Cond := [Cond.fieldLink RX3 19 "ConcertUsher" "history" "LConcertUsher$History;", Cond.fieldLink RX3 12 "ConcertUsher" "hall" "LConcertUsher$Hall;", Cond.fieldLink RX3 78 "ConcertUsher$Hall" "isQuick" "Z", Cond.methodLink RX3 52 yX2_keep, Cond.instanceMethod yX2_keep, Cond.selects RX2 yX2_keep yX2_keep, Cond.initialized RX2, Cond.code yX2_keep cX2_keep 2 none, Cond.fieldLink RX2 21 "ConcertUsher$History" "size" "I", Cond.fieldLink RX2 17 "ConcertUsher$History" "oldest" "I", Cond.fieldLink RX2 11 "ConcertUsher$History" "halls" "[LConcertUsher$Hall;", Cond.methodLink RX2 25 yX1_copyFrom, Cond.instanceMethod yX1_copyFrom, Cond.selects RX1 yX1_copyFrom yX1_copyFrom, Cond.initialized RX1, Cond.code yX1_copyFrom cX1_copyFrom 2 none, Cond.fieldLink RX1 9 "ConcertUsher$Hall" "listeners" "[I", Cond.methodLink RX1 50 arraycopyName, Cond.native arraycopyName, Cond.static arraycopyName, Cond.initialized "java/lang/System", Cond.fieldLink RX1 15 "ConcertUsher$Hall" "rests" "[I", Cond.fieldLink RX1 18 "ConcertUsher$Hall" "counts" "[I", Cond.fieldLink RX1 21 "ConcertUsher$Hall" "openRows" "I"]
def wsX3_setQuick_r2 : List Cond := [Cond.fieldLink RX1 25 "ConcertUsher$Hall" "isQuick" "Z", Cond.fieldLink RX1 29 "ConcertUsher$Hall" "isFirstPresent" "Z", Cond.fieldLink RX1 32 "ConcertUsher$Hall" "isSecondPresent" "Z", Cond.fieldLink RX1 35 "ConcertUsher$Hall" "fading" "I", Cond.fieldLink RX1 38 "ConcertUsher$Hall" "patience" "I", Cond.fieldLink RX1 41 "ConcertUsher$Hall" "asking" "I", Cond.fieldLink RX1 44 "ConcertUsher$Hall" "minutes" "I", Cond.fieldLink RX1 47 "ConcertUsher$Hall" "sinceQuestion" "I"]
def wsX3_setQuick : List Cond := .code yX3_setQuick cX3_setQuick 3 (some .boolean) :: ((wsX3_setQuick_r1 ++ wsX3_setQuick_r2) ++ wsX30 ++ wsX10 ++ wsX20)
def wsX3_setTimes_r1 : List Cond := [Cond.classLink RX3 82 "java/lang/IllegalArgumentException", Cond.initialized "java/lang/IllegalArgumentException", Cond.fieldLink RX3 19 "ConcertUsher" "history" "LConcertUsher$History;", Cond.fieldLink RX3 12 "ConcertUsher" "hall" "LConcertUsher$Hall;", Cond.fieldLink RX3 91 "ConcertUsher$Hall" "fading" "I", Cond.fieldLink RX3 95 "ConcertUsher$Hall" "patience" "I", Cond.fieldLink RX3 98 "ConcertUsher$Hall" "asking" "I", Cond.methodLink RX3 52 yX2_keep, Cond.instanceMethod yX2_keep, Cond.selects RX2 yX2_keep yX2_keep, Cond.initialized RX2, Cond.code yX2_keep cX2_keep 2 none, Cond.fieldLink RX2 21 "ConcertUsher$History" "size" "I", Cond.fieldLink RX2 17 "ConcertUsher$History" "oldest" "I", Cond.fieldLink RX2 11 "ConcertUsher$History" "halls" "[LConcertUsher$Hall;", Cond.methodLink RX2 25 yX1_copyFrom, Cond.instanceMethod yX1_copyFrom, Cond.selects RX1 yX1_copyFrom yX1_copyFrom, Cond.initialized RX1, Cond.code yX1_copyFrom cX1_copyFrom 2 none, Cond.fieldLink RX1 9 "ConcertUsher$Hall" "listeners" "[I", Cond.methodLink RX1 50 arraycopyName, Cond.native arraycopyName, Cond.static arraycopyName]
def wsX3_setTimes_r2 : List Cond := [Cond.initialized "java/lang/System", Cond.fieldLink RX1 15 "ConcertUsher$Hall" "rests" "[I", Cond.fieldLink RX1 18 "ConcertUsher$Hall" "counts" "[I", Cond.fieldLink RX1 21 "ConcertUsher$Hall" "openRows" "I", Cond.fieldLink RX1 25 "ConcertUsher$Hall" "isQuick" "Z", Cond.fieldLink RX1 29 "ConcertUsher$Hall" "isFirstPresent" "Z", Cond.fieldLink RX1 32 "ConcertUsher$Hall" "isSecondPresent" "Z", Cond.fieldLink RX1 35 "ConcertUsher$Hall" "fading" "I", Cond.fieldLink RX1 38 "ConcertUsher$Hall" "patience" "I", Cond.fieldLink RX1 41 "ConcertUsher$Hall" "asking" "I", Cond.fieldLink RX1 44 "ConcertUsher$Hall" "minutes" "I", Cond.fieldLink RX1 47 "ConcertUsher$Hall" "sinceQuestion" "I"]
def wsX3_setTimes : List Cond := .code yX3_setTimes cX3_setTimes 5 (some .int) :: ((wsX3_setTimes_r1 ++ wsX3_setTimes_r2) ++ wsX30 ++ wsX10 ++ wsX20 ++ (vx_atS RX3 86 "java/lang/IllegalArgumentException" ["java/lang/RuntimeException", "java/lang/Exception"]).filter goodWord)
def wsX3_setPresent_r1 : List Cond := [Cond.classLink RX3 101 "java/lang/IndexOutOfBoundsException", Cond.initialized "java/lang/IndexOutOfBoundsException", Cond.fieldLink RX3 19 "ConcertUsher" "history" "LConcertUsher$History;", Cond.fieldLink RX3 12 "ConcertUsher" "hall" "LConcertUsher$Hall;", Cond.fieldLink RX3 106 "ConcertUsher$Hall" "isFirstPresent" "Z", Cond.fieldLink RX3 109 "ConcertUsher$Hall" "isSecondPresent" "Z", Cond.methodLink RX3 52 yX2_keep, Cond.instanceMethod yX2_keep, Cond.selects RX2 yX2_keep yX2_keep, Cond.initialized RX2, Cond.code yX2_keep cX2_keep 2 none, Cond.fieldLink RX2 21 "ConcertUsher$History" "size" "I", Cond.fieldLink RX2 17 "ConcertUsher$History" "oldest" "I", Cond.fieldLink RX2 11 "ConcertUsher$History" "halls" "[LConcertUsher$Hall;", Cond.methodLink RX2 25 yX1_copyFrom, Cond.instanceMethod yX1_copyFrom, Cond.selects RX1 yX1_copyFrom yX1_copyFrom, Cond.initialized RX1, Cond.code yX1_copyFrom cX1_copyFrom 2 none, Cond.fieldLink RX1 9 "ConcertUsher$Hall" "listeners" "[I", Cond.methodLink RX1 50 arraycopyName, Cond.native arraycopyName, Cond.static arraycopyName, Cond.initialized "java/lang/System"]
def wsX3_setPresent_r2 : List Cond := [Cond.fieldLink RX1 15 "ConcertUsher$Hall" "rests" "[I", Cond.fieldLink RX1 18 "ConcertUsher$Hall" "counts" "[I", Cond.fieldLink RX1 21 "ConcertUsher$Hall" "openRows" "I", Cond.fieldLink RX1 25 "ConcertUsher$Hall" "isQuick" "Z", Cond.fieldLink RX1 29 "ConcertUsher$Hall" "isFirstPresent" "Z", Cond.fieldLink RX1 32 "ConcertUsher$Hall" "isSecondPresent" "Z", Cond.fieldLink RX1 35 "ConcertUsher$Hall" "fading" "I", Cond.fieldLink RX1 38 "ConcertUsher$Hall" "patience" "I", Cond.fieldLink RX1 41 "ConcertUsher$Hall" "asking" "I", Cond.fieldLink RX1 44 "ConcertUsher$Hall" "minutes" "I", Cond.fieldLink RX1 47 "ConcertUsher$Hall" "sinceQuestion" "I", Cond.methodLink RX3 112 yX1_chiefAsker, Cond.instanceMethod yX1_chiefAsker, Cond.selects RX1 yX1_chiefAsker yX1_chiefAsker, Cond.code yX1_chiefAsker cX1_chiefAsker 1 (some .int)]
def wsX3_setPresent : List Cond := .code yX3_setPresent cX3_setPresent 3 (some .int) :: ((wsX3_setPresent_r1 ++ wsX3_setPresent_r2) ++ wsX30 ++ wsX10 ++ wsX20 ++ (vx_atS RX3 105 "java/lang/IndexOutOfBoundsException" ["java/lang/RuntimeException", "java/lang/Exception"]).filter goodWord)
def wsX3_chief : List Cond := .code yX3_chief cX3_chief 1 (some .int) :: ([.fieldLink RX3 12 "ConcertUsher" "hall" "LConcertUsher$Hall;", .methodLink RX3 112 yX1_chiefAsker, .instanceMethod yX1_chiefAsker, .selects RX1 yX1_chiefAsker yX1_chiefAsker, .initialized RX1, .code yX1_chiefAsker cX1_chiefAsker 1 (some .int), .fieldLink RX1 32 "ConcertUsher$Hall" "isSecondPresent" "Z", .fieldLink RX1 29 "ConcertUsher$Hall" "isFirstPresent" "Z"] ++ wsX30 ++ wsX10)
def wsX3_rest : List Cond := .code yX3_rest cX3_rest 3 (some .int) :: ([.fieldLink RX3 12 "ConcertUsher" "hall" "LConcertUsher$Hall;", .fieldLink RX3 116 "ConcertUsher$Hall" "rests" "[I", .methodLink RX3 30 yX3_checkRow, .static yX3_checkRow, .initialized RX3, .code yX3_checkRow cX3_checkRow 1 none, .classLink RX3 101 "java/lang/IndexOutOfBoundsException", .initialized "java/lang/IndexOutOfBoundsException", .methodLink RX3 200 yX3_isRow, .static yX3_isRow, .code yX3_isRow cX3_isRow 1 (some .boolean), .methodLink RX3 34 yX3_checkConcert, .static yX3_checkConcert, .code yX3_checkConcert cX3_checkConcert 1 none, .methodLink RX3 205 yX3_isConcert, .static yX3_isConcert, .code yX3_isConcert cX3_isConcert 1 (some .boolean), .methodLink RX3 37 yX3_placeOf, .static yX3_placeOf, .code yX3_placeOf cX3_placeOf 2 (some .int)] ++ wsX30 ++ wsX10 ++ (vx_atS RX3 105 "java/lang/IndexOutOfBoundsException" ["java/lang/RuntimeException", "java/lang/Exception"]).filter goodWord)
def wsX3_entries : List Cond := .code yX3_entries cX3_entries 1 (some .int) :: ([.fieldLink RX3 12 "ConcertUsher" "hall" "LConcertUsher$Hall;", .methodLink RX3 119 yX1_entriesInAll, .instanceMethod yX1_entriesInAll, .selects RX1 yX1_entriesInAll yX1_entriesInAll, .initialized RX1, .code yX1_entriesInAll cX1_entriesInAll 3 (some .int), .fieldLink RX1 15 "ConcertUsher$Hall" "rests" "[I"] ++ wsX30 ++ wsX10)
def wsX3_isOpen : List Cond := .code yX3_isOpen cX3_isOpen 2 (some .boolean) :: ([.fieldLink RX3 12 "ConcertUsher" "hall" "LConcertUsher$Hall;", .methodLink RX3 30 yX3_checkRow, .static yX3_checkRow, .initialized RX3, .code yX3_checkRow cX3_checkRow 1 none, .classLink RX3 101 "java/lang/IndexOutOfBoundsException", .initialized "java/lang/IndexOutOfBoundsException", .methodLink RX3 200 yX3_isRow, .static yX3_isRow, .code yX3_isRow cX3_isRow 1 (some .boolean), .methodLink RX3 72 yX1_isRowOpen, .instanceMethod yX1_isRowOpen, .selects RX1 yX1_isRowOpen yX1_isRowOpen, .initialized RX1, .code yX1_isRowOpen cX1_isRowOpen 2 (some .boolean), .fieldLink RX1 21 "ConcertUsher$Hall" "openRows" "I"] ++ wsX30 ++ wsX10 ++ (vx_atS RX3 105 "java/lang/IndexOutOfBoundsException" ["java/lang/RuntimeException", "java/lang/Exception"]).filter goodWord)
def wsX3_rows : List Cond := .code yX3_rows cX3_rows 2 (some .int) :: ([.fieldLink RX3 12 "ConcertUsher" "hall" "LConcertUsher$Hall;", .methodLink RX3 34 yX3_checkConcert, .static yX3_checkConcert, .initialized RX3, .code yX3_checkConcert cX3_checkConcert 1 none, .classLink RX3 101 "java/lang/IndexOutOfBoundsException", .initialized "java/lang/IndexOutOfBoundsException", .methodLink RX3 205 yX3_isConcert, .static yX3_isConcert, .code yX3_isConcert cX3_isConcert 1 (some .boolean), .methodLink RX3 122 yX1_rowsThatGet, .instanceMethod yX1_rowsThatGet, .selects RX1 yX1_rowsThatGet yX1_rowsThatGet, .initialized RX1, .code yX1_rowsThatGet cX1_rowsThatGet 4 (some .int), .fieldLink RX1 21 "ConcertUsher$Hall" "openRows" "I", .fieldLink RX1 15 "ConcertUsher$Hall" "rests" "[I", .static yX3_placeOf, .code yX3_placeOf cX3_placeOf 2 (some .int)] ++ wsX30 ++ wsX10 ++ (vx_atS RX3 105 "java/lang/IndexOutOfBoundsException" ["java/lang/RuntimeException", "java/lang/Exception"]).filter goodWord)
def wsX3_wanted : List Cond := .code yX3_wanted cX3_wanted 2 (some .int) :: ([.fieldLink RX3 12 "ConcertUsher" "hall" "LConcertUsher$Hall;", .methodLink RX3 34 yX3_checkConcert, .static yX3_checkConcert, .initialized RX3, .code yX3_checkConcert cX3_checkConcert 1 none, .classLink RX3 101 "java/lang/IndexOutOfBoundsException", .initialized "java/lang/IndexOutOfBoundsException", .methodLink RX3 205 yX3_isConcert, .static yX3_isConcert, .code yX3_isConcert cX3_isConcert 1 (some .boolean), .methodLink RX3 126 yX1_rowsThatWant, .instanceMethod yX1_rowsThatWant, .selects RX1 yX1_rowsThatWant yX1_rowsThatWant, .initialized RX1, .code yX1_rowsThatWant cX1_rowsThatWant 4 (some .int), .static yX3_placeOf, .code yX3_placeOf cX3_placeOf 2 (some .int), .methodLink RX1 63 yX1_isWantedAt, .instanceMethod yX1_isWantedAt, .selects RX1 yX1_isWantedAt yX1_isWantedAt, .code yX1_isWantedAt cX1_isWantedAt 2 (some .boolean), .fieldLink RX1 9 "ConcertUsher$Hall" "listeners" "[I"] ++ wsX30 ++ wsX10 ++ (vx_atS RX3 105 "java/lang/IndexOutOfBoundsException" ["java/lang/RuntimeException", "java/lang/Exception"]).filter goodWord)
def wsX3_checkMinutes : List Cond := .code yX3_checkMinutes cX3_checkMinutes 1 none :: ([.classLink RX3 82 "java/lang/IllegalArgumentException", .initialized "java/lang/IllegalArgumentException"] ++ (vx_atS RX3 86 "java/lang/IllegalArgumentException" ["java/lang/RuntimeException", "java/lang/Exception"]).filter goodWord)
def wsX3_pass_r1 : List Cond := [Cond.fieldLink RX3 19 "ConcertUsher" "history" "LConcertUsher$History;", Cond.fieldLink RX3 12 "ConcertUsher" "hall" "LConcertUsher$Hall;", Cond.methodLink RX3 129 yX3_checkMinutes, Cond.static yX3_checkMinutes, Cond.initialized RX3, Cond.code yX3_checkMinutes cX3_checkMinutes 1 none, Cond.classLink RX3 82 "java/lang/IllegalArgumentException", Cond.initialized "java/lang/IllegalArgumentException", Cond.methodLink RX3 52 yX2_keep, Cond.instanceMethod yX2_keep, Cond.selects RX2 yX2_keep yX2_keep, Cond.initialized RX2, Cond.code yX2_keep cX2_keep 2 none, Cond.fieldLink RX2 21 "ConcertUsher$History" "size" "I", Cond.fieldLink RX2 17 "ConcertUsher$History" "oldest" "I", Cond.fieldLink RX2 11 "ConcertUsher$History" "halls" "[LConcertUsher$Hall;", Cond.methodLink RX2 25 yX1_copyFrom, Cond.instanceMethod yX1_copyFrom, Cond.selects RX1 yX1_copyFrom yX1_copyFrom, Cond.initialized RX1, Cond.code yX1_copyFrom cX1_copyFrom 2 none, Cond.fieldLink RX1 9 "ConcertUsher$Hall" "listeners" "[I", Cond.methodLink RX1 50 arraycopyName, Cond.native arraycopyName]
def wsX3_pass_r2 : List Cond := [Cond.static arraycopyName, Cond.initialized "java/lang/System", Cond.fieldLink RX1 15 "ConcertUsher$Hall" "rests" "[I", Cond.fieldLink RX1 18 "ConcertUsher$Hall" "counts" "[I", Cond.fieldLink RX1 21 "ConcertUsher$Hall" "openRows" "I", Cond.fieldLink RX1 25 "ConcertUsher$Hall" "isQuick" "Z", Cond.fieldLink RX1 29 "ConcertUsher$Hall" "isFirstPresent" "Z", Cond.fieldLink RX1 32 "ConcertUsher$Hall" "isSecondPresent" "Z", Cond.fieldLink RX1 35 "ConcertUsher$Hall" "fading" "I", Cond.fieldLink RX1 38 "ConcertUsher$Hall" "patience" "I", Cond.fieldLink RX1 41 "ConcertUsher$Hall" "asking" "I", Cond.fieldLink RX1 44 "ConcertUsher$Hall" "minutes" "I", Cond.fieldLink RX1 47 "ConcertUsher$Hall" "sinceQuestion" "I", Cond.methodLink RX3 132 yX1_letPass, Cond.instanceMethod yX1_letPass, Cond.selects RX1 yX1_letPass yX1_letPass, Cond.code yX1_letPass cX1_letPass 4 (some .int), Cond.methodLink RX1 71 yX1_fadeEntries, Cond.instanceMethod yX1_fadeEntries, Cond.selects RX1 yX1_fadeEntries yX1_fadeEntries, Cond.code yX1_fadeEntries cX1_fadeEntries 2 none, Cond.methodLink RX1 74 yX1_timeBetweenQuestions, Cond.instanceMethod yX1_timeBetweenQuestions, Cond.selects RX1 yX1_timeBetweenQuestions yX1_timeBetweenQuestions]
def wsX3_pass_r3 : List Cond := [Cond.code yX1_timeBetweenQuestions cX1_timeBetweenQuestions 1 (some .int), Cond.methodLink RX1 81 yX1_chiefAsker, Cond.instanceMethod yX1_chiefAsker, Cond.selects RX1 yX1_chiefAsker yX1_chiefAsker, Cond.code yX1_chiefAsker cX1_chiefAsker 1 (some .int), Cond.methodLink RX1 78 yX1_askAllRows, Cond.instanceMethod yX1_askAllRows, Cond.selects RX1 yX1_askAllRows yX1_askAllRows, Cond.code yX1_askAllRows cX1_askAllRows 2 none, Cond.methodLink RX1 56 yX1_hearCall, Cond.instanceMethod yX1_hearCall, Cond.selects RX1 yX1_hearCall yX1_hearCall, Cond.code yX1_hearCall cX1_hearCall 2 none]
def wsX3_pass : List Cond := .code yX3_pass cX3_pass 2 (some .int) :: ((wsX3_pass_r1 ++ (wsX3_pass_r2 ++ wsX3_pass_r3)) ++ wsX30 ++ wsX20 ++ wsX10 ++ (vx_atS RX3 86 "java/lang/IllegalArgumentException" ["java/lang/RuntimeException", "java/lang/Exception"]).filter goodWord)
def wsX3_play_r1 : List Cond := [Cond.fieldLink RX3 19 "ConcertUsher" "history" "LConcertUsher$History;", Cond.fieldLink RX3 12 "ConcertUsher" "hall" "LConcertUsher$Hall;", Cond.methodLink RX3 34 yX3_checkConcert, Cond.static yX3_checkConcert, Cond.initialized RX3, Cond.code yX3_checkConcert cX3_checkConcert 1 none, Cond.classLink RX3 101 "java/lang/IndexOutOfBoundsException", Cond.initialized "java/lang/IndexOutOfBoundsException", Cond.methodLink RX3 205 yX3_isConcert, Cond.static yX3_isConcert, Cond.code yX3_isConcert cX3_isConcert 1 (some .boolean), Cond.methodLink RX3 52 yX2_keep, Cond.instanceMethod yX2_keep, Cond.selects RX2 yX2_keep yX2_keep, Cond.initialized RX2, Cond.code yX2_keep cX2_keep 2 none, Cond.fieldLink RX2 21 "ConcertUsher$History" "size" "I", Cond.fieldLink RX2 17 "ConcertUsher$History" "oldest" "I", Cond.fieldLink RX2 11 "ConcertUsher$History" "halls" "[LConcertUsher$Hall;", Cond.methodLink RX2 25 yX1_copyFrom, Cond.instanceMethod yX1_copyFrom, Cond.selects RX1 yX1_copyFrom yX1_copyFrom, Cond.initialized RX1, Cond.code yX1_copyFrom cX1_copyFrom 2 none]
def wsX3_play_r2 : List Cond := [Cond.fieldLink RX1 9 "ConcertUsher$Hall" "listeners" "[I", Cond.methodLink RX1 50 arraycopyName, Cond.native arraycopyName, Cond.static arraycopyName, Cond.initialized "java/lang/System", Cond.fieldLink RX1 15 "ConcertUsher$Hall" "rests" "[I", Cond.fieldLink RX1 18 "ConcertUsher$Hall" "counts" "[I", Cond.fieldLink RX1 21 "ConcertUsher$Hall" "openRows" "I", Cond.fieldLink RX1 25 "ConcertUsher$Hall" "isQuick" "Z", Cond.fieldLink RX1 29 "ConcertUsher$Hall" "isFirstPresent" "Z", Cond.fieldLink RX1 32 "ConcertUsher$Hall" "isSecondPresent" "Z", Cond.fieldLink RX1 35 "ConcertUsher$Hall" "fading" "I", Cond.fieldLink RX1 38 "ConcertUsher$Hall" "patience" "I", Cond.fieldLink RX1 41 "ConcertUsher$Hall" "asking" "I", Cond.fieldLink RX1 44 "ConcertUsher$Hall" "minutes" "I", Cond.fieldLink RX1 47 "ConcertUsher$Hall" "sinceQuestion" "I", Cond.methodLink RX3 135 yX1_perform, Cond.instanceMethod yX1_perform, Cond.selects RX1 yX1_perform yX1_perform, Cond.code yX1_perform cX1_perform 4 (some .int), Cond.methodLink RX1 84 yX1_rowsThatGet, Cond.instanceMethod yX1_rowsThatGet, Cond.selects RX1 yX1_rowsThatGet yX1_rowsThatGet, Cond.code yX1_rowsThatGet cX1_rowsThatGet 4 (some .int)]
def wsX3_play_r3 : List Cond := [Cond.static yX3_placeOf, Cond.code yX3_placeOf cX3_placeOf 2 (some .int), Cond.methodLink RX1 88 yX1_rowsThatWant, Cond.instanceMethod yX1_rowsThatWant, Cond.selects RX1 yX1_rowsThatWant yX1_rowsThatWant, Cond.code yX1_rowsThatWant cX1_rowsThatWant 4 (some .int), Cond.methodLink RX1 63 yX1_isWantedAt, Cond.instanceMethod yX1_isWantedAt, Cond.selects RX1 yX1_isWantedAt yX1_isWantedAt, Cond.code yX1_isWantedAt cX1_isWantedAt 2 (some .boolean), Cond.methodLink RX1 91 yJ6_bitCount_0f7a4, Cond.static yJ6_bitCount_0f7a4, Cond.initialized RJ6, Cond.code yJ6_bitCount_0f7a4 cJ6_bitCount_0f7a4 1 (some .int), Cond.constant RJ6 265 (1431655765), Cond.constant RJ6 266 (858993459), Cond.constant RJ6 267 (252645135)]
def wsX3_play : List Cond := .code yX3_play cX3_play 2 (some .int) :: ((wsX3_play_r1 ++ (wsX3_play_r2 ++ wsX3_play_r3)) ++ wsX30 ++ wsX20 ++ wsX10 ++ (vx_atS RX3 105 "java/lang/IndexOutOfBoundsException" ["java/lang/RuntimeException", "java/lang/Exception"]).filter goodWord)
def wsX3_minutes : List Cond := .code yX3_minutes cX3_minutes 1 (some .int) :: ([.fieldLink RX3 12 "ConcertUsher" "hall" "LConcertUsher$Hall;", .fieldLink RX3 138 "ConcertUsher$Hall" "minutes" "I"] ++ wsX30 ++ wsX10)
def wsX3_sinceQuestion : List Cond := .code yX3_sinceQuestion cX3_sinceQuestion 1 (some .int) :: ([.fieldLink RX3 12 "ConcertUsher" "hall" "LConcertUsher$Hall;", .fieldLink RX3 141 "ConcertUsher$Hall" "sinceQuestion" "I"] ++ wsX30 ++ wsX10)
def wsX3_count : List Cond := .code yX3_count cX3_count 2 (some .int) :: ([.classLink RX3 101 "java/lang/IndexOutOfBoundsException", .initialized "java/lang/IndexOutOfBoundsException", .fieldLink RX3 12 "ConcertUsher" "hall" "LConcertUsher$Hall;", .fieldLink RX3 146 "ConcertUsher$Hall" "counts" "[I"] ++ wsX30 ++ wsX10 ++ (vx_atS RX3 105 "java/lang/IndexOutOfBoundsException" ["java/lang/RuntimeException", "java/lang/Exception"]).filter goodWord)
def wsX3_usefulShare : List Cond := .code yX3_usefulShare cX3_usefulShare 3 (some .double) :: ([.fieldLink RX3 12 "ConcertUsher" "hall" "LConcertUsher$Hall;", .fieldLink RX3 146 "ConcertUsher$Hall" "counts" "[I"] ++ wsX30 ++ wsX10)
def wsX3_minutesToFade_r1 : List Cond := [Cond.fieldLink RX3 12 "ConcertUsher" "hall" "LConcertUsher$Hall;", Cond.methodLink RX3 30 yX3_checkRow, Cond.static yX3_checkRow, Cond.initialized RX3, Cond.code yX3_checkRow cX3_checkRow 1 none, Cond.classLink RX3 101 "java/lang/IndexOutOfBoundsException", Cond.initialized "java/lang/IndexOutOfBoundsException", Cond.methodLink RX3 200 yX3_isRow, Cond.static yX3_isRow, Cond.code yX3_isRow cX3_isRow 1 (some .boolean), Cond.methodLink RX3 34 yX3_checkConcert, Cond.static yX3_checkConcert, Cond.code yX3_checkConcert cX3_checkConcert 1 none, Cond.methodLink RX3 205 yX3_isConcert, Cond.static yX3_isConcert, Cond.code yX3_isConcert cX3_isConcert 1 (some .boolean), Cond.methodLink RX3 37 yX3_placeOf, Cond.static yX3_placeOf, Cond.code yX3_placeOf cX3_placeOf 2 (some .int), Cond.methodLink RX3 149 yX1_fadesIn, Cond.instanceMethod yX1_fadesIn, Cond.selects RX1 yX1_fadesIn yX1_fadesIn, Cond.initialized RX1, Cond.code yX1_fadesIn cX1_fadesIn 3 (some .int)]
def wsX3_minutesToFade_r2 : List Cond := [Cond.fieldLink RX1 15 "ConcertUsher$Hall" "rests" "[I", Cond.fieldLink RX1 35 "ConcertUsher$Hall" "fading" "I", Cond.methodLink RX1 101 yX1_asksIn, Cond.instanceMethod yX1_asksIn, Cond.selects RX1 yX1_asksIn yX1_asksIn, Cond.code yX1_asksIn cX1_asksIn 1 (some .int), Cond.fieldLink RX1 47 "ConcertUsher$Hall" "sinceQuestion" "I", Cond.methodLink RX1 96 Lib.Math.max.name, Cond.static Lib.Math.max.name, Cond.initialized "java/lang/Math", Cond.code Lib.Math.max.name Lib.Math.max.code 2 (some .int), Cond.methodLink RX1 74 yX1_timeBetweenQuestions, Cond.instanceMethod yX1_timeBetweenQuestions, Cond.selects RX1 yX1_timeBetweenQuestions yX1_timeBetweenQuestions, Cond.code yX1_timeBetweenQuestions cX1_timeBetweenQuestions 1 (some .int), Cond.fieldLink RX1 41 "ConcertUsher$Hall" "asking" "I", Cond.methodLink RX1 81 yX1_chiefAsker, Cond.instanceMethod yX1_chiefAsker, Cond.selects RX1 yX1_chiefAsker yX1_chiefAsker, Cond.code yX1_chiefAsker cX1_chiefAsker 1 (some .int), Cond.fieldLink RX1 32 "ConcertUsher$Hall" "isSecondPresent" "Z", Cond.fieldLink RX1 29 "ConcertUsher$Hall" "isFirstPresent" "Z", Cond.methodLink RX1 63 yX1_isWantedAt, Cond.instanceMethod yX1_isWantedAt]
def wsX3_minutesToFade_r3 : List Cond := [Cond.selects RX1 yX1_isWantedAt yX1_isWantedAt, Cond.code yX1_isWantedAt cX1_isWantedAt 2 (some .boolean), Cond.fieldLink RX1 9 "ConcertUsher$Hall" "listeners" "[I"]
def wsX3_minutesToFade : List Cond := .code yX3_minutesToFade cX3_minutesToFade 3 (some .int) :: ((wsX3_minutesToFade_r1 ++ (wsX3_minutesToFade_r2 ++ wsX3_minutesToFade_r3)) ++ wsX30 ++ wsX10 ++ (vx_atS RX3 105 "java/lang/IndexOutOfBoundsException" ["java/lang/RuntimeException", "java/lang/Exception"]).filter goodWord)
def wsX3_minutesToQuestion : List Cond := .code yX3_minutesToQuestion cX3_minutesToQuestion 1 (some .int) :: ([.fieldLink RX3 12 "ConcertUsher" "hall" "LConcertUsher$Hall;", .methodLink RX3 152 yX1_asksIn, .instanceMethod yX1_asksIn, .selects RX1 yX1_asksIn yX1_asksIn, .initialized RX1, .code yX1_asksIn cX1_asksIn 1 (some .int), .fieldLink RX1 47 "ConcertUsher$Hall" "sinceQuestion" "I", .methodLink RX1 96 Lib.Math.max.name, .static Lib.Math.max.name, .initialized "java/lang/Math", .code Lib.Math.max.name Lib.Math.max.code 2 (some .int), .methodLink RX1 74 yX1_timeBetweenQuestions, .instanceMethod yX1_timeBetweenQuestions, .selects RX1 yX1_timeBetweenQuestions yX1_timeBetweenQuestions, .code yX1_timeBetweenQuestions cX1_timeBetweenQuestions 1 (some .int), .fieldLink RX1 41 "ConcertUsher$Hall" "asking" "I", .methodLink RX1 81 yX1_chiefAsker, .instanceMethod yX1_chiefAsker, .selects RX1 yX1_chiefAsker yX1_chiefAsker, .code yX1_chiefAsker cX1_chiefAsker 1 (some .int), .fieldLink RX1 32 "ConcertUsher$Hall" "isSecondPresent" "Z", .fieldLink RX1 29 "ConcertUsher$Hall" "isFirstPresent" "Z"] ++ wsX30 ++ wsX10)
def wsX3_undo_r1 : List Cond := [Cond.classLink RX3 45 "java/lang/IllegalStateException", Cond.initialized "java/lang/IllegalStateException", Cond.fieldLink RX3 19 "ConcertUsher" "history" "LConcertUsher$History;", Cond.fieldLink RX3 181 "ConcertUsher$History" "size" "I", Cond.fieldLink RX3 12 "ConcertUsher" "hall" "LConcertUsher$Hall;", Cond.methodLink RX3 186 yX2_takeBack, Cond.instanceMethod yX2_takeBack, Cond.selects RX2 yX2_takeBack yX2_takeBack, Cond.initialized RX2, Cond.code yX2_takeBack cX2_takeBack 2 none, Cond.fieldLink RX2 21 "ConcertUsher$History" "size" "I", Cond.fieldLink RX2 11 "ConcertUsher$History" "halls" "[LConcertUsher$Hall;", Cond.fieldLink RX2 17 "ConcertUsher$History" "oldest" "I", Cond.methodLink RX2 25 yX1_copyFrom, Cond.instanceMethod yX1_copyFrom, Cond.selects RX1 yX1_copyFrom yX1_copyFrom, Cond.initialized RX1, Cond.code yX1_copyFrom cX1_copyFrom 2 none, Cond.fieldLink RX1 9 "ConcertUsher$Hall" "listeners" "[I", Cond.methodLink RX1 50 arraycopyName, Cond.native arraycopyName, Cond.static arraycopyName, Cond.initialized "java/lang/System", Cond.fieldLink RX1 15 "ConcertUsher$Hall" "rests" "[I"]
def wsX3_undo_r2 : List Cond := [Cond.fieldLink RX1 18 "ConcertUsher$Hall" "counts" "[I", Cond.fieldLink RX1 21 "ConcertUsher$Hall" "openRows" "I", Cond.fieldLink RX1 25 "ConcertUsher$Hall" "isQuick" "Z", Cond.fieldLink RX1 29 "ConcertUsher$Hall" "isFirstPresent" "Z", Cond.fieldLink RX1 32 "ConcertUsher$Hall" "isSecondPresent" "Z", Cond.fieldLink RX1 35 "ConcertUsher$Hall" "fading" "I", Cond.fieldLink RX1 38 "ConcertUsher$Hall" "patience" "I", Cond.fieldLink RX1 41 "ConcertUsher$Hall" "asking" "I", Cond.fieldLink RX1 44 "ConcertUsher$Hall" "minutes" "I", Cond.fieldLink RX1 47 "ConcertUsher$Hall" "sinceQuestion" "I"]
def wsX3_undo : List Cond := .code yX3_undo cX3_undo 1 (some .int) :: ((wsX3_undo_r1 ++ wsX3_undo_r2) ++ wsX30 ++ wsX20 ++ wsX10 ++ (vx_atS RX3 49 "java/lang/IllegalStateException" ["java/lang/RuntimeException", "java/lang/Exception"]).filter goodWord)
def wsX3_savedStates : List Cond := .code yX3_savedStates cX3_savedStates 1 (some .int) :: ([.fieldLink RX3 19 "ConcertUsher" "history" "LConcertUsher$History;", .fieldLink RX3 181 "ConcertUsher$History" "size" "I"] ++ wsX30 ++ wsX20)
def wsJ9_max_7cf53 : List Cond := .code yJ9_max_7cf53 cJ9_max_7cf53 2 (some .int) :: ([])
def wsL_cell : List Cond := .code yL_cell cL_cell 2 (some .int) :: ([])
def wsL_low : List Cond := .code yL_low cL_low 2 (some .int) :: ([.constant RL 7 (2147483647)])
def wsL_told_r1 : List Cond := [Cond.constantLong RL 8 (31), Cond.methodLink RL 10 yX3_minutes, Cond.instanceMethod yX3_minutes, Cond.selects RX3 yX3_minutes yX3_minutes, Cond.initialized RX3, Cond.code yX3_minutes cX3_minutes 1 (some .int), Cond.fieldLink RX3 12 "ConcertUsher" "hall" "LConcertUsher$Hall;", Cond.fieldLink RX3 138 "ConcertUsher$Hall" "minutes" "I", Cond.methodLink RL 16 yX3_sinceQuestion, Cond.instanceMethod yX3_sinceQuestion, Cond.selects RX3 yX3_sinceQuestion yX3_sinceQuestion, Cond.code yX3_sinceQuestion cX3_sinceQuestion 1 (some .int), Cond.fieldLink RX3 141 "ConcertUsher$Hall" "sinceQuestion" "I", Cond.methodLink RL 19 yX3_chief, Cond.instanceMethod yX3_chief, Cond.selects RX3 yX3_chief yX3_chief, Cond.code yX3_chief cX3_chief 1 (some .int), Cond.methodLink RX3 112 yX1_chiefAsker, Cond.instanceMethod yX1_chiefAsker, Cond.selects RX1 yX1_chiefAsker yX1_chiefAsker, Cond.initialized RX1, Cond.code yX1_chiefAsker cX1_chiefAsker 1 (some .int), Cond.fieldLink RX1 32 "ConcertUsher$Hall" "isSecondPresent" "Z", Cond.fieldLink RX1 29 "ConcertUsher$Hall" "isFirstPresent" "Z"]
def wsL_told_r2 : List Cond := [Cond.methodLink RL 22 yX3_listeners, Cond.instanceMethod yX3_listeners, Cond.selects RX3 yX3_listeners yX3_listeners, Cond.code yX3_listeners cX3_listeners 3 (some .int), Cond.fieldLink RX3 59 "ConcertUsher$Hall" "listeners" "[I", Cond.methodLink RX3 30 yX3_checkRow, Cond.static yX3_checkRow, Cond.code yX3_checkRow cX3_checkRow 1 none, Cond.classLink RX3 101 "java/lang/IndexOutOfBoundsException", Cond.initialized "java/lang/IndexOutOfBoundsException", Cond.methodLink RX3 200 yX3_isRow, Cond.static yX3_isRow, Cond.code yX3_isRow cX3_isRow 1 (some .boolean), Cond.methodLink RX3 34 yX3_checkConcert, Cond.static yX3_checkConcert, Cond.code yX3_checkConcert cX3_checkConcert 1 none, Cond.methodLink RX3 205 yX3_isConcert, Cond.static yX3_isConcert, Cond.code yX3_isConcert cX3_isConcert 1 (some .boolean), Cond.methodLink RX3 37 yX3_placeOf, Cond.static yX3_placeOf, Cond.code yX3_placeOf cX3_placeOf 2 (some .int), Cond.methodLink RL 26 yX3_rest, Cond.instanceMethod yX3_rest]
def wsL_told_r3 : List Cond := [Cond.selects RX3 yX3_rest yX3_rest, Cond.code yX3_rest cX3_rest 3 (some .int), Cond.fieldLink RX3 116 "ConcertUsher$Hall" "rests" "[I", Cond.methodLink RL 29 yX3_isOpen, Cond.instanceMethod yX3_isOpen, Cond.selects RX3 yX3_isOpen yX3_isOpen, Cond.code yX3_isOpen cX3_isOpen 2 (some .boolean), Cond.methodLink RX3 72 yX1_isRowOpen, Cond.instanceMethod yX1_isRowOpen, Cond.selects RX1 yX1_isRowOpen yX1_isRowOpen, Cond.code yX1_isRowOpen cX1_isRowOpen 2 (some .boolean), Cond.fieldLink RX1 21 "ConcertUsher$Hall" "openRows" "I", Cond.methodLink RL 33 yX3_count, Cond.instanceMethod yX3_count, Cond.selects RX3 yX3_count yX3_count, Cond.code yX3_count cX3_count 2 (some .int), Cond.fieldLink RX3 146 "ConcertUsher$Hall" "counts" "[I"]
def wsL_told : List Cond := .code yL_told cL_told 4 (some .long) :: ((wsL_told_r1 ++ (wsL_told_r2 ++ wsL_told_r3)) ++ wsX30 ++ wsX10 ++ (vx_atS RX3 105 "java/lang/IndexOutOfBoundsException" ["java/lang/RuntimeException", "java/lang/Exception"]).filter goodWord)
def wsL_bits : List Cond := .code yL_bits cL_bits 3 (some .int) :: ([])
def wsL_act_r1 : List Cond := [Cond.methodLink RL 37 yL_low, Cond.static yL_low, Cond.initialized RL, Cond.code yL_low cL_low 2 (some .int), Cond.constant RL 7 (2147483647), Cond.methodLink RL 22 yX3_listeners, Cond.instanceMethod yX3_listeners, Cond.selects RX3 yX3_listeners yX3_listeners, Cond.initialized RX3, Cond.code yX3_listeners cX3_listeners 3 (some .int), Cond.fieldLink RX3 12 "ConcertUsher" "hall" "LConcertUsher$Hall;", Cond.fieldLink RX3 59 "ConcertUsher$Hall" "listeners" "[I", Cond.methodLink RX3 30 yX3_checkRow, Cond.static yX3_checkRow, Cond.code yX3_checkRow cX3_checkRow 1 none, Cond.classLink RX3 101 "java/lang/IndexOutOfBoundsException", Cond.initialized "java/lang/IndexOutOfBoundsException", Cond.methodLink RX3 200 yX3_isRow, Cond.static yX3_isRow, Cond.code yX3_isRow cX3_isRow 1 (some .boolean), Cond.methodLink RX3 34 yX3_checkConcert, Cond.static yX3_checkConcert, Cond.code yX3_checkConcert cX3_checkConcert 1 none, Cond.methodLink RX3 205 yX3_isConcert]
def wsL_act_r2 : List Cond := [Cond.static yX3_isConcert, Cond.code yX3_isConcert cX3_isConcert 1 (some .boolean), Cond.methodLink RX3 37 yX3_placeOf, Cond.static yX3_placeOf, Cond.code yX3_placeOf cX3_placeOf 2 (some .int), Cond.methodLink RL 42 yX3_come, Cond.instanceMethod yX3_come, Cond.selects RX3 yX3_come yX3_come, Cond.code yX3_come cX3_come 4 (some .int), Cond.classLink RX3 45 "java/lang/IllegalStateException", Cond.initialized "java/lang/IllegalStateException", Cond.fieldLink RX3 19 "ConcertUsher" "history" "LConcertUsher$History;", Cond.methodLink RX3 41 yX1_hasRoom, Cond.instanceMethod yX1_hasRoom, Cond.selects RX1 yX1_hasRoom yX1_hasRoom, Cond.initialized RX1, Cond.code yX1_hasRoom cX1_hasRoom 2 (some .boolean), Cond.fieldLink RX1 9 "ConcertUsher$Hall" "listeners" "[I", Cond.methodLink RX3 52 yX2_keep, Cond.instanceMethod yX2_keep, Cond.selects RX2 yX2_keep yX2_keep, Cond.initialized RX2, Cond.code yX2_keep cX2_keep 2 none, Cond.fieldLink RX2 21 "ConcertUsher$History" "size" "I"]
def wsL_act_r3 : List Cond := [Cond.fieldLink RX2 17 "ConcertUsher$History" "oldest" "I", Cond.fieldLink RX2 11 "ConcertUsher$History" "halls" "[LConcertUsher$Hall;", Cond.methodLink RX2 25 yX1_copyFrom, Cond.instanceMethod yX1_copyFrom, Cond.selects RX1 yX1_copyFrom yX1_copyFrom, Cond.code yX1_copyFrom cX1_copyFrom 2 none, Cond.methodLink RX1 50 arraycopyName, Cond.native arraycopyName, Cond.static arraycopyName, Cond.initialized "java/lang/System", Cond.fieldLink RX1 15 "ConcertUsher$Hall" "rests" "[I", Cond.fieldLink RX1 18 "ConcertUsher$Hall" "counts" "[I", Cond.fieldLink RX1 21 "ConcertUsher$Hall" "openRows" "I", Cond.fieldLink RX1 25 "ConcertUsher$Hall" "isQuick" "Z", Cond.fieldLink RX1 29 "ConcertUsher$Hall" "isFirstPresent" "Z", Cond.fieldLink RX1 32 "ConcertUsher$Hall" "isSecondPresent" "Z", Cond.fieldLink RX1 35 "ConcertUsher$Hall" "fading" "I", Cond.fieldLink RX1 38 "ConcertUsher$Hall" "patience" "I", Cond.fieldLink RX1 41 "ConcertUsher$Hall" "asking" "I", Cond.fieldLink RX1 44 "ConcertUsher$Hall" "minutes" "I", Cond.fieldLink RX1 47 "ConcertUsher$Hall" "sinceQuestion" "I", Cond.methodLink RX3 56 yX1_seat, Cond.instanceMethod yX1_seat, Cond.selects RX1 yX1_seat yX1_seat]
def wsL_act_r4 : List Cond := [Cond.code yX1_seat cX1_seat 2 none, Cond.methodLink RX1 56 yX1_hearCall, Cond.instanceMethod yX1_hearCall, Cond.selects RX1 yX1_hearCall yX1_hearCall, Cond.code yX1_hearCall cX1_hearCall 2 none, Cond.methodLink RL 45 yX3_leave, Cond.instanceMethod yX3_leave, Cond.selects RX3 yX3_leave yX3_leave, Cond.code yX3_leave cX3_leave 5 (some .int), Cond.methodLink RX3 63 yX1_isWantedAt, Cond.instanceMethod yX1_isWantedAt, Cond.selects RX1 yX1_isWantedAt yX1_isWantedAt, Cond.code yX1_isWantedAt cX1_isWantedAt 2 (some .boolean), Cond.methodLink RX3 68 yX1_unseat, Cond.instanceMethod yX1_unseat, Cond.selects RX1 yX1_unseat yX1_unseat, Cond.code yX1_unseat cX1_unseat 3 none, Cond.methodLink RX1 60 yX1_hearFarewell, Cond.instanceMethod yX1_hearFarewell, Cond.selects RX1 yX1_hearFarewell yX1_hearFarewell, Cond.code yX1_hearFarewell cX1_hearFarewell 2 none, Cond.methodLink RX1 63 yX1_isWantedAt, Cond.methodLink RL 49 yX3_setOpen, Cond.instanceMethod yX3_setOpen]
def wsL_act_r5 : List Cond := [Cond.selects RX3 yX3_setOpen yX3_setOpen, Cond.code yX3_setOpen cX3_setOpen 4 (some .boolean), Cond.methodLink RX3 72 yX1_isRowOpen, Cond.instanceMethod yX1_isRowOpen, Cond.selects RX1 yX1_isRowOpen yX1_isRowOpen, Cond.code yX1_isRowOpen cX1_isRowOpen 2 (some .boolean), Cond.methodLink RX3 75 yX1_turnRow, Cond.instanceMethod yX1_turnRow, Cond.selects RX1 yX1_turnRow yX1_turnRow, Cond.code yX1_turnRow cX1_turnRow 2 none, Cond.methodLink RL 53 yX3_setQuick, Cond.instanceMethod yX3_setQuick, Cond.selects RX3 yX3_setQuick yX3_setQuick, Cond.code yX3_setQuick cX3_setQuick 3 (some .boolean), Cond.fieldLink RX3 78 "ConcertUsher$Hall" "isQuick" "Z", Cond.methodLink RL 57 yX3_setTimes, Cond.instanceMethod yX3_setTimes, Cond.selects RX3 yX3_setTimes yX3_setTimes, Cond.code yX3_setTimes cX3_setTimes 5 (some .int), Cond.classLink RX3 82 "java/lang/IllegalArgumentException", Cond.initialized "java/lang/IllegalArgumentException", Cond.fieldLink RX3 91 "ConcertUsher$Hall" "fading" "I", Cond.fieldLink RX3 95 "ConcertUsher$Hall" "patience" "I", Cond.fieldLink RX3 98 "ConcertUsher$Hall" "asking" "I"]
def wsL_act_r6 : List Cond := [Cond.methodLink RL 61 yX3_setPresent, Cond.instanceMethod yX3_setPresent, Cond.selects RX3 yX3_setPresent yX3_setPresent, Cond.code yX3_setPresent cX3_setPresent 3 (some .int), Cond.fieldLink RX3 106 "ConcertUsher$Hall" "isFirstPresent" "Z", Cond.fieldLink RX3 109 "ConcertUsher$Hall" "isSecondPresent" "Z", Cond.methodLink RX3 112 yX1_chiefAsker, Cond.instanceMethod yX1_chiefAsker, Cond.selects RX1 yX1_chiefAsker yX1_chiefAsker, Cond.code yX1_chiefAsker cX1_chiefAsker 1 (some .int), Cond.methodLink RL 65 yX3_play, Cond.instanceMethod yX3_play, Cond.selects RX3 yX3_play yX3_play, Cond.code yX3_play cX3_play 2 (some .int), Cond.methodLink RX3 135 yX1_perform, Cond.instanceMethod yX1_perform, Cond.selects RX1 yX1_perform yX1_perform, Cond.code yX1_perform cX1_perform 4 (some .int), Cond.methodLink RX1 84 yX1_rowsThatGet, Cond.instanceMethod yX1_rowsThatGet, Cond.selects RX1 yX1_rowsThatGet yX1_rowsThatGet, Cond.code yX1_rowsThatGet cX1_rowsThatGet 4 (some .int), Cond.methodLink RX1 88 yX1_rowsThatWant, Cond.instanceMethod yX1_rowsThatWant]
def wsL_act_r7 : List Cond := [Cond.selects RX1 yX1_rowsThatWant yX1_rowsThatWant, Cond.code yX1_rowsThatWant cX1_rowsThatWant 4 (some .int), Cond.methodLink RX1 91 yJ6_bitCount_0f7a4, Cond.static yJ6_bitCount_0f7a4, Cond.initialized RJ6, Cond.code yJ6_bitCount_0f7a4 cJ6_bitCount_0f7a4 1 (some .int), Cond.constant RJ6 265 (1431655765), Cond.constant RJ6 266 (858993459), Cond.constant RJ6 267 (252645135), Cond.methodLink RL 68 yX3_pass, Cond.instanceMethod yX3_pass, Cond.selects RX3 yX3_pass yX3_pass, Cond.code yX3_pass cX3_pass 2 (some .int), Cond.methodLink RX3 129 yX3_checkMinutes, Cond.static yX3_checkMinutes, Cond.code yX3_checkMinutes cX3_checkMinutes 1 none, Cond.methodLink RX3 132 yX1_letPass, Cond.instanceMethod yX1_letPass, Cond.selects RX1 yX1_letPass yX1_letPass, Cond.code yX1_letPass cX1_letPass 4 (some .int), Cond.methodLink RX1 71 yX1_fadeEntries, Cond.instanceMethod yX1_fadeEntries, Cond.selects RX1 yX1_fadeEntries yX1_fadeEntries, Cond.code yX1_fadeEntries cX1_fadeEntries 2 none]
def wsL_act_r8 : List Cond := [Cond.methodLink RX1 74 yX1_timeBetweenQuestions, Cond.instanceMethod yX1_timeBetweenQuestions, Cond.selects RX1 yX1_timeBetweenQuestions yX1_timeBetweenQuestions, Cond.code yX1_timeBetweenQuestions cX1_timeBetweenQuestions 1 (some .int), Cond.methodLink RX1 81 yX1_chiefAsker, Cond.methodLink RX1 78 yX1_askAllRows, Cond.instanceMethod yX1_askAllRows, Cond.selects RX1 yX1_askAllRows yX1_askAllRows, Cond.code yX1_askAllRows cX1_askAllRows 2 none]
def wsL_act : List Cond := .code yL_act cL_act 6 (some .int) :: ((wsL_act_r1 ++ (wsL_act_r2 ++ (wsL_act_r3 ++ (wsL_act_r4 ++ (wsL_act_r5 ++ (wsL_act_r6 ++ (wsL_act_r7 ++ wsL_act_r8))))))) ++ wsX30 ++ wsX10 ++ wsX20 ++ (vx_atS RX3 105 "java/lang/IndexOutOfBoundsException" ["java/lang/RuntimeException", "java/lang/Exception"]).filter goodWord ++ (vx_atS RX3 49 "java/lang/IllegalStateException" ["java/lang/RuntimeException", "java/lang/Exception"]).filter goodWord ++ (vx_atS RX3 86 "java/lang/IllegalArgumentException" ["java/lang/RuntimeException", "java/lang/Exception"]).filter goodWord)
def wsL_isPlayed_r1 : List Cond := [Cond.methodLink RL 71 yX3_rows, Cond.instanceMethod yX3_rows, Cond.selects RX3 yX3_rows yX3_rows, Cond.initialized RX3, Cond.code yX3_rows cX3_rows 2 (some .int), Cond.fieldLink RX3 12 "ConcertUsher" "hall" "LConcertUsher$Hall;", Cond.methodLink RX3 34 yX3_checkConcert, Cond.static yX3_checkConcert, Cond.code yX3_checkConcert cX3_checkConcert 1 none, Cond.classLink RX3 101 "java/lang/IndexOutOfBoundsException", Cond.initialized "java/lang/IndexOutOfBoundsException", Cond.methodLink RX3 205 yX3_isConcert, Cond.static yX3_isConcert, Cond.code yX3_isConcert cX3_isConcert 1 (some .boolean), Cond.methodLink RX3 122 yX1_rowsThatGet, Cond.instanceMethod yX1_rowsThatGet, Cond.selects RX1 yX1_rowsThatGet yX1_rowsThatGet, Cond.initialized RX1, Cond.code yX1_rowsThatGet cX1_rowsThatGet 4 (some .int), Cond.fieldLink RX1 21 "ConcertUsher$Hall" "openRows" "I", Cond.fieldLink RX1 15 "ConcertUsher$Hall" "rests" "[I", Cond.static yX3_placeOf, Cond.code yX3_placeOf cX3_placeOf 2 (some .int), Cond.methodLink RL 74 yX3_wanted]
def wsL_isPlayed_r2 : List Cond := [Cond.instanceMethod yX3_wanted, Cond.selects RX3 yX3_wanted yX3_wanted, Cond.code yX3_wanted cX3_wanted 2 (some .int), Cond.methodLink RX3 126 yX1_rowsThatWant, Cond.instanceMethod yX1_rowsThatWant, Cond.selects RX1 yX1_rowsThatWant yX1_rowsThatWant, Cond.code yX1_rowsThatWant cX1_rowsThatWant 4 (some .int), Cond.methodLink RX1 63 yX1_isWantedAt, Cond.instanceMethod yX1_isWantedAt, Cond.selects RX1 yX1_isWantedAt yX1_isWantedAt, Cond.code yX1_isWantedAt cX1_isWantedAt 2 (some .boolean), Cond.fieldLink RX1 9 "ConcertUsher$Hall" "listeners" "[I", Cond.methodLink RL 33 yX3_count, Cond.instanceMethod yX3_count, Cond.selects RX3 yX3_count yX3_count, Cond.code yX3_count cX3_count 2 (some .int), Cond.fieldLink RX3 146 "ConcertUsher$Hall" "counts" "[I", Cond.methodLink RL 77 yL_told, Cond.static yL_told, Cond.initialized RL, Cond.code yL_told cL_told 4 (some .long), Cond.constantLong RL 8 (31), Cond.methodLink RL 10 yX3_minutes, Cond.instanceMethod yX3_minutes]
def wsL_isPlayed_r3 : List Cond := [Cond.selects RX3 yX3_minutes yX3_minutes, Cond.code yX3_minutes cX3_minutes 1 (some .int), Cond.fieldLink RX3 138 "ConcertUsher$Hall" "minutes" "I", Cond.methodLink RL 16 yX3_sinceQuestion, Cond.instanceMethod yX3_sinceQuestion, Cond.selects RX3 yX3_sinceQuestion yX3_sinceQuestion, Cond.code yX3_sinceQuestion cX3_sinceQuestion 1 (some .int), Cond.fieldLink RX3 141 "ConcertUsher$Hall" "sinceQuestion" "I", Cond.methodLink RL 19 yX3_chief, Cond.instanceMethod yX3_chief, Cond.selects RX3 yX3_chief yX3_chief, Cond.code yX3_chief cX3_chief 1 (some .int), Cond.methodLink RX3 112 yX1_chiefAsker, Cond.instanceMethod yX1_chiefAsker, Cond.selects RX1 yX1_chiefAsker yX1_chiefAsker, Cond.code yX1_chiefAsker cX1_chiefAsker 1 (some .int), Cond.fieldLink RX1 32 "ConcertUsher$Hall" "isSecondPresent" "Z", Cond.fieldLink RX1 29 "ConcertUsher$Hall" "isFirstPresent" "Z", Cond.methodLink RL 22 yX3_listeners, Cond.instanceMethod yX3_listeners, Cond.selects RX3 yX3_listeners yX3_listeners, Cond.code yX3_listeners cX3_listeners 3 (some .int), Cond.fieldLink RX3 59 "ConcertUsher$Hall" "listeners" "[I", Cond.methodLink RX3 30 yX3_checkRow]
def wsL_isPlayed_r4 : List Cond := [Cond.static yX3_checkRow, Cond.code yX3_checkRow cX3_checkRow 1 none, Cond.methodLink RX3 200 yX3_isRow, Cond.static yX3_isRow, Cond.code yX3_isRow cX3_isRow 1 (some .boolean), Cond.methodLink RX3 37 yX3_placeOf, Cond.methodLink RL 26 yX3_rest, Cond.instanceMethod yX3_rest, Cond.selects RX3 yX3_rest yX3_rest, Cond.code yX3_rest cX3_rest 3 (some .int), Cond.fieldLink RX3 116 "ConcertUsher$Hall" "rests" "[I", Cond.methodLink RL 29 yX3_isOpen, Cond.instanceMethod yX3_isOpen, Cond.selects RX3 yX3_isOpen yX3_isOpen, Cond.code yX3_isOpen cX3_isOpen 2 (some .boolean), Cond.methodLink RX3 72 yX1_isRowOpen, Cond.instanceMethod yX1_isRowOpen, Cond.selects RX1 yX1_isRowOpen yX1_isRowOpen, Cond.code yX1_isRowOpen cX1_isRowOpen 2 (some .boolean), Cond.methodLink RL 65 yX3_play, Cond.instanceMethod yX3_play, Cond.selects RX3 yX3_play yX3_play, Cond.code yX3_play cX3_play 2 (some .int), Cond.fieldLink RX3 19 "ConcertUsher" "history" "LConcertUsher$History;"]
def wsL_isPlayed_r5 : List Cond := [Cond.methodLink RX3 52 yX2_keep, Cond.instanceMethod yX2_keep, Cond.selects RX2 yX2_keep yX2_keep, Cond.initialized RX2, Cond.code yX2_keep cX2_keep 2 none, Cond.fieldLink RX2 21 "ConcertUsher$History" "size" "I", Cond.fieldLink RX2 17 "ConcertUsher$History" "oldest" "I", Cond.fieldLink RX2 11 "ConcertUsher$History" "halls" "[LConcertUsher$Hall;", Cond.methodLink RX2 25 yX1_copyFrom, Cond.instanceMethod yX1_copyFrom, Cond.selects RX1 yX1_copyFrom yX1_copyFrom, Cond.code yX1_copyFrom cX1_copyFrom 2 none, Cond.methodLink RX1 50 arraycopyName, Cond.native arraycopyName, Cond.static arraycopyName, Cond.initialized "java/lang/System", Cond.fieldLink RX1 18 "ConcertUsher$Hall" "counts" "[I", Cond.fieldLink RX1 25 "ConcertUsher$Hall" "isQuick" "Z", Cond.fieldLink RX1 35 "ConcertUsher$Hall" "fading" "I", Cond.fieldLink RX1 38 "ConcertUsher$Hall" "patience" "I", Cond.fieldLink RX1 41 "ConcertUsher$Hall" "asking" "I", Cond.fieldLink RX1 44 "ConcertUsher$Hall" "minutes" "I", Cond.fieldLink RX1 47 "ConcertUsher$Hall" "sinceQuestion" "I", Cond.methodLink RX3 135 yX1_perform]
def wsL_isPlayed_r6 : List Cond := [Cond.instanceMethod yX1_perform, Cond.selects RX1 yX1_perform yX1_perform, Cond.code yX1_perform cX1_perform 4 (some .int), Cond.methodLink RX1 84 yX1_rowsThatGet, Cond.methodLink RX1 88 yX1_rowsThatWant, Cond.methodLink RX1 91 yJ6_bitCount_0f7a4, Cond.static yJ6_bitCount_0f7a4, Cond.initialized RJ6, Cond.code yJ6_bitCount_0f7a4 cJ6_bitCount_0f7a4 1 (some .int), Cond.constant RJ6 265 (1431655765), Cond.constant RJ6 266 (858993459), Cond.constant RJ6 267 (252645135), Cond.methodLink RL 81 yL_bits, Cond.static yL_bits, Cond.code yL_bits cL_bits 3 (some .int), Cond.methodLink RL 84 yX3_undo, Cond.instanceMethod yX3_undo, Cond.selects RX3 yX3_undo yX3_undo, Cond.code yX3_undo cX3_undo 1 (some .int), Cond.classLink RX3 45 "java/lang/IllegalStateException", Cond.initialized "java/lang/IllegalStateException", Cond.fieldLink RX3 181 "ConcertUsher$History" "size" "I", Cond.methodLink RX3 186 yX2_takeBack, Cond.instanceMethod yX2_takeBack]
def wsL_isPlayed_r7 : List Cond := [Cond.selects RX2 yX2_takeBack yX2_takeBack, Cond.code yX2_takeBack cX2_takeBack 2 none]
def wsL_isPlayed : List Cond := .code yL_isPlayed cL_isPlayed 10 (some .boolean) :: ((wsL_isPlayed_r1 ++ (wsL_isPlayed_r2 ++ (wsL_isPlayed_r3 ++ (wsL_isPlayed_r4 ++ (wsL_isPlayed_r5 ++ (wsL_isPlayed_r6 ++ wsL_isPlayed_r7)))))) ++ wsX30 ++ wsX10 ++ wsX20 ++ (vx_atS RX3 105 "java/lang/IndexOutOfBoundsException" ["java/lang/RuntimeException", "java/lang/Exception"]).filter goodWord ++ (vx_atS RX3 49 "java/lang/IllegalStateException" ["java/lang/RuntimeException", "java/lang/Exception"]).filter goodWord)
def wsL_holds_r1 : List Cond := [Cond.methodLink RL 26 yX3_rest, Cond.instanceMethod yX3_rest, Cond.selects RX3 yX3_rest yX3_rest, Cond.initialized RX3, Cond.code yX3_rest cX3_rest 3 (some .int), Cond.fieldLink RX3 12 "ConcertUsher" "hall" "LConcertUsher$Hall;", Cond.fieldLink RX3 116 "ConcertUsher$Hall" "rests" "[I", Cond.methodLink RX3 30 yX3_checkRow, Cond.static yX3_checkRow, Cond.code yX3_checkRow cX3_checkRow 1 none, Cond.classLink RX3 101 "java/lang/IndexOutOfBoundsException", Cond.initialized "java/lang/IndexOutOfBoundsException", Cond.methodLink RX3 200 yX3_isRow, Cond.static yX3_isRow, Cond.code yX3_isRow cX3_isRow 1 (some .boolean), Cond.methodLink RX3 34 yX3_checkConcert, Cond.static yX3_checkConcert, Cond.code yX3_checkConcert cX3_checkConcert 1 none, Cond.methodLink RX3 205 yX3_isConcert, Cond.static yX3_isConcert, Cond.code yX3_isConcert cX3_isConcert 1 (some .boolean), Cond.methodLink RX3 37 yX3_placeOf, Cond.static yX3_placeOf, Cond.code yX3_placeOf cX3_placeOf 2 (some .int)]
def wsL_holds_r2 : List Cond := [Cond.methodLink RL 22 yX3_listeners, Cond.instanceMethod yX3_listeners, Cond.selects RX3 yX3_listeners yX3_listeners, Cond.code yX3_listeners cX3_listeners 3 (some .int), Cond.fieldLink RX3 59 "ConcertUsher$Hall" "listeners" "[I", Cond.methodLink RL 71 yX3_rows, Cond.instanceMethod yX3_rows, Cond.selects RX3 yX3_rows yX3_rows, Cond.code yX3_rows cX3_rows 2 (some .int), Cond.methodLink RX3 122 yX1_rowsThatGet, Cond.instanceMethod yX1_rowsThatGet, Cond.selects RX1 yX1_rowsThatGet yX1_rowsThatGet, Cond.initialized RX1, Cond.code yX1_rowsThatGet cX1_rowsThatGet 4 (some .int), Cond.fieldLink RX1 21 "ConcertUsher$Hall" "openRows" "I", Cond.fieldLink RX1 15 "ConcertUsher$Hall" "rests" "[I", Cond.methodLink RL 74 yX3_wanted, Cond.instanceMethod yX3_wanted, Cond.selects RX3 yX3_wanted yX3_wanted, Cond.code yX3_wanted cX3_wanted 2 (some .int), Cond.methodLink RX3 126 yX1_rowsThatWant, Cond.instanceMethod yX1_rowsThatWant, Cond.selects RX1 yX1_rowsThatWant yX1_rowsThatWant, Cond.code yX1_rowsThatWant cX1_rowsThatWant 4 (some .int)]
def wsL_holds_r3 : List Cond := [Cond.methodLink RX1 63 yX1_isWantedAt, Cond.instanceMethod yX1_isWantedAt, Cond.selects RX1 yX1_isWantedAt yX1_isWantedAt, Cond.code yX1_isWantedAt cX1_isWantedAt 2 (some .boolean), Cond.fieldLink RX1 9 "ConcertUsher$Hall" "listeners" "[I", Cond.methodLink RL 29 yX3_isOpen, Cond.instanceMethod yX3_isOpen, Cond.selects RX3 yX3_isOpen yX3_isOpen, Cond.code yX3_isOpen cX3_isOpen 2 (some .boolean), Cond.methodLink RX3 72 yX1_isRowOpen, Cond.instanceMethod yX1_isRowOpen, Cond.selects RX1 yX1_isRowOpen yX1_isRowOpen, Cond.code yX1_isRowOpen cX1_isRowOpen 2 (some .boolean), Cond.methodLink RL 87 yX3_minutesToFade, Cond.instanceMethod yX3_minutesToFade, Cond.selects RX3 yX3_minutesToFade yX3_minutesToFade, Cond.code yX3_minutesToFade cX3_minutesToFade 3 (some .int), Cond.methodLink RX3 149 yX1_fadesIn, Cond.instanceMethod yX1_fadesIn, Cond.selects RX1 yX1_fadesIn yX1_fadesIn, Cond.code yX1_fadesIn cX1_fadesIn 3 (some .int), Cond.fieldLink RX1 35 "ConcertUsher$Hall" "fading" "I", Cond.methodLink RX1 101 yX1_asksIn, Cond.instanceMethod yX1_asksIn]
def wsL_holds_r4 : List Cond := [Cond.selects RX1 yX1_asksIn yX1_asksIn, Cond.code yX1_asksIn cX1_asksIn 1 (some .int), Cond.fieldLink RX1 47 "ConcertUsher$Hall" "sinceQuestion" "I", Cond.methodLink RX1 96 Lib.Math.max.name, Cond.static Lib.Math.max.name, Cond.initialized "java/lang/Math", Cond.code Lib.Math.max.name Lib.Math.max.code 2 (some .int), Cond.methodLink RX1 74 yX1_timeBetweenQuestions, Cond.instanceMethod yX1_timeBetweenQuestions, Cond.selects RX1 yX1_timeBetweenQuestions yX1_timeBetweenQuestions, Cond.code yX1_timeBetweenQuestions cX1_timeBetweenQuestions 1 (some .int), Cond.fieldLink RX1 41 "ConcertUsher$Hall" "asking" "I", Cond.methodLink RX1 81 yX1_chiefAsker, Cond.instanceMethod yX1_chiefAsker, Cond.selects RX1 yX1_chiefAsker yX1_chiefAsker, Cond.code yX1_chiefAsker cX1_chiefAsker 1 (some .int), Cond.fieldLink RX1 32 "ConcertUsher$Hall" "isSecondPresent" "Z", Cond.fieldLink RX1 29 "ConcertUsher$Hall" "isFirstPresent" "Z", Cond.methodLink RL 90 yX3_entries, Cond.instanceMethod yX3_entries, Cond.selects RX3 yX3_entries yX3_entries, Cond.code yX3_entries cX3_entries 1 (some .int), Cond.methodLink RX3 119 yX1_entriesInAll, Cond.instanceMethod yX1_entriesInAll]
def wsL_holds_r5 : List Cond := [Cond.selects RX1 yX1_entriesInAll yX1_entriesInAll, Cond.code yX1_entriesInAll cX1_entriesInAll 3 (some .int), Cond.methodLink RL 19 yX3_chief, Cond.instanceMethod yX3_chief, Cond.selects RX3 yX3_chief yX3_chief, Cond.code yX3_chief cX3_chief 1 (some .int), Cond.methodLink RX3 112 yX1_chiefAsker, Cond.methodLink RL 93 yX3_minutesToQuestion, Cond.instanceMethod yX3_minutesToQuestion, Cond.selects RX3 yX3_minutesToQuestion yX3_minutesToQuestion, Cond.code yX3_minutesToQuestion cX3_minutesToQuestion 1 (some .int), Cond.methodLink RX3 152 yX1_asksIn, Cond.methodLink RL 96 yX3_usefulShare, Cond.instanceMethod yX3_usefulShare, Cond.selects RX3 yX3_usefulShare yX3_usefulShare, Cond.code yX3_usefulShare cX3_usefulShare 3 (some .double), Cond.fieldLink RX3 146 "ConcertUsher$Hall" "counts" "[I"]
def wsL_holds : List Cond := .code yL_holds cL_holds 8 (some .boolean) :: ((wsL_holds_r1 ++ (wsL_holds_r2 ++ (wsL_holds_r3 ++ (wsL_holds_r4 ++ wsL_holds_r5)))) ++ wsX30 ++ wsX10 ++ (vx_atS RX3 105 "java/lang/IndexOutOfBoundsException" ["java/lang/RuntimeException", "java/lang/Exception"]).filter goodWord)
def wsL_isTimed_r1 : List Cond := [Cond.methodLink RL 93 yX3_minutesToQuestion, Cond.instanceMethod yX3_minutesToQuestion, Cond.selects RX3 yX3_minutesToQuestion yX3_minutesToQuestion, Cond.initialized RX3, Cond.code yX3_minutesToQuestion cX3_minutesToQuestion 1 (some .int), Cond.fieldLink RX3 12 "ConcertUsher" "hall" "LConcertUsher$Hall;", Cond.methodLink RX3 152 yX1_asksIn, Cond.instanceMethod yX1_asksIn, Cond.selects RX1 yX1_asksIn yX1_asksIn, Cond.initialized RX1, Cond.code yX1_asksIn cX1_asksIn 1 (some .int), Cond.fieldLink RX1 47 "ConcertUsher$Hall" "sinceQuestion" "I", Cond.methodLink RX1 96 Lib.Math.max.name, Cond.static Lib.Math.max.name, Cond.initialized "java/lang/Math", Cond.code Lib.Math.max.name Lib.Math.max.code 2 (some .int), Cond.methodLink RX1 74 yX1_timeBetweenQuestions, Cond.instanceMethod yX1_timeBetweenQuestions, Cond.selects RX1 yX1_timeBetweenQuestions yX1_timeBetweenQuestions, Cond.code yX1_timeBetweenQuestions cX1_timeBetweenQuestions 1 (some .int), Cond.fieldLink RX1 41 "ConcertUsher$Hall" "asking" "I", Cond.methodLink RX1 81 yX1_chiefAsker, Cond.instanceMethod yX1_chiefAsker, Cond.selects RX1 yX1_chiefAsker yX1_chiefAsker]
def wsL_isTimed_r2 : List Cond := [Cond.code yX1_chiefAsker cX1_chiefAsker 1 (some .int), Cond.fieldLink RX1 32 "ConcertUsher$Hall" "isSecondPresent" "Z", Cond.fieldLink RX1 29 "ConcertUsher$Hall" "isFirstPresent" "Z", Cond.methodLink RL 33 yX3_count, Cond.instanceMethod yX3_count, Cond.selects RX3 yX3_count yX3_count, Cond.code yX3_count cX3_count 2 (some .int), Cond.classLink RX3 101 "java/lang/IndexOutOfBoundsException", Cond.initialized "java/lang/IndexOutOfBoundsException", Cond.fieldLink RX3 146 "ConcertUsher$Hall" "counts" "[I", Cond.methodLink RL 26 yX3_rest, Cond.instanceMethod yX3_rest, Cond.selects RX3 yX3_rest yX3_rest, Cond.code yX3_rest cX3_rest 3 (some .int), Cond.fieldLink RX3 116 "ConcertUsher$Hall" "rests" "[I", Cond.methodLink RX3 30 yX3_checkRow, Cond.static yX3_checkRow, Cond.code yX3_checkRow cX3_checkRow 1 none, Cond.methodLink RX3 200 yX3_isRow, Cond.static yX3_isRow, Cond.code yX3_isRow cX3_isRow 1 (some .boolean), Cond.methodLink RX3 34 yX3_checkConcert, Cond.static yX3_checkConcert, Cond.code yX3_checkConcert cX3_checkConcert 1 none]
def wsL_isTimed_r3 : List Cond := [Cond.methodLink RX3 205 yX3_isConcert, Cond.static yX3_isConcert, Cond.code yX3_isConcert cX3_isConcert 1 (some .boolean), Cond.methodLink RX3 37 yX3_placeOf, Cond.static yX3_placeOf, Cond.code yX3_placeOf cX3_placeOf 2 (some .int), Cond.methodLink RL 68 yX3_pass, Cond.instanceMethod yX3_pass, Cond.selects RX3 yX3_pass yX3_pass, Cond.code yX3_pass cX3_pass 2 (some .int), Cond.fieldLink RX3 19 "ConcertUsher" "history" "LConcertUsher$History;", Cond.methodLink RX3 129 yX3_checkMinutes, Cond.static yX3_checkMinutes, Cond.code yX3_checkMinutes cX3_checkMinutes 1 none, Cond.classLink RX3 82 "java/lang/IllegalArgumentException", Cond.initialized "java/lang/IllegalArgumentException", Cond.methodLink RX3 52 yX2_keep, Cond.instanceMethod yX2_keep, Cond.selects RX2 yX2_keep yX2_keep, Cond.initialized RX2, Cond.code yX2_keep cX2_keep 2 none, Cond.fieldLink RX2 21 "ConcertUsher$History" "size" "I", Cond.fieldLink RX2 17 "ConcertUsher$History" "oldest" "I", Cond.fieldLink RX2 11 "ConcertUsher$History" "halls" "[LConcertUsher$Hall;"]
def wsL_isTimed_r4 : List Cond := [Cond.methodLink RX2 25 yX1_copyFrom, Cond.instanceMethod yX1_copyFrom, Cond.selects RX1 yX1_copyFrom yX1_copyFrom, Cond.code yX1_copyFrom cX1_copyFrom 2 none, Cond.fieldLink RX1 9 "ConcertUsher$Hall" "listeners" "[I", Cond.methodLink RX1 50 arraycopyName, Cond.native arraycopyName, Cond.static arraycopyName, Cond.initialized "java/lang/System", Cond.fieldLink RX1 15 "ConcertUsher$Hall" "rests" "[I", Cond.fieldLink RX1 18 "ConcertUsher$Hall" "counts" "[I", Cond.fieldLink RX1 21 "ConcertUsher$Hall" "openRows" "I", Cond.fieldLink RX1 25 "ConcertUsher$Hall" "isQuick" "Z", Cond.fieldLink RX1 35 "ConcertUsher$Hall" "fading" "I", Cond.fieldLink RX1 38 "ConcertUsher$Hall" "patience" "I", Cond.fieldLink RX1 44 "ConcertUsher$Hall" "minutes" "I", Cond.methodLink RX3 132 yX1_letPass, Cond.instanceMethod yX1_letPass, Cond.selects RX1 yX1_letPass yX1_letPass, Cond.code yX1_letPass cX1_letPass 4 (some .int), Cond.methodLink RX1 71 yX1_fadeEntries, Cond.instanceMethod yX1_fadeEntries, Cond.selects RX1 yX1_fadeEntries yX1_fadeEntries, Cond.code yX1_fadeEntries cX1_fadeEntries 2 none]
def wsL_isTimed_r5 : List Cond := [Cond.methodLink RX1 78 yX1_askAllRows, Cond.instanceMethod yX1_askAllRows, Cond.selects RX1 yX1_askAllRows yX1_askAllRows, Cond.code yX1_askAllRows cX1_askAllRows 2 none, Cond.methodLink RX1 56 yX1_hearCall, Cond.instanceMethod yX1_hearCall, Cond.selects RX1 yX1_hearCall yX1_hearCall, Cond.code yX1_hearCall cX1_hearCall 2 none, Cond.methodLink RL 16 yX3_sinceQuestion, Cond.instanceMethod yX3_sinceQuestion, Cond.selects RX3 yX3_sinceQuestion yX3_sinceQuestion, Cond.code yX3_sinceQuestion cX3_sinceQuestion 1 (some .int), Cond.fieldLink RX3 141 "ConcertUsher$Hall" "sinceQuestion" "I", Cond.methodLink RL 22 yX3_listeners, Cond.instanceMethod yX3_listeners, Cond.selects RX3 yX3_listeners yX3_listeners, Cond.code yX3_listeners cX3_listeners 3 (some .int), Cond.fieldLink RX3 59 "ConcertUsher$Hall" "listeners" "[I", Cond.methodLink RL 84 yX3_undo, Cond.instanceMethod yX3_undo, Cond.selects RX3 yX3_undo yX3_undo, Cond.code yX3_undo cX3_undo 1 (some .int), Cond.classLink RX3 45 "java/lang/IllegalStateException", Cond.initialized "java/lang/IllegalStateException"]
def wsL_isTimed_r6 : List Cond := [Cond.fieldLink RX3 181 "ConcertUsher$History" "size" "I", Cond.methodLink RX3 186 yX2_takeBack, Cond.instanceMethod yX2_takeBack, Cond.selects RX2 yX2_takeBack yX2_takeBack, Cond.code yX2_takeBack cX2_takeBack 2 none]
def wsL_isTimed : List Cond := .code yL_isTimed cL_isTimed 7 (some .boolean) :: ((wsL_isTimed_r1 ++ (wsL_isTimed_r2 ++ (wsL_isTimed_r3 ++ (wsL_isTimed_r4 ++ (wsL_isTimed_r5 ++ wsL_isTimed_r6))))) ++ wsX30 ++ wsX10 ++ wsX20 ++ (vx_atS RX3 105 "java/lang/IndexOutOfBoundsException" ["java/lang/RuntimeException", "java/lang/Exception"]).filter goodWord ++ (vx_atS RX3 86 "java/lang/IllegalArgumentException" ["java/lang/RuntimeException", "java/lang/Exception"]).filter goodWord ++ (vx_atS RX3 49 "java/lang/IllegalStateException" ["java/lang/RuntimeException", "java/lang/Exception"]).filter goodWord)
def wsL_law0_r1 : List Cond := [Cond.classLink RL 11 RX3, Cond.instantiable RX3 3, Cond.initialized RX3, Cond.methodLink RL 100 yX3_init, Cond.instanceMethod yX3_init, Cond.code yX3_init cX3_init 1 none, Cond.methodLink RX3 3 objectInit, Cond.instanceMethod objectInit, Cond.code objectInit ⟨#[0xb1]⟩ 1 none, Cond.classLink RX3 9 RX1, Cond.instantiable RX1 12, Cond.initialized RX1, Cond.fieldLink RX3 12 "ConcertUsher" "hall" "LConcertUsher$Hall;", Cond.classLink RX3 16 RX2, Cond.instantiable RX2 3, Cond.initialized RX2, Cond.fieldLink RX3 19 "ConcertUsher" "history" "LConcertUsher$History;", Cond.classLink RX3 23 RX0, Cond.instantiable RX0 2, Cond.initialized RX0, Cond.fieldLink RX3 26 "ConcertUsher" "text" "LConcertUsher$EventText;", Cond.instanceMethod yX1_init, Cond.code yX1_init cX1_init 1 none, Cond.methodLink RX1 3 objectInit]
def wsL_law0_r2 : List Cond := [Cond.arrayClass .int, Cond.fieldLink RX1 9 "ConcertUsher$Hall" "listeners" "[I", Cond.fieldLink RX1 15 "ConcertUsher$Hall" "rests" "[I", Cond.fieldLink RX1 18 "ConcertUsher$Hall" "counts" "[I", Cond.fieldLink RX1 21 "ConcertUsher$Hall" "openRows" "I", Cond.fieldLink RX1 25 "ConcertUsher$Hall" "isQuick" "Z", Cond.fieldLink RX1 29 "ConcertUsher$Hall" "isFirstPresent" "Z", Cond.fieldLink RX1 32 "ConcertUsher$Hall" "isSecondPresent" "Z", Cond.fieldLink RX1 35 "ConcertUsher$Hall" "fading" "I", Cond.fieldLink RX1 38 "ConcertUsher$Hall" "patience" "I", Cond.fieldLink RX1 41 "ConcertUsher$Hall" "asking" "I", Cond.fieldLink RX1 44 "ConcertUsher$Hall" "minutes" "I", Cond.fieldLink RX1 47 "ConcertUsher$Hall" "sinceQuestion" "I", Cond.methodLink RX3 18 yX2_init, Cond.instanceMethod yX2_init, Cond.code yX2_init cX2_init 2 none, Cond.methodLink RX2 3 objectInit, Cond.classLink RX2 9 RX1, Cond.fieldLink RX2 11 "ConcertUsher$History" "halls" "[LConcertUsher$Hall;", Cond.fieldLink RX2 17 "ConcertUsher$History" "oldest" "I", Cond.fieldLink RX2 21 "ConcertUsher$History" "size" "I", Cond.instanceMethod yX0_init, Cond.code yX0_init cX0_init 1 none, Cond.methodLink RX0 3 objectInit]
def wsL_law0_r3 : List Cond := [Cond.arrayClass .char, Cond.fieldLink RX0 9 "ConcertUsher$EventText" "signs" "[C", Cond.fieldLink RX0 15 "ConcertUsher$EventText" "length" "I", Cond.methodLink RL 101 yL_cell, Cond.static yL_cell, Cond.initialized RL, Cond.code yL_cell cL_cell 2 (some .int), Cond.methodLink RL 105 yX3_savedStates, Cond.instanceMethod yX3_savedStates, Cond.selects RX3 yX3_savedStates yX3_savedStates, Cond.code yX3_savedStates cX3_savedStates 1 (some .int), Cond.fieldLink RX3 181 "ConcertUsher$History" "size" "I", Cond.methodLink RL 84 yX3_undo, Cond.instanceMethod yX3_undo, Cond.selects RX3 yX3_undo yX3_undo, Cond.code yX3_undo cX3_undo 1 (some .int), Cond.classLink RX3 45 "java/lang/IllegalStateException", Cond.initialized "java/lang/IllegalStateException", Cond.methodLink RX3 186 yX2_takeBack, Cond.instanceMethod yX2_takeBack, Cond.selects RX2 yX2_takeBack yX2_takeBack, Cond.code yX2_takeBack cX2_takeBack 2 none, Cond.methodLink RX2 25 yX1_copyFrom, Cond.instanceMethod yX1_copyFrom]
def wsL_law0_r4 : List Cond := [Cond.selects RX1 yX1_copyFrom yX1_copyFrom, Cond.code yX1_copyFrom cX1_copyFrom 2 none, Cond.methodLink RX1 50 arraycopyName, Cond.native arraycopyName, Cond.static arraycopyName, Cond.initialized "java/lang/System", Cond.methodLink RL 77 yL_told, Cond.static yL_told, Cond.code yL_told cL_told 4 (some .long), Cond.constantLong RL 8 (31), Cond.methodLink RL 10 yX3_minutes, Cond.instanceMethod yX3_minutes, Cond.selects RX3 yX3_minutes yX3_minutes, Cond.code yX3_minutes cX3_minutes 1 (some .int), Cond.fieldLink RX3 138 "ConcertUsher$Hall" "minutes" "I", Cond.methodLink RL 16 yX3_sinceQuestion, Cond.instanceMethod yX3_sinceQuestion, Cond.selects RX3 yX3_sinceQuestion yX3_sinceQuestion, Cond.code yX3_sinceQuestion cX3_sinceQuestion 1 (some .int), Cond.fieldLink RX3 141 "ConcertUsher$Hall" "sinceQuestion" "I", Cond.methodLink RL 19 yX3_chief, Cond.instanceMethod yX3_chief, Cond.selects RX3 yX3_chief yX3_chief, Cond.code yX3_chief cX3_chief 1 (some .int)]
def wsL_law0_r5 : List Cond := [Cond.methodLink RX3 112 yX1_chiefAsker, Cond.instanceMethod yX1_chiefAsker, Cond.selects RX1 yX1_chiefAsker yX1_chiefAsker, Cond.code yX1_chiefAsker cX1_chiefAsker 1 (some .int), Cond.methodLink RL 22 yX3_listeners, Cond.instanceMethod yX3_listeners, Cond.selects RX3 yX3_listeners yX3_listeners, Cond.code yX3_listeners cX3_listeners 3 (some .int), Cond.fieldLink RX3 59 "ConcertUsher$Hall" "listeners" "[I", Cond.methodLink RX3 30 yX3_checkRow, Cond.static yX3_checkRow, Cond.code yX3_checkRow cX3_checkRow 1 none, Cond.classLink RX3 101 "java/lang/IndexOutOfBoundsException", Cond.initialized "java/lang/IndexOutOfBoundsException", Cond.methodLink RX3 200 yX3_isRow, Cond.static yX3_isRow, Cond.code yX3_isRow cX3_isRow 1 (some .boolean), Cond.methodLink RX3 34 yX3_checkConcert, Cond.static yX3_checkConcert, Cond.code yX3_checkConcert cX3_checkConcert 1 none, Cond.methodLink RX3 205 yX3_isConcert, Cond.static yX3_isConcert, Cond.code yX3_isConcert cX3_isConcert 1 (some .boolean), Cond.methodLink RX3 37 yX3_placeOf]
def wsL_law0_r6 : List Cond := [Cond.static yX3_placeOf, Cond.code yX3_placeOf cX3_placeOf 2 (some .int), Cond.methodLink RL 26 yX3_rest, Cond.instanceMethod yX3_rest, Cond.selects RX3 yX3_rest yX3_rest, Cond.code yX3_rest cX3_rest 3 (some .int), Cond.fieldLink RX3 116 "ConcertUsher$Hall" "rests" "[I", Cond.methodLink RL 29 yX3_isOpen, Cond.instanceMethod yX3_isOpen, Cond.selects RX3 yX3_isOpen yX3_isOpen, Cond.code yX3_isOpen cX3_isOpen 2 (some .boolean), Cond.methodLink RX3 72 yX1_isRowOpen, Cond.instanceMethod yX1_isRowOpen, Cond.selects RX1 yX1_isRowOpen yX1_isRowOpen, Cond.code yX1_isRowOpen cX1_isRowOpen 2 (some .boolean), Cond.methodLink RL 33 yX3_count, Cond.instanceMethod yX3_count, Cond.selects RX3 yX3_count yX3_count, Cond.code yX3_count cX3_count 2 (some .int), Cond.fieldLink RX3 146 "ConcertUsher$Hall" "counts" "[I", Cond.methodLink RL 108 yL_act, Cond.static yL_act, Cond.code yL_act cL_act 6 (some .int), Cond.methodLink RL 37 yL_low]
def wsL_law0_r7 : List Cond := [Cond.static yL_low, Cond.code yL_low cL_low 2 (some .int), Cond.constant RL 7 (2147483647), Cond.methodLink RL 42 yX3_come, Cond.instanceMethod yX3_come, Cond.selects RX3 yX3_come yX3_come, Cond.code yX3_come cX3_come 4 (some .int), Cond.methodLink RX3 41 yX1_hasRoom, Cond.instanceMethod yX1_hasRoom, Cond.selects RX1 yX1_hasRoom yX1_hasRoom, Cond.code yX1_hasRoom cX1_hasRoom 2 (some .boolean), Cond.methodLink RX3 52 yX2_keep, Cond.instanceMethod yX2_keep, Cond.selects RX2 yX2_keep yX2_keep, Cond.code yX2_keep cX2_keep 2 none, Cond.methodLink RX3 56 yX1_seat, Cond.instanceMethod yX1_seat, Cond.selects RX1 yX1_seat yX1_seat, Cond.code yX1_seat cX1_seat 2 none, Cond.methodLink RX1 56 yX1_hearCall, Cond.instanceMethod yX1_hearCall, Cond.selects RX1 yX1_hearCall yX1_hearCall, Cond.code yX1_hearCall cX1_hearCall 2 none, Cond.methodLink RL 45 yX3_leave]
def wsL_law0_r8 : List Cond := [Cond.instanceMethod yX3_leave, Cond.selects RX3 yX3_leave yX3_leave, Cond.code yX3_leave cX3_leave 5 (some .int), Cond.methodLink RX3 63 yX1_isWantedAt, Cond.instanceMethod yX1_isWantedAt, Cond.selects RX1 yX1_isWantedAt yX1_isWantedAt, Cond.code yX1_isWantedAt cX1_isWantedAt 2 (some .boolean), Cond.methodLink RX3 68 yX1_unseat, Cond.instanceMethod yX1_unseat, Cond.selects RX1 yX1_unseat yX1_unseat, Cond.code yX1_unseat cX1_unseat 3 none, Cond.methodLink RX1 60 yX1_hearFarewell, Cond.instanceMethod yX1_hearFarewell, Cond.selects RX1 yX1_hearFarewell yX1_hearFarewell, Cond.code yX1_hearFarewell cX1_hearFarewell 2 none, Cond.methodLink RX1 63 yX1_isWantedAt, Cond.methodLink RL 49 yX3_setOpen, Cond.instanceMethod yX3_setOpen, Cond.selects RX3 yX3_setOpen yX3_setOpen, Cond.code yX3_setOpen cX3_setOpen 4 (some .boolean), Cond.methodLink RX3 75 yX1_turnRow, Cond.instanceMethod yX1_turnRow, Cond.selects RX1 yX1_turnRow yX1_turnRow, Cond.code yX1_turnRow cX1_turnRow 2 none]
def wsL_law0_r9 : List Cond := [Cond.methodLink RL 53 yX3_setQuick, Cond.instanceMethod yX3_setQuick, Cond.selects RX3 yX3_setQuick yX3_setQuick, Cond.code yX3_setQuick cX3_setQuick 3 (some .boolean), Cond.fieldLink RX3 78 "ConcertUsher$Hall" "isQuick" "Z", Cond.methodLink RL 57 yX3_setTimes, Cond.instanceMethod yX3_setTimes, Cond.selects RX3 yX3_setTimes yX3_setTimes, Cond.code yX3_setTimes cX3_setTimes 5 (some .int), Cond.classLink RX3 82 "java/lang/IllegalArgumentException", Cond.initialized "java/lang/IllegalArgumentException", Cond.fieldLink RX3 91 "ConcertUsher$Hall" "fading" "I", Cond.fieldLink RX3 95 "ConcertUsher$Hall" "patience" "I", Cond.fieldLink RX3 98 "ConcertUsher$Hall" "asking" "I", Cond.methodLink RL 61 yX3_setPresent, Cond.instanceMethod yX3_setPresent, Cond.selects RX3 yX3_setPresent yX3_setPresent, Cond.code yX3_setPresent cX3_setPresent 3 (some .int), Cond.fieldLink RX3 106 "ConcertUsher$Hall" "isFirstPresent" "Z", Cond.fieldLink RX3 109 "ConcertUsher$Hall" "isSecondPresent" "Z", Cond.methodLink RL 65 yX3_play, Cond.instanceMethod yX3_play, Cond.selects RX3 yX3_play yX3_play, Cond.code yX3_play cX3_play 2 (some .int)]
def wsL_law0_r10 : List Cond := [Cond.methodLink RX3 135 yX1_perform, Cond.instanceMethod yX1_perform, Cond.selects RX1 yX1_perform yX1_perform, Cond.code yX1_perform cX1_perform 4 (some .int), Cond.methodLink RX1 84 yX1_rowsThatGet, Cond.instanceMethod yX1_rowsThatGet, Cond.selects RX1 yX1_rowsThatGet yX1_rowsThatGet, Cond.code yX1_rowsThatGet cX1_rowsThatGet 4 (some .int), Cond.methodLink RX1 88 yX1_rowsThatWant, Cond.instanceMethod yX1_rowsThatWant, Cond.selects RX1 yX1_rowsThatWant yX1_rowsThatWant, Cond.code yX1_rowsThatWant cX1_rowsThatWant 4 (some .int), Cond.methodLink RX1 91 yJ6_bitCount_0f7a4, Cond.static yJ6_bitCount_0f7a4, Cond.initialized RJ6, Cond.code yJ6_bitCount_0f7a4 cJ6_bitCount_0f7a4 1 (some .int), Cond.constant RJ6 265 (1431655765), Cond.constant RJ6 266 (858993459), Cond.constant RJ6 267 (252645135), Cond.methodLink RL 68 yX3_pass, Cond.instanceMethod yX3_pass, Cond.selects RX3 yX3_pass yX3_pass, Cond.code yX3_pass cX3_pass 2 (some .int), Cond.methodLink RX3 129 yX3_checkMinutes]
def wsL_law0_r11 : List Cond := [Cond.static yX3_checkMinutes, Cond.code yX3_checkMinutes cX3_checkMinutes 1 none, Cond.methodLink RX3 132 yX1_letPass, Cond.instanceMethod yX1_letPass, Cond.selects RX1 yX1_letPass yX1_letPass, Cond.code yX1_letPass cX1_letPass 4 (some .int), Cond.methodLink RX1 71 yX1_fadeEntries, Cond.instanceMethod yX1_fadeEntries, Cond.selects RX1 yX1_fadeEntries yX1_fadeEntries, Cond.code yX1_fadeEntries cX1_fadeEntries 2 none, Cond.methodLink RX1 74 yX1_timeBetweenQuestions, Cond.instanceMethod yX1_timeBetweenQuestions, Cond.selects RX1 yX1_timeBetweenQuestions yX1_timeBetweenQuestions, Cond.code yX1_timeBetweenQuestions cX1_timeBetweenQuestions 1 (some .int), Cond.methodLink RX1 81 yX1_chiefAsker, Cond.methodLink RX1 78 yX1_askAllRows, Cond.instanceMethod yX1_askAllRows, Cond.selects RX1 yX1_askAllRows yX1_askAllRows, Cond.code yX1_askAllRows cX1_askAllRows 2 none, Cond.methodLink RL 112 yL_holds, Cond.static yL_holds, Cond.code yL_holds cL_holds 8 (some .boolean), Cond.methodLink RL 71 yX3_rows, Cond.instanceMethod yX3_rows]
def wsL_law0_r12 : List Cond := [Cond.selects RX3 yX3_rows yX3_rows, Cond.code yX3_rows cX3_rows 2 (some .int), Cond.methodLink RX3 122 yX1_rowsThatGet, Cond.methodLink RL 74 yX3_wanted, Cond.instanceMethod yX3_wanted, Cond.selects RX3 yX3_wanted yX3_wanted, Cond.code yX3_wanted cX3_wanted 2 (some .int), Cond.methodLink RX3 126 yX1_rowsThatWant, Cond.methodLink RL 87 yX3_minutesToFade, Cond.instanceMethod yX3_minutesToFade, Cond.selects RX3 yX3_minutesToFade yX3_minutesToFade, Cond.code yX3_minutesToFade cX3_minutesToFade 3 (some .int), Cond.methodLink RX3 149 yX1_fadesIn, Cond.instanceMethod yX1_fadesIn, Cond.selects RX1 yX1_fadesIn yX1_fadesIn, Cond.code yX1_fadesIn cX1_fadesIn 3 (some .int), Cond.methodLink RX1 101 yX1_asksIn, Cond.instanceMethod yX1_asksIn, Cond.selects RX1 yX1_asksIn yX1_asksIn, Cond.code yX1_asksIn cX1_asksIn 1 (some .int), Cond.methodLink RX1 96 Lib.Math.max.name, Cond.static Lib.Math.max.name, Cond.initialized "java/lang/Math", Cond.code Lib.Math.max.name Lib.Math.max.code 2 (some .int)]
def wsL_law0_r13 : List Cond := [Cond.methodLink RL 90 yX3_entries, Cond.instanceMethod yX3_entries, Cond.selects RX3 yX3_entries yX3_entries, Cond.code yX3_entries cX3_entries 1 (some .int), Cond.methodLink RX3 119 yX1_entriesInAll, Cond.instanceMethod yX1_entriesInAll, Cond.selects RX1 yX1_entriesInAll yX1_entriesInAll, Cond.code yX1_entriesInAll cX1_entriesInAll 3 (some .int), Cond.methodLink RL 93 yX3_minutesToQuestion, Cond.instanceMethod yX3_minutesToQuestion, Cond.selects RX3 yX3_minutesToQuestion yX3_minutesToQuestion, Cond.code yX3_minutesToQuestion cX3_minutesToQuestion 1 (some .int), Cond.methodLink RX3 152 yX1_asksIn, Cond.methodLink RL 96 yX3_usefulShare, Cond.instanceMethod yX3_usefulShare, Cond.selects RX3 yX3_usefulShare yX3_usefulShare, Cond.code yX3_usefulShare cX3_usefulShare 3 (some .double), Cond.methodLink RL 116 yL_isPlayed, Cond.static yL_isPlayed, Cond.code yL_isPlayed cL_isPlayed 10 (some .boolean), Cond.methodLink RL 81 yL_bits, Cond.static yL_bits, Cond.code yL_bits cL_bits 3 (some .int), Cond.methodLink RL 120 yL_isTimed]
def wsL_law0_r14 : List Cond := [Cond.static yL_isTimed, Cond.code yL_isTimed cL_isTimed 7 (some .boolean)]
def wsL_law0 : List Cond := (wsL_law0_r1 ++ (wsL_law0_r2 ++ (wsL_law0_r3 ++ (wsL_law0_r4 ++ (wsL_law0_r5 ++ (wsL_law0_r6 ++ (wsL_law0_r7 ++ (wsL_law0_r8 ++ (wsL_law0_r9 ++ (wsL_law0_r10 ++ (wsL_law0_r11 ++ (wsL_law0_r12 ++ (wsL_law0_r13 ++ wsL_law0_r14))))))))))))) ++ wsX30 ++ wsX10 ++ wsX20 ++ wsX00 ++ ([] : List Cond)
end
section
def wsL_law : List Cond := wsL_law0 ++ (vx_atS RX3 49 "java/lang/IllegalStateException" ["java/lang/RuntimeException", "java/lang/Exception"]).filter goodWord ++ (vx_atS RX3 105 "java/lang/IndexOutOfBoundsException" ["java/lang/RuntimeException", "java/lang/Exception"]).filter goodWord ++ (vx_atS RX3 86 "java/lang/IllegalArgumentException" ["java/lang/RuntimeException", "java/lang/Exception"]).filter goodWord
set_option maxRecDepth 20000 in
theorem wsL_law0_r1_in : ∀ w ∈ wsL_law0_r1, w ∈ lw_tbl := fun w h => (goodIn_p wsL_law0_r1 [24, 27, 32] (by decide +kernel) (by decide +kernel) w h).1
set_option maxRecDepth 20000 in
theorem wsL_law0_r2_in : ∀ w ∈ wsL_law0_r2, w ∈ lw_tbl := fun w h => (goodIn_p wsL_law0_r2 [87, 107] (by decide +kernel) (by decide +kernel) w h).1
set_option maxRecDepth 20000 in
theorem wsL_law0_r3_in : ∀ w ∈ wsL_law0_r3, w ∈ lw_tbl := fun w h => (goodIn_p wsL_law0_r3 [216, 213, 130, 202] (by decide +kernel) (by decide +kernel) w h).1
set_option maxRecDepth 20000 in
theorem wsL_law0_r4_in : ∀ w ∈ wsL_law0_r4, w ∈ lw_tbl := fun w h => (goodIn_p wsL_law0_r4 [206, 223, 228, 232, 236] (by decide +kernel) (by decide +kernel) w h).1
set_option maxRecDepth 20000 in
theorem wsL_law0_r5_in : ∀ w ∈ wsL_law0_r5, w ∈ lw_tbl := fun w h => (goodIn_p wsL_law0_r5 [240, 244, 247, 250, 269, 272] (by decide +kernel) (by decide +kernel) w h).1
set_option maxRecDepth 20000 in
theorem wsL_law0_r6_in : ∀ w ∈ wsL_law0_r6, w ∈ lw_tbl := fun w h => (goodIn_p wsL_law0_r6 [276, 280, 284, 288, 292, 296] (by decide +kernel) (by decide +kernel) w h).1
set_option maxRecDepth 20000 in
theorem wsL_law0_r7_in : ∀ w ∈ wsL_law0_r7, w ∈ lw_tbl := fun w h => (goodIn_p wsL_law0_r7 [219, 300, 304, 309, 313, 317] (by decide +kernel) (by decide +kernel) w h).1
set_option maxRecDepth 20000 in
theorem wsL_law0_r8_in : ∀ w ∈ wsL_law0_r8, w ∈ lw_tbl := fun w h => (goodIn_p wsL_law0_r8 [321, 325, 330, 334, 339, 343] (by decide +kernel) (by decide +kernel) w h).1
set_option maxRecDepth 20000 in
theorem wsL_law0_r9_in : ∀ w ∈ wsL_law0_r9, w ∈ lw_tbl := fun w h => (goodIn_p wsL_law0_r9 [347, 351, 373, 378] (by decide +kernel) (by decide +kernel) w h).1
set_option maxRecDepth 20000 in
theorem wsL_law0_r10_in : ∀ w ∈ wsL_law0_r10, w ∈ lw_tbl := fun w h => (goodIn_p wsL_law0_r10 [382, 386, 391, 394, 401] (by decide +kernel) (by decide +kernel) w h).1
set_option maxRecDepth 20000 in
theorem wsL_law0_r11_in : ∀ w ∈ wsL_law0_r11, w ∈ lw_tbl := fun w h => (goodIn_p wsL_law0_r11 [404, 409, 413, 417, 422, 441] (by decide +kernel) (by decide +kernel) w h).1
set_option maxRecDepth 20000 in
theorem wsL_law0_r12_in : ∀ w ∈ wsL_law0_r12, w ∈ lw_tbl := fun w h => (goodIn_p wsL_law0_r12 [429, 434, 445, 449, 453, 456] (by decide +kernel) (by decide +kernel) w h).1
set_option maxRecDepth 20000 in
theorem wsL_law0_r13_in : ∀ w ∈ wsL_law0_r13, w ∈ lw_tbl := fun w h => (goodIn_p wsL_law0_r13 [460, 464, 468, 473, 425, 438] (by decide +kernel) (by decide +kernel) w h).1
set_option maxRecDepth 20000 in
theorem wsL_law0_r14_in : ∀ w ∈ wsL_law0_r14, w ∈ lw_tbl := fun w h => (goodIn_p wsL_law0_r14 [476] (by decide +kernel) (by decide +kernel) w h).1
theorem wsX30_in : ∀ w ∈ wsX30, w ∈ lw_tbl := by decide +kernel
theorem wsX10_in : ∀ w ∈ wsX10, w ∈ lw_tbl := by decide +kernel
theorem wsX20_in : ∀ w ∈ wsX20, w ∈ lw_tbl := by decide +kernel
theorem wsX00_in : ∀ w ∈ wsX00, w ∈ lw_tbl := by decide +kernel
theorem k_app_in {a b : List Cond} (ha : ∀ w ∈ a, w ∈ lw_tbl) (hb : ∀ w ∈ b, w ∈ lw_tbl) : ∀ w ∈ a ++ b, w ∈ lw_tbl := fun w h => (List.mem_append.mp h).elim (ha w) (hb w)
theorem wsL_law_in0 : ∀ w ∈ wsL_law0, w ∈ lw_tbl := (k_app_in (k_app_in (k_app_in (k_app_in (k_app_in (k_app_in wsL_law0_r1_in (k_app_in wsL_law0_r2_in (k_app_in wsL_law0_r3_in (k_app_in wsL_law0_r4_in (k_app_in wsL_law0_r5_in (k_app_in wsL_law0_r6_in (k_app_in wsL_law0_r7_in (k_app_in wsL_law0_r8_in (k_app_in wsL_law0_r9_in (k_app_in wsL_law0_r10_in (k_app_in wsL_law0_r11_in (k_app_in wsL_law0_r12_in (k_app_in wsL_law0_r13_in (wsL_law0_r14_in)))))))))))))) wsX30_in) wsX10_in) wsX20_in) wsX00_in) (fun _ h => absurd h List.not_mem_nil))
theorem wsL_law_x0 : ∀ w ∈ (vx_atS RX3 49 "java/lang/IllegalStateException" ["java/lang/RuntimeException", "java/lang/Exception"]).filter goodWord, w ∈ lw_tbl := by decide +kernel
theorem wsL_law_x1 : ∀ w ∈ (vx_atS RX3 105 "java/lang/IndexOutOfBoundsException" ["java/lang/RuntimeException", "java/lang/Exception"]).filter goodWord, w ∈ lw_tbl := by decide +kernel
theorem wsL_law_x2 : ∀ w ∈ (vx_atS RX3 86 "java/lang/IllegalArgumentException" ["java/lang/RuntimeException", "java/lang/Exception"]).filter goodWord, w ∈ lw_tbl := by decide +kernel
theorem wsL_law_in : ∀ w ∈ wsL_law, w ∈ lw_tbl := fun w h => (List.mem_append.mp h).elim (fun h => (List.mem_append.mp h).elim (fun h => (List.mem_append.mp h).elim (fun h => wsL_law_in0 w h) (fun h => wsL_law_x0 w h)) (fun h => wsL_law_x1 w h)) (fun h => wsL_law_x2 w h)
theorem inlX0 : ∀ w ∈ wsX00, w ∈ wsL_law := fun _ h => List.mem_append_left _ (List.mem_append_left _ (List.mem_append_left _ (List.mem_append_left _ (List.mem_append_right _ h))))
theorem inX0 : ∀ w ∈ wsX00, w ∈ lw_tbl := fun w h => wsL_law_in w (inlX0 w h)
theorem inlX1 : ∀ w ∈ wsX10, w ∈ wsL_law := fun _ h => List.mem_append_left _ (List.mem_append_left _ (List.mem_append_left _ (List.mem_append_left _ (List.mem_append_left _ (List.mem_append_left _ (List.mem_append_right _ h))))))
theorem inX1 : ∀ w ∈ wsX10, w ∈ lw_tbl := fun w h => wsL_law_in w (inlX1 w h)
theorem inlX2 : ∀ w ∈ wsX20, w ∈ wsL_law := fun _ h => List.mem_append_left _ (List.mem_append_left _ (List.mem_append_left _ (List.mem_append_left _ (List.mem_append_left _ (List.mem_append_right _ h)))))
theorem inX2 : ∀ w ∈ wsX20, w ∈ lw_tbl := fun w h => wsL_law_in w (inlX2 w h)
theorem inlX3 : ∀ w ∈ wsX30, w ∈ wsL_law := fun _ h => List.mem_append_left _ (List.mem_append_left _ (List.mem_append_left _ (List.mem_append_left _ (List.mem_append_left _ (List.mem_append_left _ (List.mem_append_left _ (List.mem_append_right _ h)))))))
theorem inX3 : ∀ w ∈ wsX30, w ∈ lw_tbl := fun w h => wsL_law_in w (inlX3 w h)
theorem inX4 : ∀ w ∈ wsX40, w ∈ lw_tbl := by decide +kernel
theorem inJ6 : ∀ w ∈ wsJ60, w ∈ lw_tbl := by decide +kernel
theorem inJ9 : ∀ w ∈ wsJ90, w ∈ lw_tbl := by decide +kernel
theorem inJ0 : ∀ w ∈ wsJ00, w ∈ lw_tbl := by decide +kernel
theorem inJ10 : ∀ w ∈ wsJ100, w ∈ lw_tbl := by decide +kernel
abbrev vwCl : List vw_C := [(RX0, TX0, 2), (RX1, TX1, 12), (RX2, TX2, 3), (RX3, TX3, 3)]
end
section
theorem dX0_init_0 : decode cX0_init 0 = .ok (.aload_n 0, 1) := by decide +kernel
theorem dX0_init_1 : decode cX0_init 1 = .ok (.invokespecial 3, 3) := by decide +kernel
theorem dX0_init_4 : decode cX0_init 4 = .ok (.aload_n 0, 1) := by decide +kernel
theorem dX0_init_5 : decode cX0_init 5 = .ok (.bipush 60, 2) := by decide +kernel
theorem dX0_init_7 : decode cX0_init 7 = .ok (.newarray .char, 2) := by decide +kernel
theorem dX0_init_9 : decode cX0_init 9 = .ok (.putfield 9, 3) := by decide +kernel
theorem dX0_init_12 : decode cX0_init 12 = .ok (.aload_n 0, 1) := by decide +kernel
theorem dX0_init_13 : decode cX0_init 13 = .ok (.iconst 0, 1) := by decide +kernel
theorem dX0_init_14 : decode cX0_init 14 = .ok (.putfield 15, 3) := by decide +kernel
theorem dX0_init_17 : decode cX0_init 17 = .ok (.return_, 1) := by decide +kernel
theorem dX1_init_0 : decode cX1_init 0 = .ok (.aload_n 0, 1) := by decide +kernel
theorem dX1_init_1 : decode cX1_init 1 = .ok (.invokespecial 3, 3) := by decide +kernel
theorem dX1_init_4 : decode cX1_init 4 = .ok (.aload_n 0, 1) := by decide +kernel
theorem dX1_init_5 : decode cX1_init 5 = .ok (.bipush 48, 2) := by decide +kernel
theorem dX1_init_7 : decode cX1_init 7 = .ok (.newarray .int, 2) := by decide +kernel
theorem dX1_init_9 : decode cX1_init 9 = .ok (.putfield 9, 3) := by decide +kernel
theorem dX1_init_12 : decode cX1_init 12 = .ok (.aload_n 0, 1) := by decide +kernel
theorem dX1_init_13 : decode cX1_init 13 = .ok (.bipush 48, 2) := by decide +kernel
theorem dX1_init_15 : decode cX1_init 15 = .ok (.newarray .int, 2) := by decide +kernel
theorem dX1_init_17 : decode cX1_init 17 = .ok (.putfield 15, 3) := by decide +kernel
theorem dX1_init_20 : decode cX1_init 20 = .ok (.aload_n 0, 1) := by decide +kernel
theorem dX1_init_21 : decode cX1_init 21 = .ok (.bipush 6, 2) := by decide +kernel
theorem dX1_init_23 : decode cX1_init 23 = .ok (.newarray .int, 2) := by decide +kernel
theorem dX1_init_25 : decode cX1_init 25 = .ok (.putfield 18, 3) := by decide +kernel
theorem dX1_init_28 : decode cX1_init 28 = .ok (.aload_n 0, 1) := by decide +kernel
theorem dX1_init_29 : decode cX1_init 29 = .ok (.iconst 0, 1) := by decide +kernel
theorem dX1_init_30 : decode cX1_init 30 = .ok (.putfield 21, 3) := by decide +kernel
theorem dX1_init_33 : decode cX1_init 33 = .ok (.aload_n 0, 1) := by decide +kernel
theorem dX1_init_34 : decode cX1_init 34 = .ok (.iconst 0, 1) := by decide +kernel
theorem dX1_init_35 : decode cX1_init 35 = .ok (.putfield 25, 3) := by decide +kernel
theorem dX1_init_38 : decode cX1_init 38 = .ok (.aload_n 0, 1) := by decide +kernel
theorem dX1_init_39 : decode cX1_init 39 = .ok (.iconst 0, 1) := by decide +kernel
theorem dX1_init_40 : decode cX1_init 40 = .ok (.putfield 29, 3) := by decide +kernel
theorem dX1_init_43 : decode cX1_init 43 = .ok (.aload_n 0, 1) := by decide +kernel
theorem dX1_init_44 : decode cX1_init 44 = .ok (.iconst 0, 1) := by decide +kernel
theorem dX1_init_45 : decode cX1_init 45 = .ok (.putfield 32, 3) := by decide +kernel
theorem dX1_init_48 : decode cX1_init 48 = .ok (.aload_n 0, 1) := by decide +kernel
theorem dX1_init_49 : decode cX1_init 49 = .ok (.bipush 20, 2) := by decide +kernel
theorem dX1_init_51 : decode cX1_init 51 = .ok (.putfield 35, 3) := by decide +kernel
theorem dX1_init_54 : decode cX1_init 54 = .ok (.aload_n 0, 1) := by decide +kernel
theorem dX1_init_55 : decode cX1_init 55 = .ok (.iconst 3, 1) := by decide +kernel
theorem dX1_init_56 : decode cX1_init 56 = .ok (.putfield 38, 3) := by decide +kernel
theorem dX1_init_59 : decode cX1_init 59 = .ok (.aload_n 0, 1) := by decide +kernel
theorem dX1_init_60 : decode cX1_init 60 = .ok (.bipush 10, 2) := by decide +kernel
theorem dX1_init_62 : decode cX1_init 62 = .ok (.putfield 41, 3) := by decide +kernel
theorem dX1_init_65 : decode cX1_init 65 = .ok (.aload_n 0, 1) := by decide +kernel
theorem dX1_init_66 : decode cX1_init 66 = .ok (.iconst 0, 1) := by decide +kernel
theorem dX1_init_67 : decode cX1_init 67 = .ok (.putfield 44, 3) := by decide +kernel
theorem dX1_init_70 : decode cX1_init 70 = .ok (.aload_n 0, 1) := by decide +kernel
theorem dX1_init_71 : decode cX1_init 71 = .ok (.iconst 0, 1) := by decide +kernel
theorem dX1_init_72 : decode cX1_init 72 = .ok (.putfield 47, 3) := by decide +kernel
theorem dX1_init_75 : decode cX1_init 75 = .ok (.return_, 1) := by decide +kernel
theorem dX1_copyFrom_0 : decode cX1_copyFrom 0 = .ok (.aload_n 1, 1) := by decide +kernel
theorem dX1_copyFrom_1 : decode cX1_copyFrom 1 = .ok (.getfield 9, 3) := by decide +kernel
theorem dX1_copyFrom_4 : decode cX1_copyFrom 4 = .ok (.iconst 0, 1) := by decide +kernel
theorem dX1_copyFrom_5 : decode cX1_copyFrom 5 = .ok (.aload_n 0, 1) := by decide +kernel
theorem dX1_copyFrom_6 : decode cX1_copyFrom 6 = .ok (.getfield 9, 3) := by decide +kernel
theorem dX1_copyFrom_9 : decode cX1_copyFrom 9 = .ok (.iconst 0, 1) := by decide +kernel
theorem dX1_copyFrom_10 : decode cX1_copyFrom 10 = .ok (.bipush 48, 2) := by decide +kernel
theorem dX1_copyFrom_12 : decode cX1_copyFrom 12 = .ok (.invokestatic 50, 3) := by decide +kernel
theorem dX1_copyFrom_15 : decode cX1_copyFrom 15 = .ok (.aload_n 1, 1) := by decide +kernel
theorem dX1_copyFrom_16 : decode cX1_copyFrom 16 = .ok (.getfield 15, 3) := by decide +kernel
theorem dX1_copyFrom_19 : decode cX1_copyFrom 19 = .ok (.iconst 0, 1) := by decide +kernel
theorem dX1_copyFrom_20 : decode cX1_copyFrom 20 = .ok (.aload_n 0, 1) := by decide +kernel
theorem dX1_copyFrom_21 : decode cX1_copyFrom 21 = .ok (.getfield 15, 3) := by decide +kernel
theorem dX1_copyFrom_24 : decode cX1_copyFrom 24 = .ok (.iconst 0, 1) := by decide +kernel
theorem dX1_copyFrom_25 : decode cX1_copyFrom 25 = .ok (.bipush 48, 2) := by decide +kernel
theorem dX1_copyFrom_27 : decode cX1_copyFrom 27 = .ok (.invokestatic 50, 3) := by decide +kernel
theorem dX1_copyFrom_30 : decode cX1_copyFrom 30 = .ok (.aload_n 1, 1) := by decide +kernel
theorem dX1_copyFrom_31 : decode cX1_copyFrom 31 = .ok (.getfield 18, 3) := by decide +kernel
theorem dX1_copyFrom_34 : decode cX1_copyFrom 34 = .ok (.iconst 0, 1) := by decide +kernel
theorem dX1_copyFrom_35 : decode cX1_copyFrom 35 = .ok (.aload_n 0, 1) := by decide +kernel
theorem dX1_copyFrom_36 : decode cX1_copyFrom 36 = .ok (.getfield 18, 3) := by decide +kernel
theorem dX1_copyFrom_39 : decode cX1_copyFrom 39 = .ok (.iconst 0, 1) := by decide +kernel
theorem dX1_copyFrom_40 : decode cX1_copyFrom 40 = .ok (.bipush 6, 2) := by decide +kernel
theorem dX1_copyFrom_42 : decode cX1_copyFrom 42 = .ok (.invokestatic 50, 3) := by decide +kernel
theorem dX1_copyFrom_45 : decode cX1_copyFrom 45 = .ok (.aload_n 0, 1) := by decide +kernel
theorem dX1_copyFrom_46 : decode cX1_copyFrom 46 = .ok (.aload_n 1, 1) := by decide +kernel
theorem dX1_copyFrom_47 : decode cX1_copyFrom 47 = .ok (.getfield 21, 3) := by decide +kernel
theorem dX1_copyFrom_50 : decode cX1_copyFrom 50 = .ok (.putfield 21, 3) := by decide +kernel
theorem dX1_copyFrom_53 : decode cX1_copyFrom 53 = .ok (.aload_n 0, 1) := by decide +kernel
theorem dX1_copyFrom_54 : decode cX1_copyFrom 54 = .ok (.aload_n 1, 1) := by decide +kernel
theorem dX1_copyFrom_55 : decode cX1_copyFrom 55 = .ok (.getfield 25, 3) := by decide +kernel
theorem dX1_copyFrom_58 : decode cX1_copyFrom 58 = .ok (.putfield 25, 3) := by decide +kernel
theorem dX1_copyFrom_61 : decode cX1_copyFrom 61 = .ok (.aload_n 0, 1) := by decide +kernel
theorem dX1_copyFrom_62 : decode cX1_copyFrom 62 = .ok (.aload_n 1, 1) := by decide +kernel
theorem dX1_copyFrom_63 : decode cX1_copyFrom 63 = .ok (.getfield 29, 3) := by decide +kernel
theorem dX1_copyFrom_66 : decode cX1_copyFrom 66 = .ok (.putfield 29, 3) := by decide +kernel
theorem dX1_copyFrom_69 : decode cX1_copyFrom 69 = .ok (.aload_n 0, 1) := by decide +kernel
theorem dX1_copyFrom_70 : decode cX1_copyFrom 70 = .ok (.aload_n 1, 1) := by decide +kernel
theorem dX1_copyFrom_71 : decode cX1_copyFrom 71 = .ok (.getfield 32, 3) := by decide +kernel
theorem dX1_copyFrom_74 : decode cX1_copyFrom 74 = .ok (.putfield 32, 3) := by decide +kernel
theorem dX1_copyFrom_77 : decode cX1_copyFrom 77 = .ok (.aload_n 0, 1) := by decide +kernel
theorem dX1_copyFrom_78 : decode cX1_copyFrom 78 = .ok (.aload_n 1, 1) := by decide +kernel
theorem dX1_copyFrom_79 : decode cX1_copyFrom 79 = .ok (.getfield 35, 3) := by decide +kernel
theorem dX1_copyFrom_82 : decode cX1_copyFrom 82 = .ok (.putfield 35, 3) := by decide +kernel
theorem dX1_copyFrom_85 : decode cX1_copyFrom 85 = .ok (.aload_n 0, 1) := by decide +kernel
theorem dX1_copyFrom_86 : decode cX1_copyFrom 86 = .ok (.aload_n 1, 1) := by decide +kernel
theorem dX1_copyFrom_87 : decode cX1_copyFrom 87 = .ok (.getfield 38, 3) := by decide +kernel
theorem dX1_copyFrom_90 : decode cX1_copyFrom 90 = .ok (.putfield 38, 3) := by decide +kernel
theorem dX1_copyFrom_93 : decode cX1_copyFrom 93 = .ok (.aload_n 0, 1) := by decide +kernel
theorem dX1_copyFrom_94 : decode cX1_copyFrom 94 = .ok (.aload_n 1, 1) := by decide +kernel
theorem dX1_copyFrom_95 : decode cX1_copyFrom 95 = .ok (.getfield 41, 3) := by decide +kernel
theorem dX1_copyFrom_98 : decode cX1_copyFrom 98 = .ok (.putfield 41, 3) := by decide +kernel
theorem dX1_copyFrom_101 : decode cX1_copyFrom 101 = .ok (.aload_n 0, 1) := by decide +kernel
theorem dX1_copyFrom_102 : decode cX1_copyFrom 102 = .ok (.aload_n 1, 1) := by decide +kernel
theorem dX1_copyFrom_103 : decode cX1_copyFrom 103 = .ok (.getfield 44, 3) := by decide +kernel
theorem dX1_copyFrom_106 : decode cX1_copyFrom 106 = .ok (.putfield 44, 3) := by decide +kernel
theorem dX1_copyFrom_109 : decode cX1_copyFrom 109 = .ok (.aload_n 0, 1) := by decide +kernel
theorem dX1_copyFrom_110 : decode cX1_copyFrom 110 = .ok (.aload_n 1, 1) := by decide +kernel
theorem dX1_copyFrom_111 : decode cX1_copyFrom 111 = .ok (.getfield 47, 3) := by decide +kernel
theorem dX1_copyFrom_114 : decode cX1_copyFrom 114 = .ok (.putfield 47, 3) := by decide +kernel
theorem dX1_copyFrom_117 : decode cX1_copyFrom 117 = .ok (.return_, 1) := by decide +kernel
theorem dX1_hasRoom_0 : decode cX1_hasRoom 0 = .ok (.aload_n 0, 1) := by decide +kernel
theorem dX1_hasRoom_1 : decode cX1_hasRoom 1 = .ok (.getfield 9, 3) := by decide +kernel
theorem dX1_hasRoom_4 : decode cX1_hasRoom 4 = .ok (.iload_n 1, 1) := by decide +kernel
theorem dX1_hasRoom_5 : decode cX1_hasRoom 5 = .ok (.iaload, 1) := by decide +kernel
theorem dX1_hasRoom_6 : decode cX1_hasRoom 6 = .ok (.bipush 9, 2) := by decide +kernel
theorem dX1_hasRoom_8 : decode cX1_hasRoom 8 = .ok (.if_icmp .ge 7, 3) := by decide +kernel
theorem dX1_hasRoom_11 : decode cX1_hasRoom 11 = .ok (.iconst 1, 1) := by decide +kernel
theorem dX1_hasRoom_12 : decode cX1_hasRoom 12 = .ok (.goto 4, 3) := by decide +kernel
theorem dX1_hasRoom_15 : decode cX1_hasRoom 15 = .ok (.iconst 0, 1) := by decide +kernel
theorem dX1_hasRoom_16 : decode cX1_hasRoom 16 = .ok (.ireturn, 1) := by decide +kernel
theorem dX1_isWantedAt_0 : decode cX1_isWantedAt 0 = .ok (.aload_n 0, 1) := by decide +kernel
theorem dX1_isWantedAt_1 : decode cX1_isWantedAt 1 = .ok (.getfield 9, 3) := by decide +kernel
theorem dX1_isWantedAt_4 : decode cX1_isWantedAt 4 = .ok (.iload_n 1, 1) := by decide +kernel
theorem dX1_isWantedAt_5 : decode cX1_isWantedAt 5 = .ok (.iaload, 1) := by decide +kernel
theorem dX1_isWantedAt_6 : decode cX1_isWantedAt 6 = .ok (.ifCond .le 7, 3) := by decide +kernel
theorem dX1_isWantedAt_9 : decode cX1_isWantedAt 9 = .ok (.iconst 1, 1) := by decide +kernel
theorem dX1_isWantedAt_10 : decode cX1_isWantedAt 10 = .ok (.goto 4, 3) := by decide +kernel
theorem dX1_isWantedAt_13 : decode cX1_isWantedAt 13 = .ok (.iconst 0, 1) := by decide +kernel
theorem dX1_isWantedAt_14 : decode cX1_isWantedAt 14 = .ok (.ireturn, 1) := by decide +kernel
set_option maxRecDepth 20000 in
theorem ggX1_seat_X1_hearCall : GoodIn wsX1_seat wsX1_hearCall := goodIn_r _ [6, 1, 7, 8, 9, 10, 11, 12, 13, 14, 15, 16, 17, 18, 19, 20, 21] (by decide +kernel) (by decide +kernel)
set_option maxRecDepth 20000 in
theorem gX1_seat_X1_hearCall : GoodIn wsX1_seat (wsV RX1 56 RX1 yX1_hearCall wsX1_hearCall) := goodIn_app (goodIn_of _ (by decide +kernel)) ggX1_seat_X1_hearCall
theorem dX1_seat_0 : decode cX1_seat 0 = .ok (.aload_n 0, 1) := by decide +kernel
theorem dX1_seat_1 : decode cX1_seat 1 = .ok (.getfield 9, 3) := by decide +kernel
theorem dX1_seat_4 : decode cX1_seat 4 = .ok (.iload_n 1, 1) := by decide +kernel
theorem dX1_seat_5 : decode cX1_seat 5 = .ok (.dup2, 1) := by decide +kernel
theorem dX1_seat_6 : decode cX1_seat 6 = .ok (.iaload, 1) := by decide +kernel
theorem dX1_seat_7 : decode cX1_seat 7 = .ok (.iconst 1, 1) := by decide +kernel
theorem dX1_seat_8 : decode cX1_seat 8 = .ok (.iadd, 1) := by decide +kernel
theorem dX1_seat_9 : decode cX1_seat 9 = .ok (.iastore, 1) := by decide +kernel
theorem dX1_seat_10 : decode cX1_seat 10 = .ok (.aload_n 0, 1) := by decide +kernel
theorem dX1_seat_11 : decode cX1_seat 11 = .ok (.iload_n 1, 1) := by decide +kernel
theorem dX1_seat_12 : decode cX1_seat 12 = .ok (.invokevirtual 56, 3) := by decide +kernel
theorem dX1_seat_15 : decode cX1_seat 15 = .ok (.return_, 1) := by decide +kernel
set_option maxRecDepth 20000 in
theorem ggX1_unseat_X1_hearFarewell : GoodIn wsX1_unseat wsX1_hearFarewell := goodIn_r _ [6, 7, 8, 9, 10, 11, 12, 13, 5, 14, 1, 15, 16, 17, 18, 19, 20, 21, 22, 23, 24, 25, 26, 27, 28, 29, 30, 31] (by decide +kernel) (by decide +kernel)
set_option maxRecDepth 20000 in
theorem gX1_unseat_X1_hearFarewell : GoodIn wsX1_unseat (wsV RX1 60 RX1 yX1_hearFarewell wsX1_hearFarewell) := goodIn_app (goodIn_of _ (by decide +kernel)) ggX1_unseat_X1_hearFarewell
theorem dX1_unseat_0 : decode cX1_unseat 0 = .ok (.aload_n 0, 1) := by decide +kernel
theorem dX1_unseat_1 : decode cX1_unseat 1 = .ok (.getfield 9, 3) := by decide +kernel
theorem dX1_unseat_4 : decode cX1_unseat 4 = .ok (.iload_n 1, 1) := by decide +kernel
theorem dX1_unseat_5 : decode cX1_unseat 5 = .ok (.dup2, 1) := by decide +kernel
theorem dX1_unseat_6 : decode cX1_unseat 6 = .ok (.iaload, 1) := by decide +kernel
theorem dX1_unseat_7 : decode cX1_unseat 7 = .ok (.iconst 1, 1) := by decide +kernel
theorem dX1_unseat_8 : decode cX1_unseat 8 = .ok (.isub, 1) := by decide +kernel
theorem dX1_unseat_9 : decode cX1_unseat 9 = .ok (.iastore, 1) := by decide +kernel
theorem dX1_unseat_10 : decode cX1_unseat 10 = .ok (.iload_n 2, 1) := by decide +kernel
theorem dX1_unseat_11 : decode cX1_unseat 11 = .ok (.ifCond .eq 8, 3) := by decide +kernel
theorem dX1_unseat_14 : decode cX1_unseat 14 = .ok (.aload_n 0, 1) := by decide +kernel
theorem dX1_unseat_15 : decode cX1_unseat 15 = .ok (.iload_n 1, 1) := by decide +kernel
theorem dX1_unseat_16 : decode cX1_unseat 16 = .ok (.invokevirtual 60, 3) := by decide +kernel
theorem dX1_unseat_19 : decode cX1_unseat 19 = .ok (.return_, 1) := by decide +kernel
theorem dX1_hearCall_0 : decode cX1_hearCall 0 = .ok (.aload_n 0, 1) := by decide +kernel
theorem dX1_hearCall_1 : decode cX1_hearCall 1 = .ok (.getfield 9, 3) := by decide +kernel
theorem dX1_hearCall_4 : decode cX1_hearCall 4 = .ok (.iload_n 1, 1) := by decide +kernel
theorem dX1_hearCall_5 : decode cX1_hearCall 5 = .ok (.iaload, 1) := by decide +kernel
theorem dX1_hearCall_6 : decode cX1_hearCall 6 = .ok (.ifCond .le 23, 3) := by decide +kernel
theorem dX1_hearCall_9 : decode cX1_hearCall 9 = .ok (.aload_n 0, 1) := by decide +kernel
theorem dX1_hearCall_10 : decode cX1_hearCall 10 = .ok (.getfield 15, 3) := by decide +kernel
theorem dX1_hearCall_13 : decode cX1_hearCall 13 = .ok (.iload_n 1, 1) := by decide +kernel
theorem dX1_hearCall_14 : decode cX1_hearCall 14 = .ok (.aload_n 0, 1) := by decide +kernel
theorem dX1_hearCall_15 : decode cX1_hearCall 15 = .ok (.getfield 35, 3) := by decide +kernel
theorem dX1_hearCall_18 : decode cX1_hearCall 18 = .ok (.iastore, 1) := by decide +kernel
theorem dX1_hearCall_19 : decode cX1_hearCall 19 = .ok (.aload_n 0, 1) := by decide +kernel
theorem dX1_hearCall_20 : decode cX1_hearCall 20 = .ok (.getfield 18, 3) := by decide +kernel
theorem dX1_hearCall_23 : decode cX1_hearCall 23 = .ok (.iconst 5, 1) := by decide +kernel
theorem dX1_hearCall_24 : decode cX1_hearCall 24 = .ok (.dup2, 1) := by decide +kernel
theorem dX1_hearCall_25 : decode cX1_hearCall 25 = .ok (.iaload, 1) := by decide +kernel
theorem dX1_hearCall_26 : decode cX1_hearCall 26 = .ok (.iconst 1, 1) := by decide +kernel
theorem dX1_hearCall_27 : decode cX1_hearCall 27 = .ok (.iadd, 1) := by decide +kernel
theorem dX1_hearCall_28 : decode cX1_hearCall 28 = .ok (.iastore, 1) := by decide +kernel
theorem dX1_hearCall_29 : decode cX1_hearCall 29 = .ok (.return_, 1) := by decide +kernel
set_option maxRecDepth 20000 in
theorem ggX1_hearFarewell_X1_isWantedAt : GoodIn wsX1_hearFarewell wsX1_isWantedAt := goodIn_r _ [9, 10, 16, 17, 18, 19, 20, 21, 22, 23, 24, 25, 26, 27] (by decide +kernel) (by decide +kernel)
set_option maxRecDepth 20000 in
theorem gX1_hearFarewell_X1_isWantedAt : GoodIn wsX1_hearFarewell (wsV RX1 63 RX1 yX1_isWantedAt wsX1_isWantedAt) := goodIn_app (goodIn_of _ (by decide +kernel)) ggX1_hearFarewell_X1_isWantedAt
set_option maxRecDepth 20000 in
theorem ggX1_hearFarewell_X1_hearCall : GoodIn wsX1_hearFarewell wsX1_hearCall := goodIn_r _ [14, 10, 2, 15, 4, 16, 17, 18, 19, 20, 21, 22, 23, 24, 25, 26, 27] (by decide +kernel) (by decide +kernel)
set_option maxRecDepth 20000 in
theorem gX1_hearFarewell_X1_hearCall : GoodIn wsX1_hearFarewell (wsV RX1 56 RX1 yX1_hearCall wsX1_hearCall) := goodIn_app (goodIn_of _ (by decide +kernel)) ggX1_hearFarewell_X1_hearCall
theorem dX1_hearFarewell_0 : decode cX1_hearFarewell 0 = .ok (.aload_n 0, 1) := by decide +kernel
theorem dX1_hearFarewell_1 : decode cX1_hearFarewell 1 = .ok (.getfield 25, 3) := by decide +kernel
theorem dX1_hearFarewell_4 : decode cX1_hearFarewell 4 = .ok (.ifCond .eq 21, 3) := by decide +kernel
theorem dX1_hearFarewell_7 : decode cX1_hearFarewell 7 = .ok (.aload_n 0, 1) := by decide +kernel
theorem dX1_hearFarewell_8 : decode cX1_hearFarewell 8 = .ok (.iload_n 1, 1) := by decide +kernel
theorem dX1_hearFarewell_9 : decode cX1_hearFarewell 9 = .ok (.invokevirtual 63, 3) := by decide +kernel
theorem dX1_hearFarewell_12 : decode cX1_hearFarewell 12 = .ok (.ifCond .ne 13, 3) := by decide +kernel
theorem dX1_hearFarewell_15 : decode cX1_hearFarewell 15 = .ok (.aload_n 0, 1) := by decide +kernel
theorem dX1_hearFarewell_16 : decode cX1_hearFarewell 16 = .ok (.getfield 15, 3) := by decide +kernel
theorem dX1_hearFarewell_19 : decode cX1_hearFarewell 19 = .ok (.iload_n 1, 1) := by decide +kernel
theorem dX1_hearFarewell_20 : decode cX1_hearFarewell 20 = .ok (.iconst 0, 1) := by decide +kernel
theorem dX1_hearFarewell_21 : decode cX1_hearFarewell 21 = .ok (.iastore, 1) := by decide +kernel
theorem dX1_hearFarewell_22 : decode cX1_hearFarewell 22 = .ok (.goto 41, 3) := by decide +kernel
theorem dX1_hearFarewell_25 : decode cX1_hearFarewell 25 = .ok (.aload_n 0, 1) := by decide +kernel
theorem dX1_hearFarewell_26 : decode cX1_hearFarewell 26 = .ok (.getfield 15, 3) := by decide +kernel
theorem dX1_hearFarewell_29 : decode cX1_hearFarewell 29 = .ok (.iload_n 1, 1) := by decide +kernel
theorem dX1_hearFarewell_30 : decode cX1_hearFarewell 30 = .ok (.iaload, 1) := by decide +kernel
theorem dX1_hearFarewell_31 : decode cX1_hearFarewell 31 = .ok (.aload_n 0, 1) := by decide +kernel
theorem dX1_hearFarewell_32 : decode cX1_hearFarewell 32 = .ok (.getfield 38, 3) := by decide +kernel
theorem dX1_hearFarewell_35 : decode cX1_hearFarewell 35 = .ok (.if_icmp .le 28, 3) := by decide +kernel
theorem dX1_hearFarewell_38 : decode cX1_hearFarewell 38 = .ok (.aload_n 0, 1) := by decide +kernel
theorem dX1_hearFarewell_39 : decode cX1_hearFarewell 39 = .ok (.getfield 15, 3) := by decide +kernel
theorem dX1_hearFarewell_42 : decode cX1_hearFarewell 42 = .ok (.iload_n 1, 1) := by decide +kernel
theorem dX1_hearFarewell_43 : decode cX1_hearFarewell 43 = .ok (.aload_n 0, 1) := by decide +kernel
theorem dX1_hearFarewell_44 : decode cX1_hearFarewell 44 = .ok (.getfield 38, 3) := by decide +kernel
theorem dX1_hearFarewell_47 : decode cX1_hearFarewell 47 = .ok (.iastore, 1) := by decide +kernel
theorem dX1_hearFarewell_48 : decode cX1_hearFarewell 48 = .ok (.aload_n 0, 1) := by decide +kernel
theorem dX1_hearFarewell_49 : decode cX1_hearFarewell 49 = .ok (.getfield 18, 3) := by decide +kernel
theorem dX1_hearFarewell_52 : decode cX1_hearFarewell 52 = .ok (.iconst 4, 1) := by decide +kernel
theorem dX1_hearFarewell_53 : decode cX1_hearFarewell 53 = .ok (.dup2, 1) := by decide +kernel
theorem dX1_hearFarewell_54 : decode cX1_hearFarewell 54 = .ok (.iaload, 1) := by decide +kernel
theorem dX1_hearFarewell_55 : decode cX1_hearFarewell 55 = .ok (.iconst 1, 1) := by decide +kernel
theorem dX1_hearFarewell_56 : decode cX1_hearFarewell 56 = .ok (.iadd, 1) := by decide +kernel
theorem dX1_hearFarewell_57 : decode cX1_hearFarewell 57 = .ok (.iastore, 1) := by decide +kernel
theorem dX1_hearFarewell_58 : decode cX1_hearFarewell 58 = .ok (.aload_n 0, 1) := by decide +kernel
theorem dX1_hearFarewell_59 : decode cX1_hearFarewell 59 = .ok (.iload_n 1, 1) := by decide +kernel
theorem dX1_hearFarewell_60 : decode cX1_hearFarewell 60 = .ok (.invokevirtual 56, 3) := by decide +kernel
theorem dX1_hearFarewell_63 : decode cX1_hearFarewell 63 = .ok (.return_, 1) := by decide +kernel
set_option maxRecDepth 20000 in
theorem ggX1_askAllRows_X1_hearCall : GoodIn wsX1_askAllRows wsX1_hearCall := goodIn_r _ [6, 7, 8, 9, 1, 10, 11, 12, 13, 14, 15, 16, 17, 18, 19, 20, 21] (by decide +kernel) (by decide +kernel)
set_option maxRecDepth 20000 in
theorem gX1_askAllRows_X1_hearCall : GoodIn wsX1_askAllRows (wsV RX1 56 RX1 yX1_hearCall wsX1_hearCall) := goodIn_app (goodIn_of _ (by decide +kernel)) ggX1_askAllRows_X1_hearCall
theorem dX1_askAllRows_0 : decode cX1_askAllRows 0 = .ok (.aload_n 0, 1) := by decide +kernel
theorem dX1_askAllRows_1 : decode cX1_askAllRows 1 = .ok (.getfield 18, 3) := by decide +kernel
theorem dX1_askAllRows_4 : decode cX1_askAllRows 4 = .ok (.iconst 3, 1) := by decide +kernel
theorem dX1_askAllRows_5 : decode cX1_askAllRows 5 = .ok (.dup2, 1) := by decide +kernel
theorem dX1_askAllRows_6 : decode cX1_askAllRows 6 = .ok (.iaload, 1) := by decide +kernel
theorem dX1_askAllRows_7 : decode cX1_askAllRows 7 = .ok (.iconst 1, 1) := by decide +kernel
theorem dX1_askAllRows_8 : decode cX1_askAllRows 8 = .ok (.iadd, 1) := by decide +kernel
theorem dX1_askAllRows_9 : decode cX1_askAllRows 9 = .ok (.iastore, 1) := by decide +kernel
theorem dX1_askAllRows_10 : decode cX1_askAllRows 10 = .ok (.iconst 0, 1) := by decide +kernel
theorem dX1_askAllRows_11 : decode cX1_askAllRows 11 = .ok (.istore_n 1, 1) := by decide +kernel
theorem dX1_askAllRows_12 : decode cX1_askAllRows 12 = .ok (.iload_n 1, 1) := by decide +kernel
theorem dX1_askAllRows_13 : decode cX1_askAllRows 13 = .ok (.bipush 48, 2) := by decide +kernel
theorem dX1_askAllRows_15 : decode cX1_askAllRows 15 = .ok (.if_icmp .ge 14, 3) := by decide +kernel
theorem dX1_askAllRows_18 : decode cX1_askAllRows 18 = .ok (.aload_n 0, 1) := by decide +kernel
theorem dX1_askAllRows_19 : decode cX1_askAllRows 19 = .ok (.iload_n 1, 1) := by decide +kernel
theorem dX1_askAllRows_20 : decode cX1_askAllRows 20 = .ok (.invokevirtual 56, 3) := by decide +kernel
theorem dX1_askAllRows_23 : decode cX1_askAllRows 23 = .ok (.iinc 1 1, 3) := by decide +kernel
theorem dX1_askAllRows_26 : decode cX1_askAllRows 26 = .ok (.goto (-14), 3) := by decide +kernel
theorem dX1_askAllRows_29 : decode cX1_askAllRows 29 = .ok (.return_, 1) := by decide +kernel
theorem dX1_isRowOpen_0 : decode cX1_isRowOpen 0 = .ok (.aload_n 0, 1) := by decide +kernel
theorem dX1_isRowOpen_1 : decode cX1_isRowOpen 1 = .ok (.getfield 21, 3) := by decide +kernel
theorem dX1_isRowOpen_4 : decode cX1_isRowOpen 4 = .ok (.iload_n 1, 1) := by decide +kernel
theorem dX1_isRowOpen_5 : decode cX1_isRowOpen 5 = .ok (.ishr, 1) := by decide +kernel
theorem dX1_isRowOpen_6 : decode cX1_isRowOpen 6 = .ok (.iconst 1, 1) := by decide +kernel
theorem dX1_isRowOpen_7 : decode cX1_isRowOpen 7 = .ok (.iand, 1) := by decide +kernel
theorem dX1_isRowOpen_8 : decode cX1_isRowOpen 8 = .ok (.iconst 1, 1) := by decide +kernel
theorem dX1_isRowOpen_9 : decode cX1_isRowOpen 9 = .ok (.if_icmp .ne 7, 3) := by decide +kernel
theorem dX1_isRowOpen_12 : decode cX1_isRowOpen 12 = .ok (.iconst 1, 1) := by decide +kernel
theorem dX1_isRowOpen_13 : decode cX1_isRowOpen 13 = .ok (.goto 4, 3) := by decide +kernel
theorem dX1_isRowOpen_16 : decode cX1_isRowOpen 16 = .ok (.iconst 0, 1) := by decide +kernel
theorem dX1_isRowOpen_17 : decode cX1_isRowOpen 17 = .ok (.ireturn, 1) := by decide +kernel
theorem dX1_turnRow_0 : decode cX1_turnRow 0 = .ok (.aload_n 0, 1) := by decide +kernel
theorem dX1_turnRow_1 : decode cX1_turnRow 1 = .ok (.dup, 1) := by decide +kernel
theorem dX1_turnRow_2 : decode cX1_turnRow 2 = .ok (.getfield 21, 3) := by decide +kernel
theorem dX1_turnRow_5 : decode cX1_turnRow 5 = .ok (.iconst 1, 1) := by decide +kernel
theorem dX1_turnRow_6 : decode cX1_turnRow 6 = .ok (.iload_n 1, 1) := by decide +kernel
theorem dX1_turnRow_7 : decode cX1_turnRow 7 = .ok (.ishl, 1) := by decide +kernel
theorem dX1_turnRow_8 : decode cX1_turnRow 8 = .ok (.ixor, 1) := by decide +kernel
theorem dX1_turnRow_9 : decode cX1_turnRow 9 = .ok (.putfield 21, 3) := by decide +kernel
theorem dX1_turnRow_12 : decode cX1_turnRow 12 = .ok (.return_, 1) := by decide +kernel
theorem dX1_chiefAsker_0 : decode cX1_chiefAsker 0 = .ok (.aload_n 0, 1) := by decide +kernel
theorem dX1_chiefAsker_1 : decode cX1_chiefAsker 1 = .ok (.getfield 32, 3) := by decide +kernel
theorem dX1_chiefAsker_4 : decode cX1_chiefAsker 4 = .ok (.ifCond .eq 5, 3) := by decide +kernel
theorem dX1_chiefAsker_7 : decode cX1_chiefAsker 7 = .ok (.iconst 2, 1) := by decide +kernel
theorem dX1_chiefAsker_8 : decode cX1_chiefAsker 8 = .ok (.ireturn, 1) := by decide +kernel
theorem dX1_chiefAsker_9 : decode cX1_chiefAsker 9 = .ok (.aload_n 0, 1) := by decide +kernel
theorem dX1_chiefAsker_10 : decode cX1_chiefAsker 10 = .ok (.getfield 29, 3) := by decide +kernel
theorem dX1_chiefAsker_13 : decode cX1_chiefAsker 13 = .ok (.ifCond .eq 7, 3) := by decide +kernel
theorem dX1_chiefAsker_16 : decode cX1_chiefAsker 16 = .ok (.iconst 1, 1) := by decide +kernel
theorem dX1_chiefAsker_17 : decode cX1_chiefAsker 17 = .ok (.goto 4, 3) := by decide +kernel
theorem dX1_chiefAsker_20 : decode cX1_chiefAsker 20 = .ok (.iconst 0, 1) := by decide +kernel
theorem dX1_chiefAsker_21 : decode cX1_chiefAsker 21 = .ok (.ireturn, 1) := by decide +kernel
theorem dX1_entriesInAll_0 : decode cX1_entriesInAll 0 = .ok (.iconst 0, 1) := by decide +kernel
theorem dX1_entriesInAll_1 : decode cX1_entriesInAll 1 = .ok (.istore_n 1, 1) := by decide +kernel
theorem dX1_entriesInAll_2 : decode cX1_entriesInAll 2 = .ok (.iconst 0, 1) := by decide +kernel
theorem dX1_entriesInAll_3 : decode cX1_entriesInAll 3 = .ok (.istore_n 2, 1) := by decide +kernel
theorem dX1_entriesInAll_4 : decode cX1_entriesInAll 4 = .ok (.iload_n 2, 1) := by decide +kernel
theorem dX1_entriesInAll_5 : decode cX1_entriesInAll 5 = .ok (.bipush 48, 2) := by decide +kernel
theorem dX1_entriesInAll_7 : decode cX1_entriesInAll 7 = .ok (.if_icmp .ge 21, 3) := by decide +kernel
theorem dX1_entriesInAll_10 : decode cX1_entriesInAll 10 = .ok (.aload_n 0, 1) := by decide +kernel
theorem dX1_entriesInAll_11 : decode cX1_entriesInAll 11 = .ok (.getfield 15, 3) := by decide +kernel
theorem dX1_entriesInAll_14 : decode cX1_entriesInAll 14 = .ok (.iload_n 2, 1) := by decide +kernel
theorem dX1_entriesInAll_15 : decode cX1_entriesInAll 15 = .ok (.iaload, 1) := by decide +kernel
theorem dX1_entriesInAll_16 : decode cX1_entriesInAll 16 = .ok (.ifCond .le 6, 3) := by decide +kernel
theorem dX1_entriesInAll_19 : decode cX1_entriesInAll 19 = .ok (.iinc 1 1, 3) := by decide +kernel
theorem dX1_entriesInAll_22 : decode cX1_entriesInAll 22 = .ok (.iinc 2 1, 3) := by decide +kernel
theorem dX1_entriesInAll_25 : decode cX1_entriesInAll 25 = .ok (.goto (-21), 3) := by decide +kernel
theorem dX1_entriesInAll_28 : decode cX1_entriesInAll 28 = .ok (.iload_n 1, 1) := by decide +kernel
theorem dX1_entriesInAll_29 : decode cX1_entriesInAll 29 = .ok (.ireturn, 1) := by decide +kernel
set_option maxRecDepth 20000 in
theorem ggX1_rowsThatGet_X3_placeOf : GoodIn wsX1_rowsThatGet wsX3_placeOf := goodIn_r _ [5] (by decide +kernel) (by decide +kernel)
set_option maxRecDepth 20000 in
theorem gX1_rowsThatGet_X3_placeOf_n67 : GoodIn wsX1_rowsThatGet (wsX3_placeOf) := ggX1_rowsThatGet_X3_placeOf
theorem dX1_rowsThatGet_0 : decode cX1_rowsThatGet 0 = .ok (.aload_n 0, 1) := by decide +kernel
theorem dX1_rowsThatGet_1 : decode cX1_rowsThatGet 1 = .ok (.getfield 21, 3) := by decide +kernel
theorem dX1_rowsThatGet_4 : decode cX1_rowsThatGet 4 = .ok (.istore_n 2, 1) := by decide +kernel
theorem dX1_rowsThatGet_5 : decode cX1_rowsThatGet 5 = .ok (.iconst 0, 1) := by decide +kernel
theorem dX1_rowsThatGet_6 : decode cX1_rowsThatGet 6 = .ok (.istore_n 3, 1) := by decide +kernel
theorem dX1_rowsThatGet_7 : decode cX1_rowsThatGet 7 = .ok (.iload_n 3, 1) := by decide +kernel
theorem dX1_rowsThatGet_8 : decode cX1_rowsThatGet 8 = .ok (.bipush 8, 2) := by decide +kernel
theorem dX1_rowsThatGet_10 : decode cX1_rowsThatGet 10 = .ok (.if_icmp .ge 28, 3) := by decide +kernel
theorem dX1_rowsThatGet_13 : decode cX1_rowsThatGet 13 = .ok (.aload_n 0, 1) := by decide +kernel
theorem dX1_rowsThatGet_14 : decode cX1_rowsThatGet 14 = .ok (.getfield 15, 3) := by decide +kernel
theorem dX1_rowsThatGet_17 : decode cX1_rowsThatGet 17 = .ok (.iload_n 3, 1) := by decide +kernel
theorem dX1_rowsThatGet_18 : decode cX1_rowsThatGet 18 = .ok (.iload_n 1, 1) := by decide +kernel
theorem dX1_rowsThatGet_19 : decode cX1_rowsThatGet 19 = .ok (.invokestatic 67, 3) := by decide +kernel
theorem dX1_rowsThatGet_22 : decode cX1_rowsThatGet 22 = .ok (.iaload, 1) := by decide +kernel
theorem dX1_rowsThatGet_23 : decode cX1_rowsThatGet 23 = .ok (.ifCond .le 9, 3) := by decide +kernel
theorem dX1_rowsThatGet_26 : decode cX1_rowsThatGet 26 = .ok (.iload_n 2, 1) := by decide +kernel
theorem dX1_rowsThatGet_27 : decode cX1_rowsThatGet 27 = .ok (.iconst 1, 1) := by decide +kernel
theorem dX1_rowsThatGet_28 : decode cX1_rowsThatGet 28 = .ok (.iload_n 3, 1) := by decide +kernel
theorem dX1_rowsThatGet_29 : decode cX1_rowsThatGet 29 = .ok (.ishl, 1) := by decide +kernel
theorem dX1_rowsThatGet_30 : decode cX1_rowsThatGet 30 = .ok (.ior, 1) := by decide +kernel
theorem dX1_rowsThatGet_31 : decode cX1_rowsThatGet 31 = .ok (.istore_n 2, 1) := by decide +kernel
theorem dX1_rowsThatGet_32 : decode cX1_rowsThatGet 32 = .ok (.iinc 3 1, 3) := by decide +kernel
theorem dX1_rowsThatGet_35 : decode cX1_rowsThatGet 35 = .ok (.goto (-28), 3) := by decide +kernel
theorem dX1_rowsThatGet_38 : decode cX1_rowsThatGet 38 = .ok (.iload_n 2, 1) := by decide +kernel
theorem dX1_rowsThatGet_39 : decode cX1_rowsThatGet 39 = .ok (.ireturn, 1) := by decide +kernel
set_option maxRecDepth 20000 in
theorem ggX1_rowsThatWant_X3_placeOf : GoodIn wsX1_rowsThatWant wsX3_placeOf := goodIn_r _ [3] (by decide +kernel) (by decide +kernel)
set_option maxRecDepth 20000 in
theorem gX1_rowsThatWant_X3_placeOf_n67 : GoodIn wsX1_rowsThatWant (wsX3_placeOf) := ggX1_rowsThatWant_X3_placeOf
set_option maxRecDepth 20000 in
theorem ggX1_rowsThatWant_X1_isWantedAt : GoodIn wsX1_rowsThatWant wsX1_isWantedAt := goodIn_r _ [8, 9, 10, 11, 12, 13, 14, 15, 16, 17, 18, 19, 20, 21] (by decide +kernel) (by decide +kernel)
set_option maxRecDepth 20000 in
theorem gX1_rowsThatWant_X1_isWantedAt : GoodIn wsX1_rowsThatWant (wsV RX1 63 RX1 yX1_isWantedAt wsX1_isWantedAt) := goodIn_app (goodIn_of _ (by decide +kernel)) ggX1_rowsThatWant_X1_isWantedAt
theorem dX1_rowsThatWant_0 : decode cX1_rowsThatWant 0 = .ok (.iconst 0, 1) := by decide +kernel
theorem dX1_rowsThatWant_1 : decode cX1_rowsThatWant 1 = .ok (.istore_n 2, 1) := by decide +kernel
theorem dX1_rowsThatWant_2 : decode cX1_rowsThatWant 2 = .ok (.iconst 0, 1) := by decide +kernel
theorem dX1_rowsThatWant_3 : decode cX1_rowsThatWant 3 = .ok (.istore_n 3, 1) := by decide +kernel
theorem dX1_rowsThatWant_4 : decode cX1_rowsThatWant 4 = .ok (.iload_n 3, 1) := by decide +kernel
theorem dX1_rowsThatWant_5 : decode cX1_rowsThatWant 5 = .ok (.bipush 8, 2) := by decide +kernel
theorem dX1_rowsThatWant_7 : decode cX1_rowsThatWant 7 = .ok (.if_icmp .ge 27, 3) := by decide +kernel
theorem dX1_rowsThatWant_10 : decode cX1_rowsThatWant 10 = .ok (.aload_n 0, 1) := by decide +kernel
theorem dX1_rowsThatWant_11 : decode cX1_rowsThatWant 11 = .ok (.iload_n 3, 1) := by decide +kernel
theorem dX1_rowsThatWant_12 : decode cX1_rowsThatWant 12 = .ok (.iload_n 1, 1) := by decide +kernel
theorem dX1_rowsThatWant_13 : decode cX1_rowsThatWant 13 = .ok (.invokestatic 67, 3) := by decide +kernel
theorem dX1_rowsThatWant_16 : decode cX1_rowsThatWant 16 = .ok (.invokevirtual 63, 3) := by decide +kernel
theorem dX1_rowsThatWant_19 : decode cX1_rowsThatWant 19 = .ok (.ifCond .eq 9, 3) := by decide +kernel
theorem dX1_rowsThatWant_22 : decode cX1_rowsThatWant 22 = .ok (.iload_n 2, 1) := by decide +kernel
theorem dX1_rowsThatWant_23 : decode cX1_rowsThatWant 23 = .ok (.iconst 1, 1) := by decide +kernel
theorem dX1_rowsThatWant_24 : decode cX1_rowsThatWant 24 = .ok (.iload_n 3, 1) := by decide +kernel
theorem dX1_rowsThatWant_25 : decode cX1_rowsThatWant 25 = .ok (.ishl, 1) := by decide +kernel
theorem dX1_rowsThatWant_26 : decode cX1_rowsThatWant 26 = .ok (.ior, 1) := by decide +kernel
theorem dX1_rowsThatWant_27 : decode cX1_rowsThatWant 27 = .ok (.istore_n 2, 1) := by decide +kernel
theorem dX1_rowsThatWant_28 : decode cX1_rowsThatWant 28 = .ok (.iinc 3 1, 3) := by decide +kernel
theorem dX1_rowsThatWant_31 : decode cX1_rowsThatWant 31 = .ok (.goto (-27), 3) := by decide +kernel
theorem dX1_rowsThatWant_34 : decode cX1_rowsThatWant 34 = .ok (.iload_n 2, 1) := by decide +kernel
theorem dX1_rowsThatWant_35 : decode cX1_rowsThatWant 35 = .ok (.ireturn, 1) := by decide +kernel
set_option maxRecDepth 20000 in
theorem ggX1_letPass_X1_fadeEntries : GoodIn wsX1_letPass wsX1_fadeEntries := goodIn_r _ [7, 8, 31, 32, 33, 34, 35, 36, 37, 38, 39, 40, 41, 42] (by decide +kernel) (by decide +kernel)
set_option maxRecDepth 20000 in
theorem gX1_letPass_X1_fadeEntries : GoodIn wsX1_letPass (wsV RX1 71 RX1 yX1_fadeEntries wsX1_fadeEntries) := goodIn_app (goodIn_of _ (by decide +kernel)) ggX1_letPass_X1_fadeEntries
set_option maxRecDepth 20000 in
theorem ggX1_letPass_X1_timeBetweenQuestions : GoodIn wsX1_letPass wsX1_timeBetweenQuestions := goodIn_r _ [12, 13, 14, 15, 16, 6, 17, 18, 19, 31, 32, 33, 34, 35, 36, 37, 38, 39, 40, 41, 42] (by decide +kernel) (by decide +kernel)
set_option maxRecDepth 20000 in
theorem gX1_letPass_X1_timeBetweenQuestions : GoodIn wsX1_letPass (wsV RX1 74 RX1 yX1_timeBetweenQuestions wsX1_timeBetweenQuestions) := goodIn_app (goodIn_of _ (by decide +kernel)) ggX1_letPass_X1_timeBetweenQuestions
set_option maxRecDepth 20000 in
theorem ggX1_letPass_X1_askAllRows : GoodIn wsX1_letPass wsX1_askAllRows := goodIn_r _ [23, 24, 25, 26, 27, 6, 28, 29, 8, 30, 31, 32, 33, 34, 35, 36, 37, 38, 39, 40, 41, 42] (by decide +kernel) (by decide +kernel)
set_option maxRecDepth 20000 in
theorem gX1_letPass_X1_askAllRows : GoodIn wsX1_letPass (wsV RX1 78 RX1 yX1_askAllRows wsX1_askAllRows) := goodIn_app (goodIn_of _ (by decide +kernel)) ggX1_letPass_X1_askAllRows
theorem dX1_letPass_0 : decode cX1_letPass 0 = .ok (.iconst 0, 1) := by decide +kernel
theorem dX1_letPass_1 : decode cX1_letPass 1 = .ok (.istore_n 2, 1) := by decide +kernel
theorem dX1_letPass_2 : decode cX1_letPass 2 = .ok (.iconst 0, 1) := by decide +kernel
theorem dX1_letPass_3 : decode cX1_letPass 3 = .ok (.istore_n 3, 1) := by decide +kernel
theorem dX1_letPass_4 : decode cX1_letPass 4 = .ok (.iload_n 3, 1) := by decide +kernel
theorem dX1_letPass_5 : decode cX1_letPass 5 = .ok (.iload_n 1, 1) := by decide +kernel
theorem dX1_letPass_6 : decode cX1_letPass 6 = .ok (.if_icmp .ge 56, 3) := by decide +kernel
theorem dX1_letPass_9 : decode cX1_letPass 9 = .ok (.aload_n 0, 1) := by decide +kernel
theorem dX1_letPass_10 : decode cX1_letPass 10 = .ok (.dup, 1) := by decide +kernel
theorem dX1_letPass_11 : decode cX1_letPass 11 = .ok (.getfield 44, 3) := by decide +kernel
theorem dX1_letPass_14 : decode cX1_letPass 14 = .ok (.iconst 1, 1) := by decide +kernel
theorem dX1_letPass_15 : decode cX1_letPass 15 = .ok (.iadd, 1) := by decide +kernel
theorem dX1_letPass_16 : decode cX1_letPass 16 = .ok (.putfield 44, 3) := by decide +kernel
theorem dX1_letPass_19 : decode cX1_letPass 19 = .ok (.aload_n 0, 1) := by decide +kernel
theorem dX1_letPass_20 : decode cX1_letPass 20 = .ok (.invokevirtual 71, 3) := by decide +kernel
theorem dX1_letPass_23 : decode cX1_letPass 23 = .ok (.aload_n 0, 1) := by decide +kernel
theorem dX1_letPass_24 : decode cX1_letPass 24 = .ok (.dup, 1) := by decide +kernel
theorem dX1_letPass_25 : decode cX1_letPass 25 = .ok (.getfield 47, 3) := by decide +kernel
theorem dX1_letPass_28 : decode cX1_letPass 28 = .ok (.iconst 1, 1) := by decide +kernel
theorem dX1_letPass_29 : decode cX1_letPass 29 = .ok (.iadd, 1) := by decide +kernel
theorem dX1_letPass_30 : decode cX1_letPass 30 = .ok (.putfield 47, 3) := by decide +kernel
theorem dX1_letPass_33 : decode cX1_letPass 33 = .ok (.aload_n 0, 1) := by decide +kernel
theorem dX1_letPass_34 : decode cX1_letPass 34 = .ok (.getfield 47, 3) := by decide +kernel
theorem dX1_letPass_37 : decode cX1_letPass 37 = .ok (.aload_n 0, 1) := by decide +kernel
theorem dX1_letPass_38 : decode cX1_letPass 38 = .ok (.invokevirtual 74, 3) := by decide +kernel
theorem dX1_letPass_41 : decode cX1_letPass 41 = .ok (.if_icmp .lt 15, 3) := by decide +kernel
theorem dX1_letPass_44 : decode cX1_letPass 44 = .ok (.aload_n 0, 1) := by decide +kernel
theorem dX1_letPass_45 : decode cX1_letPass 45 = .ok (.iconst 0, 1) := by decide +kernel
theorem dX1_letPass_46 : decode cX1_letPass 46 = .ok (.putfield 47, 3) := by decide +kernel
theorem dX1_letPass_49 : decode cX1_letPass 49 = .ok (.aload_n 0, 1) := by decide +kernel
theorem dX1_letPass_50 : decode cX1_letPass 50 = .ok (.invokevirtual 78, 3) := by decide +kernel
theorem dX1_letPass_53 : decode cX1_letPass 53 = .ok (.iinc 2 1, 3) := by decide +kernel
theorem dX1_letPass_56 : decode cX1_letPass 56 = .ok (.iinc 3 1, 3) := by decide +kernel
theorem dX1_letPass_59 : decode cX1_letPass 59 = .ok (.goto (-55), 3) := by decide +kernel
theorem dX1_letPass_62 : decode cX1_letPass 62 = .ok (.iload_n 2, 1) := by decide +kernel
theorem dX1_letPass_63 : decode cX1_letPass 63 = .ok (.ireturn, 1) := by decide +kernel
theorem dX1_fadeEntries_0 : decode cX1_fadeEntries 0 = .ok (.iconst 0, 1) := by decide +kernel
theorem dX1_fadeEntries_1 : decode cX1_fadeEntries 1 = .ok (.istore_n 1, 1) := by decide +kernel
theorem dX1_fadeEntries_2 : decode cX1_fadeEntries 2 = .ok (.iload_n 1, 1) := by decide +kernel
theorem dX1_fadeEntries_3 : decode cX1_fadeEntries 3 = .ok (.bipush 48, 2) := by decide +kernel
theorem dX1_fadeEntries_5 : decode cX1_fadeEntries 5 = .ok (.if_icmp .ge 28, 3) := by decide +kernel
theorem dX1_fadeEntries_8 : decode cX1_fadeEntries 8 = .ok (.aload_n 0, 1) := by decide +kernel
theorem dX1_fadeEntries_9 : decode cX1_fadeEntries 9 = .ok (.getfield 15, 3) := by decide +kernel
theorem dX1_fadeEntries_12 : decode cX1_fadeEntries 12 = .ok (.iload_n 1, 1) := by decide +kernel
theorem dX1_fadeEntries_13 : decode cX1_fadeEntries 13 = .ok (.iaload, 1) := by decide +kernel
theorem dX1_fadeEntries_14 : decode cX1_fadeEntries 14 = .ok (.ifCond .le 13, 3) := by decide +kernel
theorem dX1_fadeEntries_17 : decode cX1_fadeEntries 17 = .ok (.aload_n 0, 1) := by decide +kernel
theorem dX1_fadeEntries_18 : decode cX1_fadeEntries 18 = .ok (.getfield 15, 3) := by decide +kernel
theorem dX1_fadeEntries_21 : decode cX1_fadeEntries 21 = .ok (.iload_n 1, 1) := by decide +kernel
theorem dX1_fadeEntries_22 : decode cX1_fadeEntries 22 = .ok (.dup2, 1) := by decide +kernel
theorem dX1_fadeEntries_23 : decode cX1_fadeEntries 23 = .ok (.iaload, 1) := by decide +kernel
theorem dX1_fadeEntries_24 : decode cX1_fadeEntries 24 = .ok (.iconst 1, 1) := by decide +kernel
theorem dX1_fadeEntries_25 : decode cX1_fadeEntries 25 = .ok (.isub, 1) := by decide +kernel
theorem dX1_fadeEntries_26 : decode cX1_fadeEntries 26 = .ok (.iastore, 1) := by decide +kernel
theorem dX1_fadeEntries_27 : decode cX1_fadeEntries 27 = .ok (.iinc 1 1, 3) := by decide +kernel
theorem dX1_fadeEntries_30 : decode cX1_fadeEntries 30 = .ok (.goto (-28), 3) := by decide +kernel
theorem dX1_fadeEntries_33 : decode cX1_fadeEntries 33 = .ok (.return_, 1) := by decide +kernel
set_option maxRecDepth 20000 in
theorem ggX1_timeBetweenQuestions_X1_chiefAsker : GoodIn wsX1_timeBetweenQuestions wsX1_chiefAsker := goodIn_r _ [6, 7, 8, 9, 10, 11, 12, 13, 14, 15, 16, 17, 18, 19, 20] (by decide +kernel) (by decide +kernel)
set_option maxRecDepth 20000 in
theorem gX1_timeBetweenQuestions_X1_chiefAsker : GoodIn wsX1_timeBetweenQuestions (wsV RX1 81 RX1 yX1_chiefAsker wsX1_chiefAsker) := goodIn_app (goodIn_of _ (by decide +kernel)) ggX1_timeBetweenQuestions_X1_chiefAsker
theorem dX1_timeBetweenQuestions_0 : decode cX1_timeBetweenQuestions 0 = .ok (.aload_n 0, 1) := by decide +kernel
theorem dX1_timeBetweenQuestions_1 : decode cX1_timeBetweenQuestions 1 = .ok (.invokevirtual 81, 3) := by decide +kernel
theorem dX1_timeBetweenQuestions_4 : decode cX1_timeBetweenQuestions 4 = .ok (.ifCond .ne 10, 3) := by decide +kernel
theorem dX1_timeBetweenQuestions_7 : decode cX1_timeBetweenQuestions 7 = .ok (.aload_n 0, 1) := by decide +kernel
theorem dX1_timeBetweenQuestions_8 : decode cX1_timeBetweenQuestions 8 = .ok (.getfield 41, 3) := by decide +kernel
theorem dX1_timeBetweenQuestions_11 : decode cX1_timeBetweenQuestions 11 = .ok (.goto 9, 3) := by decide +kernel
theorem dX1_timeBetweenQuestions_14 : decode cX1_timeBetweenQuestions 14 = .ok (.iconst 2, 1) := by decide +kernel
theorem dX1_timeBetweenQuestions_15 : decode cX1_timeBetweenQuestions 15 = .ok (.aload_n 0, 1) := by decide +kernel
theorem dX1_timeBetweenQuestions_16 : decode cX1_timeBetweenQuestions 16 = .ok (.getfield 41, 3) := by decide +kernel
theorem dX1_timeBetweenQuestions_19 : decode cX1_timeBetweenQuestions 19 = .ok (.imul, 1) := by decide +kernel
theorem dX1_timeBetweenQuestions_20 : decode cX1_timeBetweenQuestions 20 = .ok (.ireturn, 1) := by decide +kernel
set_option maxRecDepth 20000 in
theorem ggX1_perform_X1_rowsThatGet : GoodIn wsX1_perform wsX1_rowsThatGet := goodIn_r _ [6, 7, 8, 9, 10, 11, 28, 29, 30, 31, 32, 33, 34, 35, 36, 37, 38, 39] (by decide +kernel) (by decide +kernel)
set_option maxRecDepth 20000 in
theorem gX1_perform_X1_rowsThatGet : GoodIn wsX1_perform (wsV RX1 84 RX1 yX1_rowsThatGet wsX1_rowsThatGet) := goodIn_app (goodIn_of _ (by decide +kernel)) ggX1_perform_X1_rowsThatGet
set_option maxRecDepth 20000 in
theorem ggX1_perform_X1_rowsThatWant : GoodIn wsX1_perform wsX1_rowsThatWant := goodIn_r _ [15, 9, 10, 11, 16, 17, 18, 5, 19, 20, 28, 29, 30, 31, 32, 33, 34, 35, 36, 37, 38, 39] (by decide +kernel) (by decide +kernel)
set_option maxRecDepth 20000 in
theorem gX1_perform_X1_rowsThatWant : GoodIn wsX1_perform (wsV RX1 88 RX1 yX1_rowsThatWant wsX1_rowsThatWant) := goodIn_app (goodIn_of _ (by decide +kernel)) ggX1_perform_X1_rowsThatWant
set_option maxRecDepth 20000 in
theorem ggX1_perform_J6_bitCount_0f7a4 : GoodIn wsX1_perform wsJ6_bitCount_0f7a4 := goodIn_r _ [24, 25, 26, 27] (by decide +kernel) (by decide +kernel)
set_option maxRecDepth 20000 in
theorem gX1_perform_J6_bitCount_0f7a4 : GoodIn wsX1_perform (va_wsS RX1 91 yJ6_bitCount_0f7a4 wsJ6_bitCount_0f7a4) := goodIn_app (goodIn_of _ (by decide +kernel)) ggX1_perform_J6_bitCount_0f7a4
theorem dX1_perform_0 : decode cX1_perform 0 = .ok (.aload_n 0, 1) := by decide +kernel
theorem dX1_perform_1 : decode cX1_perform 1 = .ok (.iload_n 1, 1) := by decide +kernel
theorem dX1_perform_2 : decode cX1_perform 2 = .ok (.invokevirtual 84, 3) := by decide +kernel
theorem dX1_perform_5 : decode cX1_perform 5 = .ok (.istore_n 2, 1) := by decide +kernel
theorem dX1_perform_6 : decode cX1_perform 6 = .ok (.aload_n 0, 1) := by decide +kernel
theorem dX1_perform_7 : decode cX1_perform 7 = .ok (.iload_n 1, 1) := by decide +kernel
theorem dX1_perform_8 : decode cX1_perform 8 = .ok (.invokevirtual 88, 3) := by decide +kernel
theorem dX1_perform_11 : decode cX1_perform 11 = .ok (.istore_n 3, 1) := by decide +kernel
theorem dX1_perform_12 : decode cX1_perform 12 = .ok (.aload_n 0, 1) := by decide +kernel
theorem dX1_perform_13 : decode cX1_perform 13 = .ok (.getfield 18, 3) := by decide +kernel
theorem dX1_perform_16 : decode cX1_perform 16 = .ok (.iconst 0, 1) := by decide +kernel
theorem dX1_perform_17 : decode cX1_perform 17 = .ok (.dup2, 1) := by decide +kernel
theorem dX1_perform_18 : decode cX1_perform 18 = .ok (.iaload, 1) := by decide +kernel
theorem dX1_perform_19 : decode cX1_perform 19 = .ok (.iload_n 2, 1) := by decide +kernel
theorem dX1_perform_20 : decode cX1_perform 20 = .ok (.iload_n 3, 1) := by decide +kernel
theorem dX1_perform_21 : decode cX1_perform 21 = .ok (.iand, 1) := by decide +kernel
theorem dX1_perform_22 : decode cX1_perform 22 = .ok (.invokestatic 91, 3) := by decide +kernel
theorem dX1_perform_25 : decode cX1_perform 25 = .ok (.iadd, 1) := by decide +kernel
theorem dX1_perform_26 : decode cX1_perform 26 = .ok (.iastore, 1) := by decide +kernel
theorem dX1_perform_27 : decode cX1_perform 27 = .ok (.aload_n 0, 1) := by decide +kernel
theorem dX1_perform_28 : decode cX1_perform 28 = .ok (.getfield 18, 3) := by decide +kernel
theorem dX1_perform_31 : decode cX1_perform 31 = .ok (.iconst 1, 1) := by decide +kernel
theorem dX1_perform_32 : decode cX1_perform 32 = .ok (.dup2, 1) := by decide +kernel
theorem dX1_perform_33 : decode cX1_perform 33 = .ok (.iaload, 1) := by decide +kernel
theorem dX1_perform_34 : decode cX1_perform 34 = .ok (.iload_n 2, 1) := by decide +kernel
theorem dX1_perform_35 : decode cX1_perform 35 = .ok (.iload_n 3, 1) := by decide +kernel
theorem dX1_perform_36 : decode cX1_perform 36 = .ok (.iconst (-1), 1) := by decide +kernel
theorem dX1_perform_37 : decode cX1_perform 37 = .ok (.ixor, 1) := by decide +kernel
theorem dX1_perform_38 : decode cX1_perform 38 = .ok (.iand, 1) := by decide +kernel
theorem dX1_perform_39 : decode cX1_perform 39 = .ok (.invokestatic 91, 3) := by decide +kernel
theorem dX1_perform_42 : decode cX1_perform 42 = .ok (.iadd, 1) := by decide +kernel
theorem dX1_perform_43 : decode cX1_perform 43 = .ok (.iastore, 1) := by decide +kernel
theorem dX1_perform_44 : decode cX1_perform 44 = .ok (.aload_n 0, 1) := by decide +kernel
theorem dX1_perform_45 : decode cX1_perform 45 = .ok (.getfield 18, 3) := by decide +kernel
theorem dX1_perform_48 : decode cX1_perform 48 = .ok (.iconst 2, 1) := by decide +kernel
theorem dX1_perform_49 : decode cX1_perform 49 = .ok (.dup2, 1) := by decide +kernel
theorem dX1_perform_50 : decode cX1_perform 50 = .ok (.iaload, 1) := by decide +kernel
theorem dX1_perform_51 : decode cX1_perform 51 = .ok (.iload_n 3, 1) := by decide +kernel
theorem dX1_perform_52 : decode cX1_perform 52 = .ok (.iload_n 2, 1) := by decide +kernel
theorem dX1_perform_53 : decode cX1_perform 53 = .ok (.iconst (-1), 1) := by decide +kernel
theorem dX1_perform_54 : decode cX1_perform 54 = .ok (.ixor, 1) := by decide +kernel
theorem dX1_perform_55 : decode cX1_perform 55 = .ok (.iand, 1) := by decide +kernel
theorem dX1_perform_56 : decode cX1_perform 56 = .ok (.invokestatic 91, 3) := by decide +kernel
theorem dX1_perform_59 : decode cX1_perform 59 = .ok (.iadd, 1) := by decide +kernel
theorem dX1_perform_60 : decode cX1_perform 60 = .ok (.iastore, 1) := by decide +kernel
theorem dX1_perform_61 : decode cX1_perform 61 = .ok (.iload_n 2, 1) := by decide +kernel
theorem dX1_perform_62 : decode cX1_perform 62 = .ok (.invokestatic 91, 3) := by decide +kernel
theorem dX1_perform_65 : decode cX1_perform 65 = .ok (.ireturn, 1) := by decide +kernel
set_option maxRecDepth 20000 in
theorem ggX1_asksIn_X1_timeBetweenQuestions : GoodIn wsX1_asksIn wsX1_timeBetweenQuestions := goodIn_r _ [10, 11, 12, 13, 14, 9, 15, 16, 17, 18, 19, 20, 21, 22, 23, 24, 25, 26, 27, 28, 29] (by decide +kernel) (by decide +kernel)
set_option maxRecDepth 20000 in
theorem gX1_asksIn_X1_timeBetweenQuestions : GoodIn wsX1_asksIn (wsV RX1 74 RX1 yX1_timeBetweenQuestions wsX1_timeBetweenQuestions) := goodIn_app (goodIn_of _ (by decide +kernel)) ggX1_asksIn_X1_timeBetweenQuestions
theorem dX1_asksIn_0 : decode cX1_asksIn 0 = .ok (.iconst 1, 1) := by decide +kernel
theorem dX1_asksIn_1 : decode cX1_asksIn 1 = .ok (.aload_n 0, 1) := by decide +kernel
theorem dX1_asksIn_2 : decode cX1_asksIn 2 = .ok (.invokevirtual 74, 3) := by decide +kernel
theorem dX1_asksIn_5 : decode cX1_asksIn 5 = .ok (.aload_n 0, 1) := by decide +kernel
theorem dX1_asksIn_6 : decode cX1_asksIn 6 = .ok (.getfield 47, 3) := by decide +kernel
theorem dX1_asksIn_9 : decode cX1_asksIn 9 = .ok (.isub, 1) := by decide +kernel
theorem dX1_asksIn_10 : decode cX1_asksIn 10 = .ok (.invokestatic 96, 3) := by decide +kernel
theorem dX1_asksIn_13 : decode cX1_asksIn 13 = .ok (.ireturn, 1) := by decide +kernel
set_option maxRecDepth 20000 in
theorem ggX1_fadesIn_X1_asksIn : GoodIn wsX1_fadesIn wsX1_asksIn := goodIn_r _ [7, 8, 9, 10, 11, 12, 13, 14, 15, 6, 16, 17, 18, 19, 20, 21, 22, 23, 29, 30, 31, 32, 33, 34, 35, 36, 37, 38, 39, 40] (by decide +kernel) (by decide +kernel)
set_option maxRecDepth 20000 in
theorem gX1_fadesIn_X1_asksIn : GoodIn wsX1_fadesIn (wsV RX1 101 RX1 yX1_asksIn wsX1_asksIn) := goodIn_app (goodIn_of _ (by decide +kernel)) ggX1_fadesIn_X1_asksIn
set_option maxRecDepth 20000 in
theorem ggX1_fadesIn_X1_isWantedAt : GoodIn wsX1_fadesIn wsX1_isWantedAt := goodIn_r _ [27, 28, 29, 30, 31, 32, 33, 34, 35, 36, 37, 38, 39, 40] (by decide +kernel) (by decide +kernel)
set_option maxRecDepth 20000 in
theorem gX1_fadesIn_X1_isWantedAt : GoodIn wsX1_fadesIn (wsV RX1 63 RX1 yX1_isWantedAt wsX1_isWantedAt) := goodIn_app (goodIn_of _ (by decide +kernel)) ggX1_fadesIn_X1_isWantedAt
set_option maxRecDepth 20000 in
theorem ggX1_fadesIn_X1_timeBetweenQuestions : GoodIn wsX1_fadesIn wsX1_timeBetweenQuestions := goodIn_r _ [16, 17, 18, 19, 20, 6, 21, 22, 23, 29, 30, 31, 32, 33, 34, 35, 36, 37, 38, 39, 40] (by decide +kernel) (by decide +kernel)
set_option maxRecDepth 20000 in
theorem gX1_fadesIn_X1_timeBetweenQuestions : GoodIn wsX1_fadesIn (wsV RX1 74 RX1 yX1_timeBetweenQuestions wsX1_timeBetweenQuestions) := goodIn_app (goodIn_of _ (by decide +kernel)) ggX1_fadesIn_X1_timeBetweenQuestions
theorem dX1_fadesIn_0 : decode cX1_fadesIn 0 = .ok (.aload_n 0, 1) := by decide +kernel
theorem dX1_fadesIn_1 : decode cX1_fadesIn 1 = .ok (.invokevirtual 101, 3) := by decide +kernel
theorem dX1_fadesIn_4 : decode cX1_fadesIn 4 = .ok (.istore_n 2, 1) := by decide +kernel
theorem dX1_fadesIn_5 : decode cX1_fadesIn 5 = .ok (.aload_n 0, 1) := by decide +kernel
theorem dX1_fadesIn_6 : decode cX1_fadesIn 6 = .ok (.iload_n 1, 1) := by decide +kernel
theorem dX1_fadesIn_7 : decode cX1_fadesIn 7 = .ok (.invokevirtual 63, 3) := by decide +kernel
theorem dX1_fadesIn_10 : decode cX1_fadesIn 10 = .ok (.ifCond .eq 13, 3) := by decide +kernel
theorem dX1_fadesIn_13 : decode cX1_fadesIn 13 = .ok (.aload_n 0, 1) := by decide +kernel
theorem dX1_fadesIn_14 : decode cX1_fadesIn 14 = .ok (.getfield 15, 3) := by decide +kernel
theorem dX1_fadesIn_17 : decode cX1_fadesIn 17 = .ok (.iload_n 1, 1) := by decide +kernel
theorem dX1_fadesIn_18 : decode cX1_fadesIn 18 = .ok (.iaload, 1) := by decide +kernel
theorem dX1_fadesIn_19 : decode cX1_fadesIn 19 = .ok (.iload_n 2, 1) := by decide +kernel
theorem dX1_fadesIn_20 : decode cX1_fadesIn 20 = .ok (.if_icmp .ge 10, 3) := by decide +kernel
theorem dX1_fadesIn_23 : decode cX1_fadesIn 23 = .ok (.aload_n 0, 1) := by decide +kernel
theorem dX1_fadesIn_24 : decode cX1_fadesIn 24 = .ok (.getfield 15, 3) := by decide +kernel
theorem dX1_fadesIn_27 : decode cX1_fadesIn 27 = .ok (.iload_n 1, 1) := by decide +kernel
theorem dX1_fadesIn_28 : decode cX1_fadesIn 28 = .ok (.iaload, 1) := by decide +kernel
theorem dX1_fadesIn_29 : decode cX1_fadesIn 29 = .ok (.ireturn, 1) := by decide +kernel
theorem dX1_fadesIn_30 : decode cX1_fadesIn 30 = .ok (.aload_n 0, 1) := by decide +kernel
theorem dX1_fadesIn_31 : decode cX1_fadesIn 31 = .ok (.getfield 35, 3) := by decide +kernel
theorem dX1_fadesIn_34 : decode cX1_fadesIn 34 = .ok (.aload_n 0, 1) := by decide +kernel
theorem dX1_fadesIn_35 : decode cX1_fadesIn 35 = .ok (.invokevirtual 74, 3) := by decide +kernel
theorem dX1_fadesIn_38 : decode cX1_fadesIn 38 = .ok (.if_icmp .ge 12, 3) := by decide +kernel
theorem dX1_fadesIn_41 : decode cX1_fadesIn 41 = .ok (.iload_n 2, 1) := by decide +kernel
theorem dX1_fadesIn_42 : decode cX1_fadesIn 42 = .ok (.aload_n 0, 1) := by decide +kernel
theorem dX1_fadesIn_43 : decode cX1_fadesIn 43 = .ok (.getfield 35, 3) := by decide +kernel
theorem dX1_fadesIn_46 : decode cX1_fadesIn 46 = .ok (.iadd, 1) := by decide +kernel
theorem dX1_fadesIn_47 : decode cX1_fadesIn 47 = .ok (.goto 4, 3) := by decide +kernel
theorem dX1_fadesIn_50 : decode cX1_fadesIn 50 = .ok (.iconst (-1), 1) := by decide +kernel
theorem dX1_fadesIn_51 : decode cX1_fadesIn 51 = .ok (.ireturn, 1) := by decide +kernel
set_option maxRecDepth 20000 in
theorem ggX2_init_X1_init : GoodIn wsX2_init wsX1_init := goodIn_r _ [11, 12, 2, 3, 13, 14, 15, 16, 17, 18, 19, 20, 21, 22, 23, 24, 25, 29, 30, 31, 32, 33, 34, 35, 36, 37, 38, 39, 40] (by decide +kernel) (by decide +kernel)
set_option maxRecDepth 20000 in
theorem gX2_init_X1_init_n24 : GoodIn wsX2_init (wsX1_init) := ggX2_init_X1_init
theorem dX2_init_0 : decode cX2_init 0 = .ok (.aload_n 0, 1) := by decide +kernel
theorem dX2_init_1 : decode cX2_init 1 = .ok (.invokespecial 3, 3) := by decide +kernel
theorem dX2_init_4 : decode cX2_init 4 = .ok (.aload_n 0, 1) := by decide +kernel
theorem dX2_init_5 : decode cX2_init 5 = .ok (.bipush 6, 2) := by decide +kernel
theorem dX2_init_7 : decode cX2_init 7 = .ok (.anewarray 9, 3) := by decide +kernel
theorem dX2_init_10 : decode cX2_init 10 = .ok (.putfield 11, 3) := by decide +kernel
theorem dX2_init_13 : decode cX2_init 13 = .ok (.aload_n 0, 1) := by decide +kernel
theorem dX2_init_14 : decode cX2_init 14 = .ok (.iconst 0, 1) := by decide +kernel
theorem dX2_init_15 : decode cX2_init 15 = .ok (.putfield 17, 3) := by decide +kernel
theorem dX2_init_18 : decode cX2_init 18 = .ok (.aload_n 0, 1) := by decide +kernel
theorem dX2_init_19 : decode cX2_init 19 = .ok (.iconst 0, 1) := by decide +kernel
theorem dX2_init_20 : decode cX2_init 20 = .ok (.putfield 21, 3) := by decide +kernel
theorem dX2_init_23 : decode cX2_init 23 = .ok (.iconst 0, 1) := by decide +kernel
theorem dX2_init_24 : decode cX2_init 24 = .ok (.istore_n 1, 1) := by decide +kernel
theorem dX2_init_25 : decode cX2_init 25 = .ok (.iload_n 1, 1) := by decide +kernel
theorem dX2_init_26 : decode cX2_init 26 = .ok (.bipush 6, 2) := by decide +kernel
theorem dX2_init_28 : decode cX2_init 28 = .ok (.if_icmp .ge 22, 3) := by decide +kernel
theorem dX2_init_31 : decode cX2_init 31 = .ok (.aload_n 0, 1) := by decide +kernel
theorem dX2_init_32 : decode cX2_init 32 = .ok (.getfield 11, 3) := by decide +kernel
theorem dX2_init_35 : decode cX2_init 35 = .ok (.iload_n 1, 1) := by decide +kernel
theorem dX2_init_36 : decode cX2_init 36 = .ok (.new 9, 3) := by decide +kernel
theorem dX2_init_39 : decode cX2_init 39 = .ok (.dup, 1) := by decide +kernel
theorem dX2_init_40 : decode cX2_init 40 = .ok (.invokespecial 24, 3) := by decide +kernel
theorem dX2_init_43 : decode cX2_init 43 = .ok (.aastore, 1) := by decide +kernel
theorem dX2_init_44 : decode cX2_init 44 = .ok (.iinc 1 1, 3) := by decide +kernel
theorem dX2_init_47 : decode cX2_init 47 = .ok (.goto (-22), 3) := by decide +kernel
theorem dX2_init_50 : decode cX2_init 50 = .ok (.return_, 1) := by decide +kernel
set_option maxRecDepth 20000 in
theorem ggX2_keep_X1_copyFrom : GoodIn wsX2_keep wsX1_copyFrom := goodIn_r _ [8, 9, 10, 11, 12, 13, 14, 15, 16, 17, 18, 19, 20, 21, 22, 23, 24, 28, 29, 30, 31, 32, 33, 34, 35, 36, 37, 38, 39] (by decide +kernel) (by decide +kernel)
set_option maxRecDepth 20000 in
theorem gX2_keep_X1_copyFrom : GoodIn wsX2_keep (wsV RX2 25 RX1 yX1_copyFrom wsX1_copyFrom) := goodIn_app (goodIn_of _ (by decide +kernel)) ggX2_keep_X1_copyFrom
theorem dX2_keep_0 : decode cX2_keep 0 = .ok (.aload_n 0, 1) := by decide +kernel
theorem dX2_keep_1 : decode cX2_keep 1 = .ok (.getfield 21, 3) := by decide +kernel
theorem dX2_keep_4 : decode cX2_keep 4 = .ok (.bipush 6, 2) := by decide +kernel
theorem dX2_keep_6 : decode cX2_keep 6 = .ok (.if_icmp .ne 26, 3) := by decide +kernel
theorem dX2_keep_9 : decode cX2_keep 9 = .ok (.aload_n 0, 1) := by decide +kernel
theorem dX2_keep_10 : decode cX2_keep 10 = .ok (.aload_n 0, 1) := by decide +kernel
theorem dX2_keep_11 : decode cX2_keep 11 = .ok (.getfield 17, 3) := by decide +kernel
theorem dX2_keep_14 : decode cX2_keep 14 = .ok (.iconst 1, 1) := by decide +kernel
theorem dX2_keep_15 : decode cX2_keep 15 = .ok (.iadd, 1) := by decide +kernel
theorem dX2_keep_16 : decode cX2_keep 16 = .ok (.bipush 6, 2) := by decide +kernel
theorem dX2_keep_18 : decode cX2_keep 18 = .ok (.irem, 1) := by decide +kernel
theorem dX2_keep_19 : decode cX2_keep 19 = .ok (.putfield 17, 3) := by decide +kernel
theorem dX2_keep_22 : decode cX2_keep 22 = .ok (.aload_n 0, 1) := by decide +kernel
theorem dX2_keep_23 : decode cX2_keep 23 = .ok (.dup, 1) := by decide +kernel
theorem dX2_keep_24 : decode cX2_keep 24 = .ok (.getfield 21, 3) := by decide +kernel
theorem dX2_keep_27 : decode cX2_keep 27 = .ok (.iconst 1, 1) := by decide +kernel
theorem dX2_keep_28 : decode cX2_keep 28 = .ok (.isub, 1) := by decide +kernel
theorem dX2_keep_29 : decode cX2_keep 29 = .ok (.putfield 21, 3) := by decide +kernel
theorem dX2_keep_32 : decode cX2_keep 32 = .ok (.aload_n 0, 1) := by decide +kernel
theorem dX2_keep_33 : decode cX2_keep 33 = .ok (.getfield 11, 3) := by decide +kernel
theorem dX2_keep_36 : decode cX2_keep 36 = .ok (.aload_n 0, 1) := by decide +kernel
theorem dX2_keep_37 : decode cX2_keep 37 = .ok (.getfield 17, 3) := by decide +kernel
theorem dX2_keep_40 : decode cX2_keep 40 = .ok (.aload_n 0, 1) := by decide +kernel
theorem dX2_keep_41 : decode cX2_keep 41 = .ok (.getfield 21, 3) := by decide +kernel
theorem dX2_keep_44 : decode cX2_keep 44 = .ok (.iadd, 1) := by decide +kernel
theorem dX2_keep_45 : decode cX2_keep 45 = .ok (.bipush 6, 2) := by decide +kernel
theorem dX2_keep_47 : decode cX2_keep 47 = .ok (.irem, 1) := by decide +kernel
theorem dX2_keep_48 : decode cX2_keep 48 = .ok (.aaload, 1) := by decide +kernel
theorem dX2_keep_49 : decode cX2_keep 49 = .ok (.aload_n 1, 1) := by decide +kernel
theorem dX2_keep_50 : decode cX2_keep 50 = .ok (.invokevirtual 25, 3) := by decide +kernel
theorem dX2_keep_53 : decode cX2_keep 53 = .ok (.aload_n 0, 1) := by decide +kernel
theorem dX2_keep_54 : decode cX2_keep 54 = .ok (.dup, 1) := by decide +kernel
theorem dX2_keep_55 : decode cX2_keep 55 = .ok (.getfield 21, 3) := by decide +kernel
theorem dX2_keep_58 : decode cX2_keep 58 = .ok (.iconst 1, 1) := by decide +kernel
theorem dX2_keep_59 : decode cX2_keep 59 = .ok (.iadd, 1) := by decide +kernel
theorem dX2_keep_60 : decode cX2_keep 60 = .ok (.putfield 21, 3) := by decide +kernel
theorem dX2_keep_63 : decode cX2_keep 63 = .ok (.return_, 1) := by decide +kernel
set_option maxRecDepth 20000 in
theorem ggX2_takeBack_X1_copyFrom : GoodIn wsX2_takeBack wsX1_copyFrom := goodIn_r _ [8, 9, 10, 11, 12, 13, 14, 15, 16, 17, 18, 19, 20, 21, 22, 23, 24, 28, 29, 30, 31, 32, 33, 34, 35, 36, 37, 38, 39] (by decide +kernel) (by decide +kernel)
set_option maxRecDepth 20000 in
theorem gX2_takeBack_X1_copyFrom : GoodIn wsX2_takeBack (wsV RX2 25 RX1 yX1_copyFrom wsX1_copyFrom) := goodIn_app (goodIn_of _ (by decide +kernel)) ggX2_takeBack_X1_copyFrom
theorem dX2_takeBack_0 : decode cX2_takeBack 0 = .ok (.aload_n 0, 1) := by decide +kernel
theorem dX2_takeBack_1 : decode cX2_takeBack 1 = .ok (.getfield 21, 3) := by decide +kernel
theorem dX2_takeBack_4 : decode cX2_takeBack 4 = .ok (.ifCond .le 34, 3) := by decide +kernel
theorem dX2_takeBack_7 : decode cX2_takeBack 7 = .ok (.aload_n 0, 1) := by decide +kernel
theorem dX2_takeBack_8 : decode cX2_takeBack 8 = .ok (.dup, 1) := by decide +kernel
theorem dX2_takeBack_9 : decode cX2_takeBack 9 = .ok (.getfield 21, 3) := by decide +kernel
theorem dX2_takeBack_12 : decode cX2_takeBack 12 = .ok (.iconst 1, 1) := by decide +kernel
theorem dX2_takeBack_13 : decode cX2_takeBack 13 = .ok (.isub, 1) := by decide +kernel
theorem dX2_takeBack_14 : decode cX2_takeBack 14 = .ok (.putfield 21, 3) := by decide +kernel
theorem dX2_takeBack_17 : decode cX2_takeBack 17 = .ok (.aload_n 1, 1) := by decide +kernel
theorem dX2_takeBack_18 : decode cX2_takeBack 18 = .ok (.aload_n 0, 1) := by decide +kernel
theorem dX2_takeBack_19 : decode cX2_takeBack 19 = .ok (.getfield 11, 3) := by decide +kernel
theorem dX2_takeBack_22 : decode cX2_takeBack 22 = .ok (.aload_n 0, 1) := by decide +kernel
theorem dX2_takeBack_23 : decode cX2_takeBack 23 = .ok (.getfield 17, 3) := by decide +kernel
theorem dX2_takeBack_26 : decode cX2_takeBack 26 = .ok (.aload_n 0, 1) := by decide +kernel
theorem dX2_takeBack_27 : decode cX2_takeBack 27 = .ok (.getfield 21, 3) := by decide +kernel
theorem dX2_takeBack_30 : decode cX2_takeBack 30 = .ok (.iadd, 1) := by decide +kernel
theorem dX2_takeBack_31 : decode cX2_takeBack 31 = .ok (.bipush 6, 2) := by decide +kernel
theorem dX2_takeBack_33 : decode cX2_takeBack 33 = .ok (.irem, 1) := by decide +kernel
theorem dX2_takeBack_34 : decode cX2_takeBack 34 = .ok (.aaload, 1) := by decide +kernel
theorem dX2_takeBack_35 : decode cX2_takeBack 35 = .ok (.invokevirtual 25, 3) := by decide +kernel
theorem dX2_takeBack_38 : decode cX2_takeBack 38 = .ok (.return_, 1) := by decide +kernel
end
section
set_option maxRecDepth 20000 in
theorem ggX3_init_X1_init : GoodIn wsX3_init wsX1_init := goodIn_r _ [17, 18, 2, 3, 19, 20, 21, 22, 23, 24, 25, 26, 27, 28, 29, 30, 31, 46, 47, 48, 49, 50, 51, 52, 53, 54, 55, 56, 57] (by decide +kernel) (by decide +kernel)
set_option maxRecDepth 20000 in
theorem gX3_init_X1_init_n11 : GoodIn wsX3_init (wsX1_init) := ggX3_init_X1_init
set_option maxRecDepth 20000 in
theorem ggX3_init_X2_init : GoodIn wsX3_init wsX2_init := goodIn_r _ [34, 35, 2, 3, 36, 37, 38, 39, 5, 6, 16, 17, 18, 19, 20, 21, 22, 23, 24, 25, 26, 27, 28, 29, 30, 31, 61, 62, 63, 46, 47, 48, 49, 50, 51, 52, 53, 54, 55, 56, 57] (by decide +kernel) (by decide +kernel)
set_option maxRecDepth 20000 in
theorem gX3_init_X2_init : GoodIn wsX3_init (wsX2_init) := ggX3_init_X2_init
set_option maxRecDepth 20000 in
theorem ggX3_init_X0_init : GoodIn wsX3_init wsX0_init := goodIn_r _ [41, 42, 2, 3, 43, 44, 45, 64, 65] (by decide +kernel) (by decide +kernel)
set_option maxRecDepth 20000 in
theorem gX3_init_X0_init_n25 : GoodIn wsX3_init (wsX0_init) := ggX3_init_X0_init
theorem dX3_init_0 : decode cX3_init 0 = .ok (.aload_n 0, 1) := by decide +kernel
theorem dX3_init_1 : decode cX3_init 1 = .ok (.invokespecial 3, 3) := by decide +kernel
theorem dX3_init_4 : decode cX3_init 4 = .ok (.aload_n 0, 1) := by decide +kernel
theorem dX3_init_5 : decode cX3_init 5 = .ok (.new 9, 3) := by decide +kernel
theorem dX3_init_8 : decode cX3_init 8 = .ok (.dup, 1) := by decide +kernel
theorem dX3_init_9 : decode cX3_init 9 = .ok (.invokespecial 11, 3) := by decide +kernel
theorem dX3_init_12 : decode cX3_init 12 = .ok (.putfield 12, 3) := by decide +kernel
theorem dX3_init_15 : decode cX3_init 15 = .ok (.aload_n 0, 1) := by decide +kernel
theorem dX3_init_16 : decode cX3_init 16 = .ok (.new 16, 3) := by decide +kernel
theorem dX3_init_19 : decode cX3_init 19 = .ok (.dup, 1) := by decide +kernel
theorem dX3_init_20 : decode cX3_init 20 = .ok (.invokespecial 18, 3) := by decide +kernel
theorem dX3_init_23 : decode cX3_init 23 = .ok (.putfield 19, 3) := by decide +kernel
theorem dX3_init_26 : decode cX3_init 26 = .ok (.aload_n 0, 1) := by decide +kernel
theorem dX3_init_27 : decode cX3_init 27 = .ok (.new 23, 3) := by decide +kernel
theorem dX3_init_30 : decode cX3_init 30 = .ok (.dup, 1) := by decide +kernel
theorem dX3_init_31 : decode cX3_init 31 = .ok (.invokespecial 25, 3) := by decide +kernel
theorem dX3_init_34 : decode cX3_init 34 = .ok (.putfield 26, 3) := by decide +kernel
theorem dX3_init_37 : decode cX3_init 37 = .ok (.return_, 1) := by decide +kernel
set_option maxRecDepth 20000 in
theorem ggX3_come_X3_checkRow : GoodIn wsX3_come wsX3_checkRow := goodIn_ca (goodIn_r _ [9, 10, 11, 12, 13, 8, 14] (by decide +kernel) (by decide +kernel)) (goodIn_sub (fun _ h => List.mem_cons_of_mem _ (List.mem_append_right _ h)) (by decide +kernel))
set_option maxRecDepth 20000 in
theorem gX3_come_X3_checkRow : GoodIn wsX3_come (va_wsS RX3 30 yX3_checkRow wsX3_checkRow) := goodIn_app (goodIn_of _ (by decide +kernel)) ggX3_come_X3_checkRow
set_option maxRecDepth 20000 in
theorem ggX3_come_X3_checkConcert : GoodIn wsX3_come wsX3_checkConcert := goodIn_ca (goodIn_r _ [17, 10, 11, 18, 19, 8, 20] (by decide +kernel) (by decide +kernel)) (goodIn_sub (fun _ h => List.mem_cons_of_mem _ (List.mem_append_right _ h)) (by decide +kernel))
set_option maxRecDepth 20000 in
theorem gX3_come_X3_checkConcert : GoodIn wsX3_come (va_wsS RX3 34 yX3_checkConcert wsX3_checkConcert) := goodIn_app (goodIn_of _ (by decide +kernel)) ggX3_come_X3_checkConcert
set_option maxRecDepth 20000 in
theorem ggX3_come_X3_placeOf : GoodIn wsX3_come wsX3_placeOf := goodIn_r _ [23] (by decide +kernel) (by decide +kernel)
set_option maxRecDepth 20000 in
theorem gX3_come_X3_placeOf : GoodIn wsX3_come (va_wsS RX3 37 yX3_placeOf wsX3_placeOf) := goodIn_app (goodIn_of _ (by decide +kernel)) ggX3_come_X3_placeOf
set_option maxRecDepth 20000 in
theorem ggX3_come_X1_hasRoom : GoodIn wsX3_come wsX1_hasRoom := goodIn_r _ [28, 29, 68, 69, 70, 71, 72, 73, 74, 75, 76, 77, 78, 79] (by decide +kernel) (by decide +kernel)
set_option maxRecDepth 20000 in
theorem gX3_come_X1_hasRoom : GoodIn wsX3_come (wsV RX3 41 RX1 yX1_hasRoom wsX1_hasRoom) := goodIn_app (goodIn_of _ (by decide +kernel)) ggX3_come_X1_hasRoom
set_option maxRecDepth 20000 in
theorem ggX3_come_X2_keep : GoodIn wsX3_come wsX2_keep := goodIn_r _ [34, 35, 36, 37, 38, 39, 40, 27, 41, 29, 42, 43, 44, 45, 46, 47, 48, 49, 50, 51, 52, 53, 54, 55, 56, 80, 81, 82, 68, 69, 70, 71, 72, 73, 74, 75, 76, 77, 78, 79] (by decide +kernel) (by decide +kernel)
set_option maxRecDepth 20000 in
theorem gX3_come_X2_keep : GoodIn wsX3_come (wsV RX3 52 RX2 yX2_keep wsX2_keep) := goodIn_app (goodIn_of _ (by decide +kernel)) ggX3_come_X2_keep
set_option maxRecDepth 20000 in
theorem ggX3_come_X1_seat : GoodIn wsX3_come wsX1_seat := goodIn_r _ [60, 29, 61, 62, 63, 27, 64, 46, 52, 47, 68, 69, 70, 71, 72, 73, 74, 75, 76, 77, 78, 79] (by decide +kernel) (by decide +kernel)
set_option maxRecDepth 20000 in
theorem gX3_come_X1_seat : GoodIn wsX3_come (wsV RX3 56 RX1 yX1_seat wsX1_seat) := goodIn_app (goodIn_of _ (by decide +kernel)) ggX3_come_X1_seat
theorem dX3_come_0 : decode cX3_come 0 = .ok (.iload_n 1, 1) := by decide +kernel
theorem dX3_come_1 : decode cX3_come 1 = .ok (.invokestatic 30, 3) := by decide +kernel
theorem dX3_come_4 : decode cX3_come 4 = .ok (.iload_n 2, 1) := by decide +kernel
theorem dX3_come_5 : decode cX3_come 5 = .ok (.invokestatic 34, 3) := by decide +kernel
theorem dX3_come_8 : decode cX3_come 8 = .ok (.iload_n 1, 1) := by decide +kernel
theorem dX3_come_9 : decode cX3_come 9 = .ok (.iload_n 2, 1) := by decide +kernel
theorem dX3_come_10 : decode cX3_come 10 = .ok (.invokestatic 37, 3) := by decide +kernel
theorem dX3_come_13 : decode cX3_come 13 = .ok (.istore_n 3, 1) := by decide +kernel
theorem dX3_come_14 : decode cX3_come 14 = .ok (.aload_n 0, 1) := by decide +kernel
theorem dX3_come_15 : decode cX3_come 15 = .ok (.getfield 12, 3) := by decide +kernel
theorem dX3_come_18 : decode cX3_come 18 = .ok (.iload_n 3, 1) := by decide +kernel
theorem dX3_come_19 : decode cX3_come 19 = .ok (.invokevirtual 41, 3) := by decide +kernel
theorem dX3_come_22 : decode cX3_come 22 = .ok (.ifCond .ne 13, 3) := by decide +kernel
theorem dX3_come_25 : decode cX3_come 25 = .ok (.new 45, 3) := by decide +kernel
theorem dX3_come_28 : decode cX3_come 28 = .ok (.dup, 1) := by decide +kernel
theorem dX3_come_29 : decode cX3_come 29 = .ok (.ldc 47, 2) := by decide +kernel
theorem dX3_come_31 : decode cX3_come 31 = .ok (.invokespecial 49, 3) := by decide +kernel
theorem dX3_come_34 : decode cX3_come 34 = .ok (.athrow, 1) := by decide +kernel
theorem dX3_come_35 : decode cX3_come 35 = .ok (.aload_n 0, 1) := by decide +kernel
theorem dX3_come_36 : decode cX3_come 36 = .ok (.getfield 19, 3) := by decide +kernel
theorem dX3_come_39 : decode cX3_come 39 = .ok (.aload_n 0, 1) := by decide +kernel
theorem dX3_come_40 : decode cX3_come 40 = .ok (.getfield 12, 3) := by decide +kernel
theorem dX3_come_43 : decode cX3_come 43 = .ok (.invokevirtual 52, 3) := by decide +kernel
theorem dX3_come_46 : decode cX3_come 46 = .ok (.aload_n 0, 1) := by decide +kernel
theorem dX3_come_47 : decode cX3_come 47 = .ok (.getfield 12, 3) := by decide +kernel
theorem dX3_come_50 : decode cX3_come 50 = .ok (.iload_n 3, 1) := by decide +kernel
theorem dX3_come_51 : decode cX3_come 51 = .ok (.invokevirtual 56, 3) := by decide +kernel
theorem dX3_come_54 : decode cX3_come 54 = .ok (.aload_n 0, 1) := by decide +kernel
theorem dX3_come_55 : decode cX3_come 55 = .ok (.getfield 12, 3) := by decide +kernel
theorem dX3_come_58 : decode cX3_come 58 = .ok (.getfield 59, 3) := by decide +kernel
theorem dX3_come_61 : decode cX3_come 61 = .ok (.iload_n 3, 1) := by decide +kernel
theorem dX3_come_62 : decode cX3_come 62 = .ok (.iaload, 1) := by decide +kernel
theorem dX3_come_63 : decode cX3_come 63 = .ok (.ireturn, 1) := by decide +kernel
set_option maxRecDepth 20000 in
theorem ggX3_leave_X3_checkRow : GoodIn wsX3_leave wsX3_checkRow := goodIn_ca (goodIn_r _ [9, 10, 11, 12, 13, 8, 14] (by decide +kernel) (by decide +kernel)) (goodIn_sub (fun _ h => List.mem_cons_of_mem _ (List.mem_append_right _ h)) (by decide +kernel))
set_option maxRecDepth 20000 in
theorem gX3_leave_X3_checkRow : GoodIn wsX3_leave (va_wsS RX3 30 yX3_checkRow wsX3_checkRow) := goodIn_app (goodIn_of _ (by decide +kernel)) ggX3_leave_X3_checkRow
set_option maxRecDepth 20000 in
theorem ggX3_leave_X3_checkConcert : GoodIn wsX3_leave wsX3_checkConcert := goodIn_ca (goodIn_r _ [17, 10, 11, 18, 19, 8, 20] (by decide +kernel) (by decide +kernel)) (goodIn_sub (fun _ h => List.mem_cons_of_mem _ (List.mem_append_right _ h)) (by decide +kernel))
set_option maxRecDepth 20000 in
theorem gX3_leave_X3_checkConcert : GoodIn wsX3_leave (va_wsS RX3 34 yX3_checkConcert wsX3_checkConcert) := goodIn_app (goodIn_of _ (by decide +kernel)) ggX3_leave_X3_checkConcert
set_option maxRecDepth 20000 in
theorem ggX3_leave_X3_placeOf : GoodIn wsX3_leave wsX3_placeOf := goodIn_r _ [23] (by decide +kernel) (by decide +kernel)
set_option maxRecDepth 20000 in
theorem gX3_leave_X3_placeOf : GoodIn wsX3_leave (va_wsS RX3 37 yX3_placeOf wsX3_placeOf) := goodIn_app (goodIn_of _ (by decide +kernel)) ggX3_leave_X3_placeOf
set_option maxRecDepth 20000 in
theorem ggX3_leave_X1_isWantedAt : GoodIn wsX3_leave wsX1_isWantedAt := goodIn_r _ [28, 29, 73, 74, 75, 76, 77, 78, 79, 80, 81, 82, 83, 84] (by decide +kernel) (by decide +kernel)
set_option maxRecDepth 20000 in
theorem gX3_leave_X1_isWantedAt : GoodIn wsX3_leave (wsV RX3 63 RX1 yX1_isWantedAt wsX1_isWantedAt) := goodIn_app (goodIn_of _ (by decide +kernel)) ggX3_leave_X1_isWantedAt
set_option maxRecDepth 20000 in
theorem ggX3_leave_X2_keep : GoodIn wsX3_leave wsX2_keep := goodIn_r _ [34, 35, 36, 37, 38, 39, 40, 27, 41, 29, 42, 43, 44, 45, 46, 47, 48, 49, 50, 51, 52, 53, 54, 55, 56, 85, 86, 87, 73, 74, 75, 76, 77, 78, 79, 80, 81, 82, 83, 84] (by decide +kernel) (by decide +kernel)
set_option maxRecDepth 20000 in
theorem gX3_leave_X2_keep : GoodIn wsX3_leave (wsV RX3 52 RX2 yX2_keep wsX2_keep) := goodIn_app (goodIn_of _ (by decide +kernel)) ggX3_leave_X2_keep
set_option maxRecDepth 20000 in
theorem ggX3_leave_X1_unseat : GoodIn wsX3_leave wsX1_unseat := goodIn_r _ [60, 29, 61, 62, 63, 27, 64, 49, 46, 53, 47, 65, 25, 26, 28, 66, 67, 68, 69, 52, 73, 74, 75, 76, 77, 78, 79, 80, 81, 82, 83, 84] (by decide +kernel) (by decide +kernel)
set_option maxRecDepth 20000 in
theorem gX3_leave_X1_unseat : GoodIn wsX3_leave (wsV RX3 68 RX1 yX1_unseat wsX1_unseat) := goodIn_app (goodIn_of _ (by decide +kernel)) ggX3_leave_X1_unseat
theorem dX3_leave_0 : decode cX3_leave 0 = .ok (.iload_n 1, 1) := by decide +kernel
theorem dX3_leave_1 : decode cX3_leave 1 = .ok (.invokestatic 30, 3) := by decide +kernel
theorem dX3_leave_4 : decode cX3_leave 4 = .ok (.iload_n 2, 1) := by decide +kernel
theorem dX3_leave_5 : decode cX3_leave 5 = .ok (.invokestatic 34, 3) := by decide +kernel
theorem dX3_leave_8 : decode cX3_leave 8 = .ok (.iload_n 1, 1) := by decide +kernel
theorem dX3_leave_9 : decode cX3_leave 9 = .ok (.iload_n 2, 1) := by decide +kernel
theorem dX3_leave_10 : decode cX3_leave 10 = .ok (.invokestatic 37, 3) := by decide +kernel
theorem dX3_leave_13 : decode cX3_leave 13 = .ok (.istore 4, 2) := by decide +kernel
theorem dX3_leave_15 : decode cX3_leave 15 = .ok (.aload_n 0, 1) := by decide +kernel
theorem dX3_leave_16 : decode cX3_leave 16 = .ok (.getfield 12, 3) := by decide +kernel
theorem dX3_leave_19 : decode cX3_leave 19 = .ok (.iload 4, 2) := by decide +kernel
theorem dX3_leave_21 : decode cX3_leave 21 = .ok (.invokevirtual 63, 3) := by decide +kernel
theorem dX3_leave_24 : decode cX3_leave 24 = .ok (.ifCond .ne 13, 3) := by decide +kernel
theorem dX3_leave_27 : decode cX3_leave 27 = .ok (.new 45, 3) := by decide +kernel
theorem dX3_leave_30 : decode cX3_leave 30 = .ok (.dup, 1) := by decide +kernel
theorem dX3_leave_31 : decode cX3_leave 31 = .ok (.ldc 66, 2) := by decide +kernel
theorem dX3_leave_33 : decode cX3_leave 33 = .ok (.invokespecial 49, 3) := by decide +kernel
theorem dX3_leave_36 : decode cX3_leave 36 = .ok (.athrow, 1) := by decide +kernel
theorem dX3_leave_37 : decode cX3_leave 37 = .ok (.aload_n 0, 1) := by decide +kernel
theorem dX3_leave_38 : decode cX3_leave 38 = .ok (.getfield 19, 3) := by decide +kernel
theorem dX3_leave_41 : decode cX3_leave 41 = .ok (.aload_n 0, 1) := by decide +kernel
theorem dX3_leave_42 : decode cX3_leave 42 = .ok (.getfield 12, 3) := by decide +kernel
theorem dX3_leave_45 : decode cX3_leave 45 = .ok (.invokevirtual 52, 3) := by decide +kernel
theorem dX3_leave_48 : decode cX3_leave 48 = .ok (.aload_n 0, 1) := by decide +kernel
theorem dX3_leave_49 : decode cX3_leave 49 = .ok (.getfield 12, 3) := by decide +kernel
theorem dX3_leave_52 : decode cX3_leave 52 = .ok (.iload 4, 2) := by decide +kernel
theorem dX3_leave_54 : decode cX3_leave 54 = .ok (.iload_n 3, 1) := by decide +kernel
theorem dX3_leave_55 : decode cX3_leave 55 = .ok (.invokevirtual 68, 3) := by decide +kernel
theorem dX3_leave_58 : decode cX3_leave 58 = .ok (.aload_n 0, 1) := by decide +kernel
theorem dX3_leave_59 : decode cX3_leave 59 = .ok (.getfield 12, 3) := by decide +kernel
theorem dX3_leave_62 : decode cX3_leave 62 = .ok (.getfield 59, 3) := by decide +kernel
theorem dX3_leave_65 : decode cX3_leave 65 = .ok (.iload 4, 2) := by decide +kernel
theorem dX3_leave_67 : decode cX3_leave 67 = .ok (.iaload, 1) := by decide +kernel
theorem dX3_leave_68 : decode cX3_leave 68 = .ok (.ireturn, 1) := by decide +kernel
set_option maxRecDepth 20000 in
theorem ggX3_listeners_X3_checkRow : GoodIn wsX3_listeners wsX3_checkRow := goodIn_ca (goodIn_r _ [6, 7, 8, 9, 10, 5, 11] (by decide +kernel) (by decide +kernel)) (goodIn_sub (fun _ h => List.mem_cons_of_mem _ (List.mem_append_right _ h)) (by decide +kernel))
set_option maxRecDepth 20000 in
theorem gX3_listeners_X3_checkRow : GoodIn wsX3_listeners (va_wsS RX3 30 yX3_checkRow wsX3_checkRow) := goodIn_app (goodIn_of _ (by decide +kernel)) ggX3_listeners_X3_checkRow
set_option maxRecDepth 20000 in
theorem ggX3_listeners_X3_checkConcert : GoodIn wsX3_listeners wsX3_checkConcert := goodIn_ca (goodIn_r _ [14, 7, 8, 15, 16, 5, 17] (by decide +kernel) (by decide +kernel)) (goodIn_sub (fun _ h => List.mem_cons_of_mem _ (List.mem_append_right _ h)) (by decide +kernel))
set_option maxRecDepth 20000 in
theorem gX3_listeners_X3_checkConcert : GoodIn wsX3_listeners (va_wsS RX3 34 yX3_checkConcert wsX3_checkConcert) := goodIn_app (goodIn_of _ (by decide +kernel)) ggX3_listeners_X3_checkConcert
set_option maxRecDepth 20000 in
theorem ggX3_listeners_X3_placeOf : GoodIn wsX3_listeners wsX3_placeOf := goodIn_r _ [20] (by decide +kernel) (by decide +kernel)
set_option maxRecDepth 20000 in
theorem gX3_listeners_X3_placeOf : GoodIn wsX3_listeners (va_wsS RX3 37 yX3_placeOf wsX3_placeOf) := goodIn_app (goodIn_of _ (by decide +kernel)) ggX3_listeners_X3_placeOf
theorem dX3_listeners_0 : decode cX3_listeners 0 = .ok (.iload_n 1, 1) := by decide +kernel
theorem dX3_listeners_1 : decode cX3_listeners 1 = .ok (.invokestatic 30, 3) := by decide +kernel
theorem dX3_listeners_4 : decode cX3_listeners 4 = .ok (.iload_n 2, 1) := by decide +kernel
theorem dX3_listeners_5 : decode cX3_listeners 5 = .ok (.invokestatic 34, 3) := by decide +kernel
theorem dX3_listeners_8 : decode cX3_listeners 8 = .ok (.aload_n 0, 1) := by decide +kernel
theorem dX3_listeners_9 : decode cX3_listeners 9 = .ok (.getfield 12, 3) := by decide +kernel
theorem dX3_listeners_12 : decode cX3_listeners 12 = .ok (.getfield 59, 3) := by decide +kernel
theorem dX3_listeners_15 : decode cX3_listeners 15 = .ok (.iload_n 1, 1) := by decide +kernel
theorem dX3_listeners_16 : decode cX3_listeners 16 = .ok (.iload_n 2, 1) := by decide +kernel
theorem dX3_listeners_17 : decode cX3_listeners 17 = .ok (.invokestatic 37, 3) := by decide +kernel
theorem dX3_listeners_20 : decode cX3_listeners 20 = .ok (.iaload, 1) := by decide +kernel
theorem dX3_listeners_21 : decode cX3_listeners 21 = .ok (.ireturn, 1) := by decide +kernel
set_option maxRecDepth 20000 in
theorem ggX3_setOpen_X3_checkRow : GoodIn wsX3_setOpen wsX3_checkRow := goodIn_ca (goodIn_r _ [6, 7, 8, 9, 10, 5, 11] (by decide +kernel) (by decide +kernel)) (goodIn_sub (fun _ h => List.mem_cons_of_mem _ (List.mem_append_right _ h)) (by decide +kernel))
set_option maxRecDepth 20000 in
theorem gX3_setOpen_X3_checkRow : GoodIn wsX3_setOpen (va_wsS RX3 30 yX3_checkRow wsX3_checkRow) := goodIn_app (goodIn_of _ (by decide +kernel)) ggX3_setOpen_X3_checkRow
set_option maxRecDepth 20000 in
theorem ggX3_setOpen_X2_keep : GoodIn wsX3_setOpen wsX2_keep := goodIn_r _ [16, 17, 18, 19, 20, 21, 22, 23, 24, 25, 26, 27, 28, 29, 30, 31, 32, 33, 34, 35, 36, 37, 38, 39, 40, 52, 53, 54, 55, 56, 57, 58, 59, 60, 61, 62, 63, 64, 65, 66] (by decide +kernel) (by decide +kernel)
set_option maxRecDepth 20000 in
theorem gX3_setOpen_X2_keep : GoodIn wsX3_setOpen (wsV RX3 52 RX2 yX2_keep wsX2_keep) := goodIn_app (goodIn_of _ (by decide +kernel)) ggX3_setOpen_X2_keep
set_option maxRecDepth 20000 in
theorem ggX3_setOpen_X1_isRowOpen : GoodIn wsX3_setOpen wsX1_isRowOpen := goodIn_r _ [44, 32, 55, 56, 57, 58, 59, 60, 61, 62, 63, 64, 65, 66] (by decide +kernel) (by decide +kernel)
set_option maxRecDepth 20000 in
theorem gX3_setOpen_X1_isRowOpen : GoodIn wsX3_setOpen (wsV RX3 72 RX1 yX1_isRowOpen wsX1_isRowOpen) := goodIn_app (goodIn_of _ (by decide +kernel)) ggX3_setOpen_X1_isRowOpen
set_option maxRecDepth 20000 in
theorem ggX3_setOpen_X1_turnRow : GoodIn wsX3_setOpen wsX1_turnRow := goodIn_r _ [48, 32, 55, 56, 57, 58, 59, 60, 61, 62, 63, 64, 65, 66] (by decide +kernel) (by decide +kernel)
set_option maxRecDepth 20000 in
theorem gX3_setOpen_X1_turnRow : GoodIn wsX3_setOpen (wsV RX3 75 RX1 yX1_turnRow wsX1_turnRow) := goodIn_app (goodIn_of _ (by decide +kernel)) ggX3_setOpen_X1_turnRow
theorem dX3_setOpen_0 : decode cX3_setOpen 0 = .ok (.iload_n 1, 1) := by decide +kernel
theorem dX3_setOpen_1 : decode cX3_setOpen 1 = .ok (.invokestatic 30, 3) := by decide +kernel
theorem dX3_setOpen_4 : decode cX3_setOpen 4 = .ok (.aload_n 0, 1) := by decide +kernel
theorem dX3_setOpen_5 : decode cX3_setOpen 5 = .ok (.getfield 19, 3) := by decide +kernel
theorem dX3_setOpen_8 : decode cX3_setOpen 8 = .ok (.aload_n 0, 1) := by decide +kernel
theorem dX3_setOpen_9 : decode cX3_setOpen 9 = .ok (.getfield 12, 3) := by decide +kernel
theorem dX3_setOpen_12 : decode cX3_setOpen 12 = .ok (.invokevirtual 52, 3) := by decide +kernel
theorem dX3_setOpen_15 : decode cX3_setOpen 15 = .ok (.aload_n 0, 1) := by decide +kernel
theorem dX3_setOpen_16 : decode cX3_setOpen 16 = .ok (.getfield 12, 3) := by decide +kernel
theorem dX3_setOpen_19 : decode cX3_setOpen 19 = .ok (.iload_n 1, 1) := by decide +kernel
theorem dX3_setOpen_20 : decode cX3_setOpen 20 = .ok (.invokevirtual 72, 3) := by decide +kernel
theorem dX3_setOpen_23 : decode cX3_setOpen 23 = .ok (.istore_n 3, 1) := by decide +kernel
theorem dX3_setOpen_24 : decode cX3_setOpen 24 = .ok (.iload_n 3, 1) := by decide +kernel
theorem dX3_setOpen_25 : decode cX3_setOpen 25 = .ok (.iload_n 2, 1) := by decide +kernel
theorem dX3_setOpen_26 : decode cX3_setOpen 26 = .ok (.if_icmp .eq 11, 3) := by decide +kernel
theorem dX3_setOpen_29 : decode cX3_setOpen 29 = .ok (.aload_n 0, 1) := by decide +kernel
theorem dX3_setOpen_30 : decode cX3_setOpen 30 = .ok (.getfield 12, 3) := by decide +kernel
theorem dX3_setOpen_33 : decode cX3_setOpen 33 = .ok (.iload_n 1, 1) := by decide +kernel
theorem dX3_setOpen_34 : decode cX3_setOpen 34 = .ok (.invokevirtual 75, 3) := by decide +kernel
theorem dX3_setOpen_37 : decode cX3_setOpen 37 = .ok (.iload_n 3, 1) := by decide +kernel
theorem dX3_setOpen_38 : decode cX3_setOpen 38 = .ok (.ireturn, 1) := by decide +kernel
set_option maxRecDepth 20000 in
theorem ggX3_setQuick_X2_keep : GoodIn wsX3_setQuick wsX2_keep := goodIn_r _ [8, 9, 10, 11, 12, 13, 14, 15, 16, 17, 18, 19, 20, 21, 22, 23, 24, 25, 26, 27, 28, 29, 30, 31, 32, 48, 49, 50, 36, 37, 38, 39, 40, 41, 42, 43, 44, 45, 46, 47] (by decide +kernel) (by decide +kernel)
set_option maxRecDepth 20000 in
theorem gX3_setQuick_X2_keep : GoodIn wsX3_setQuick (wsV RX3 52 RX2 yX2_keep wsX2_keep) := goodIn_app (goodIn_of _ (by decide +kernel)) ggX3_setQuick_X2_keep
theorem dX3_setQuick_0 : decode cX3_setQuick 0 = .ok (.aload_n 0, 1) := by decide +kernel
theorem dX3_setQuick_1 : decode cX3_setQuick 1 = .ok (.getfield 19, 3) := by decide +kernel
theorem dX3_setQuick_4 : decode cX3_setQuick 4 = .ok (.aload_n 0, 1) := by decide +kernel
theorem dX3_setQuick_5 : decode cX3_setQuick 5 = .ok (.getfield 12, 3) := by decide +kernel
theorem dX3_setQuick_8 : decode cX3_setQuick 8 = .ok (.invokevirtual 52, 3) := by decide +kernel
theorem dX3_setQuick_11 : decode cX3_setQuick 11 = .ok (.aload_n 0, 1) := by decide +kernel
theorem dX3_setQuick_12 : decode cX3_setQuick 12 = .ok (.getfield 12, 3) := by decide +kernel
theorem dX3_setQuick_15 : decode cX3_setQuick 15 = .ok (.getfield 78, 3) := by decide +kernel
theorem dX3_setQuick_18 : decode cX3_setQuick 18 = .ok (.istore_n 2, 1) := by decide +kernel
theorem dX3_setQuick_19 : decode cX3_setQuick 19 = .ok (.aload_n 0, 1) := by decide +kernel
theorem dX3_setQuick_20 : decode cX3_setQuick 20 = .ok (.getfield 12, 3) := by decide +kernel
theorem dX3_setQuick_23 : decode cX3_setQuick 23 = .ok (.iload_n 1, 1) := by decide +kernel
theorem dX3_setQuick_24 : decode cX3_setQuick 24 = .ok (.putfield 78, 3) := by decide +kernel
theorem dX3_setQuick_27 : decode cX3_setQuick 27 = .ok (.iload_n 2, 1) := by decide +kernel
theorem dX3_setQuick_28 : decode cX3_setQuick 28 = .ok (.ireturn, 1) := by decide +kernel
set_option maxRecDepth 20000 in
theorem ggX3_setTimes_X2_keep : GoodIn wsX3_setTimes wsX2_keep := goodIn_r _ [12, 13, 14, 15, 16, 17, 18, 19, 20, 21, 22, 23, 24, 25, 26, 27, 28, 29, 30, 31, 32, 33, 34, 35, 36, 52, 53, 54, 40, 41, 42, 43, 44, 45, 46, 47, 48, 49, 50, 51] (by decide +kernel) (by decide +kernel)
set_option maxRecDepth 20000 in
theorem gX3_setTimes_X2_keep : GoodIn wsX3_setTimes (wsV RX3 52 RX2 yX2_keep wsX2_keep) := goodIn_app (goodIn_of _ (by decide +kernel)) ggX3_setTimes_X2_keep
theorem dX3_setTimes_0 : decode cX3_setTimes 0 = .ok (.iload_n 1, 1) := by decide +kernel
theorem dX3_setTimes_1 : decode cX3_setTimes 1 = .ok (.iconst 2, 1) := by decide +kernel
theorem dX3_setTimes_2 : decode cX3_setTimes 2 = .ok (.if_icmp .lt 9, 3) := by decide +kernel
theorem dX3_setTimes_5 : decode cX3_setTimes 5 = .ok (.iload_n 1, 1) := by decide +kernel
theorem dX3_setTimes_6 : decode cX3_setTimes 6 = .ok (.bipush 60, 2) := by decide +kernel
theorem dX3_setTimes_8 : decode cX3_setTimes 8 = .ok (.if_icmp .le 13, 3) := by decide +kernel
theorem dX3_setTimes_11 : decode cX3_setTimes 11 = .ok (.new 82, 3) := by decide +kernel
theorem dX3_setTimes_14 : decode cX3_setTimes 14 = .ok (.dup, 1) := by decide +kernel
theorem dX3_setTimes_15 : decode cX3_setTimes 15 = .ok (.ldc 84, 2) := by decide +kernel
theorem dX3_setTimes_17 : decode cX3_setTimes 17 = .ok (.invokespecial 86, 3) := by decide +kernel
theorem dX3_setTimes_20 : decode cX3_setTimes 20 = .ok (.athrow, 1) := by decide +kernel
theorem dX3_setTimes_21 : decode cX3_setTimes 21 = .ok (.iload_n 2, 1) := by decide +kernel
theorem dX3_setTimes_22 : decode cX3_setTimes 22 = .ok (.iconst 1, 1) := by decide +kernel
theorem dX3_setTimes_23 : decode cX3_setTimes 23 = .ok (.if_icmp .lt 9, 3) := by decide +kernel
theorem dX3_setTimes_26 : decode cX3_setTimes 26 = .ok (.iload_n 2, 1) := by decide +kernel
theorem dX3_setTimes_27 : decode cX3_setTimes 27 = .ok (.bipush 10, 2) := by decide +kernel
theorem dX3_setTimes_29 : decode cX3_setTimes 29 = .ok (.if_icmp .le 13, 3) := by decide +kernel
theorem dX3_setTimes_32 : decode cX3_setTimes 32 = .ok (.new 82, 3) := by decide +kernel
theorem dX3_setTimes_35 : decode cX3_setTimes 35 = .ok (.dup, 1) := by decide +kernel
theorem dX3_setTimes_36 : decode cX3_setTimes 36 = .ok (.ldc 87, 2) := by decide +kernel
theorem dX3_setTimes_38 : decode cX3_setTimes 38 = .ok (.invokespecial 86, 3) := by decide +kernel
theorem dX3_setTimes_41 : decode cX3_setTimes 41 = .ok (.athrow, 1) := by decide +kernel
theorem dX3_setTimes_42 : decode cX3_setTimes 42 = .ok (.iload_n 3, 1) := by decide +kernel
theorem dX3_setTimes_43 : decode cX3_setTimes 43 = .ok (.iconst 1, 1) := by decide +kernel
theorem dX3_setTimes_44 : decode cX3_setTimes 44 = .ok (.if_icmp .lt 9, 3) := by decide +kernel
theorem dX3_setTimes_47 : decode cX3_setTimes 47 = .ok (.iload_n 3, 1) := by decide +kernel
theorem dX3_setTimes_48 : decode cX3_setTimes 48 = .ok (.bipush 30, 2) := by decide +kernel
theorem dX3_setTimes_50 : decode cX3_setTimes 50 = .ok (.if_icmp .le 13, 3) := by decide +kernel
theorem dX3_setTimes_53 : decode cX3_setTimes 53 = .ok (.new 82, 3) := by decide +kernel
theorem dX3_setTimes_56 : decode cX3_setTimes 56 = .ok (.dup, 1) := by decide +kernel
theorem dX3_setTimes_57 : decode cX3_setTimes 57 = .ok (.ldc 89, 2) := by decide +kernel
theorem dX3_setTimes_59 : decode cX3_setTimes 59 = .ok (.invokespecial 86, 3) := by decide +kernel
theorem dX3_setTimes_62 : decode cX3_setTimes 62 = .ok (.athrow, 1) := by decide +kernel
theorem dX3_setTimes_63 : decode cX3_setTimes 63 = .ok (.aload_n 0, 1) := by decide +kernel
theorem dX3_setTimes_64 : decode cX3_setTimes 64 = .ok (.getfield 19, 3) := by decide +kernel
theorem dX3_setTimes_67 : decode cX3_setTimes 67 = .ok (.aload_n 0, 1) := by decide +kernel
theorem dX3_setTimes_68 : decode cX3_setTimes 68 = .ok (.getfield 12, 3) := by decide +kernel
theorem dX3_setTimes_71 : decode cX3_setTimes 71 = .ok (.invokevirtual 52, 3) := by decide +kernel
theorem dX3_setTimes_74 : decode cX3_setTimes 74 = .ok (.aload_n 0, 1) := by decide +kernel
theorem dX3_setTimes_75 : decode cX3_setTimes 75 = .ok (.getfield 12, 3) := by decide +kernel
theorem dX3_setTimes_78 : decode cX3_setTimes 78 = .ok (.getfield 91, 3) := by decide +kernel
theorem dX3_setTimes_81 : decode cX3_setTimes 81 = .ok (.istore 4, 2) := by decide +kernel
theorem dX3_setTimes_83 : decode cX3_setTimes 83 = .ok (.aload_n 0, 1) := by decide +kernel
theorem dX3_setTimes_84 : decode cX3_setTimes 84 = .ok (.getfield 12, 3) := by decide +kernel
theorem dX3_setTimes_87 : decode cX3_setTimes 87 = .ok (.iload_n 1, 1) := by decide +kernel
theorem dX3_setTimes_88 : decode cX3_setTimes 88 = .ok (.putfield 91, 3) := by decide +kernel
theorem dX3_setTimes_91 : decode cX3_setTimes 91 = .ok (.aload_n 0, 1) := by decide +kernel
theorem dX3_setTimes_92 : decode cX3_setTimes 92 = .ok (.getfield 12, 3) := by decide +kernel
theorem dX3_setTimes_95 : decode cX3_setTimes 95 = .ok (.iload_n 2, 1) := by decide +kernel
theorem dX3_setTimes_96 : decode cX3_setTimes 96 = .ok (.putfield 95, 3) := by decide +kernel
theorem dX3_setTimes_99 : decode cX3_setTimes 99 = .ok (.aload_n 0, 1) := by decide +kernel
theorem dX3_setTimes_100 : decode cX3_setTimes 100 = .ok (.getfield 12, 3) := by decide +kernel
theorem dX3_setTimes_103 : decode cX3_setTimes 103 = .ok (.iload_n 3, 1) := by decide +kernel
theorem dX3_setTimes_104 : decode cX3_setTimes 104 = .ok (.putfield 98, 3) := by decide +kernel
theorem dX3_setTimes_107 : decode cX3_setTimes 107 = .ok (.iload 4, 2) := by decide +kernel
theorem dX3_setTimes_109 : decode cX3_setTimes 109 = .ok (.ireturn, 1) := by decide +kernel
set_option maxRecDepth 20000 in
theorem ggX3_setPresent_X2_keep : GoodIn wsX3_setPresent wsX2_keep := goodIn_r _ [11, 12, 13, 14, 15, 16, 17, 18, 19, 20, 21, 22, 23, 24, 25, 26, 27, 28, 29, 30, 31, 32, 33, 34, 35, 55, 56, 57, 43, 44, 45, 46, 47, 48, 49, 50, 51, 52, 53, 54] (by decide +kernel) (by decide +kernel)
set_option maxRecDepth 20000 in
theorem gX3_setPresent_X2_keep : GoodIn wsX3_setPresent (wsV RX3 52 RX2 yX2_keep wsX2_keep) := goodIn_app (goodIn_of _ (by decide +kernel)) ggX3_setPresent_X2_keep
set_option maxRecDepth 20000 in
theorem ggX3_setPresent_X1_chiefAsker : GoodIn wsX3_setPresent wsX1_chiefAsker := goodIn_r _ [39, 30, 29, 43, 44, 45, 46, 47, 48, 49, 50, 51, 52, 53, 54] (by decide +kernel) (by decide +kernel)
set_option maxRecDepth 20000 in
theorem gX3_setPresent_X1_chiefAsker : GoodIn wsX3_setPresent (wsV RX3 112 RX1 yX1_chiefAsker wsX1_chiefAsker) := goodIn_app (goodIn_of _ (by decide +kernel)) ggX3_setPresent_X1_chiefAsker
theorem dX3_setPresent_0 : decode cX3_setPresent 0 = .ok (.iload_n 1, 1) := by decide +kernel
theorem dX3_setPresent_1 : decode cX3_setPresent 1 = .ok (.iconst 1, 1) := by decide +kernel
theorem dX3_setPresent_2 : decode cX3_setPresent 2 = .ok (.if_icmp .eq 18, 3) := by decide +kernel
theorem dX3_setPresent_5 : decode cX3_setPresent 5 = .ok (.iload_n 1, 1) := by decide +kernel
theorem dX3_setPresent_6 : decode cX3_setPresent 6 = .ok (.iconst 2, 1) := by decide +kernel
theorem dX3_setPresent_7 : decode cX3_setPresent 7 = .ok (.if_icmp .eq 13, 3) := by decide +kernel
theorem dX3_setPresent_10 : decode cX3_setPresent 10 = .ok (.new 101, 3) := by decide +kernel
theorem dX3_setPresent_13 : decode cX3_setPresent 13 = .ok (.dup, 1) := by decide +kernel
theorem dX3_setPresent_14 : decode cX3_setPresent 14 = .ok (.ldc 103, 2) := by decide +kernel
theorem dX3_setPresent_16 : decode cX3_setPresent 16 = .ok (.invokespecial 105, 3) := by decide +kernel
theorem dX3_setPresent_19 : decode cX3_setPresent 19 = .ok (.athrow, 1) := by decide +kernel
theorem dX3_setPresent_20 : decode cX3_setPresent 20 = .ok (.aload_n 0, 1) := by decide +kernel
theorem dX3_setPresent_21 : decode cX3_setPresent 21 = .ok (.getfield 19, 3) := by decide +kernel
theorem dX3_setPresent_24 : decode cX3_setPresent 24 = .ok (.aload_n 0, 1) := by decide +kernel
theorem dX3_setPresent_25 : decode cX3_setPresent 25 = .ok (.getfield 12, 3) := by decide +kernel
theorem dX3_setPresent_28 : decode cX3_setPresent 28 = .ok (.invokevirtual 52, 3) := by decide +kernel
theorem dX3_setPresent_31 : decode cX3_setPresent 31 = .ok (.iload_n 1, 1) := by decide +kernel
theorem dX3_setPresent_32 : decode cX3_setPresent 32 = .ok (.iconst 1, 1) := by decide +kernel
theorem dX3_setPresent_33 : decode cX3_setPresent 33 = .ok (.if_icmp .ne 14, 3) := by decide +kernel
theorem dX3_setPresent_36 : decode cX3_setPresent 36 = .ok (.aload_n 0, 1) := by decide +kernel
theorem dX3_setPresent_37 : decode cX3_setPresent 37 = .ok (.getfield 12, 3) := by decide +kernel
theorem dX3_setPresent_40 : decode cX3_setPresent 40 = .ok (.iload_n 2, 1) := by decide +kernel
theorem dX3_setPresent_41 : decode cX3_setPresent 41 = .ok (.putfield 106, 3) := by decide +kernel
theorem dX3_setPresent_44 : decode cX3_setPresent 44 = .ok (.goto 11, 3) := by decide +kernel
theorem dX3_setPresent_47 : decode cX3_setPresent 47 = .ok (.aload_n 0, 1) := by decide +kernel
theorem dX3_setPresent_48 : decode cX3_setPresent 48 = .ok (.getfield 12, 3) := by decide +kernel
theorem dX3_setPresent_51 : decode cX3_setPresent 51 = .ok (.iload_n 2, 1) := by decide +kernel
theorem dX3_setPresent_52 : decode cX3_setPresent 52 = .ok (.putfield 109, 3) := by decide +kernel
theorem dX3_setPresent_55 : decode cX3_setPresent 55 = .ok (.aload_n 0, 1) := by decide +kernel
theorem dX3_setPresent_56 : decode cX3_setPresent 56 = .ok (.getfield 12, 3) := by decide +kernel
theorem dX3_setPresent_59 : decode cX3_setPresent 59 = .ok (.invokevirtual 112, 3) := by decide +kernel
theorem dX3_setPresent_62 : decode cX3_setPresent 62 = .ok (.ireturn, 1) := by decide +kernel
set_option maxRecDepth 20000 in
theorem ggX3_chief_X1_chiefAsker : GoodIn wsX3_chief wsX1_chiefAsker := goodIn_r _ [6, 7, 8, 12, 13, 14, 15, 16, 17, 18, 19, 20, 21, 22, 23] (by decide +kernel) (by decide +kernel)
set_option maxRecDepth 20000 in
theorem gX3_chief_X1_chiefAsker : GoodIn wsX3_chief (wsV RX3 112 RX1 yX1_chiefAsker wsX1_chiefAsker) := goodIn_app (goodIn_of _ (by decide +kernel)) ggX3_chief_X1_chiefAsker
theorem dX3_chief_0 : decode cX3_chief 0 = .ok (.aload_n 0, 1) := by decide +kernel
theorem dX3_chief_1 : decode cX3_chief 1 = .ok (.getfield 12, 3) := by decide +kernel
theorem dX3_chief_4 : decode cX3_chief 4 = .ok (.invokevirtual 112, 3) := by decide +kernel
theorem dX3_chief_7 : decode cX3_chief 7 = .ok (.ireturn, 1) := by decide +kernel
set_option maxRecDepth 20000 in
theorem ggX3_rest_X3_checkRow : GoodIn wsX3_rest wsX3_checkRow := goodIn_ca (goodIn_r _ [6, 7, 8, 9, 10, 5, 11] (by decide +kernel) (by decide +kernel)) (goodIn_sub (fun _ h => List.mem_cons_of_mem _ (List.mem_append_right _ h)) (by decide +kernel))
set_option maxRecDepth 20000 in
theorem gX3_rest_X3_checkRow : GoodIn wsX3_rest (va_wsS RX3 30 yX3_checkRow wsX3_checkRow) := goodIn_app (goodIn_of _ (by decide +kernel)) ggX3_rest_X3_checkRow
set_option maxRecDepth 20000 in
theorem ggX3_rest_X3_checkConcert : GoodIn wsX3_rest wsX3_checkConcert := goodIn_ca (goodIn_r _ [14, 7, 8, 15, 16, 5, 17] (by decide +kernel) (by decide +kernel)) (goodIn_sub (fun _ h => List.mem_cons_of_mem _ (List.mem_append_right _ h)) (by decide +kernel))
set_option maxRecDepth 20000 in
theorem gX3_rest_X3_checkConcert : GoodIn wsX3_rest (va_wsS RX3 34 yX3_checkConcert wsX3_checkConcert) := goodIn_app (goodIn_of _ (by decide +kernel)) ggX3_rest_X3_checkConcert
set_option maxRecDepth 20000 in
theorem ggX3_rest_X3_placeOf : GoodIn wsX3_rest wsX3_placeOf := goodIn_r _ [20] (by decide +kernel) (by decide +kernel)
set_option maxRecDepth 20000 in
theorem gX3_rest_X3_placeOf : GoodIn wsX3_rest (va_wsS RX3 37 yX3_placeOf wsX3_placeOf) := goodIn_app (goodIn_of _ (by decide +kernel)) ggX3_rest_X3_placeOf
theorem dX3_rest_0 : decode cX3_rest 0 = .ok (.iload_n 1, 1) := by decide +kernel
theorem dX3_rest_1 : decode cX3_rest 1 = .ok (.invokestatic 30, 3) := by decide +kernel
theorem dX3_rest_4 : decode cX3_rest 4 = .ok (.iload_n 2, 1) := by decide +kernel
theorem dX3_rest_5 : decode cX3_rest 5 = .ok (.invokestatic 34, 3) := by decide +kernel
theorem dX3_rest_8 : decode cX3_rest 8 = .ok (.aload_n 0, 1) := by decide +kernel
theorem dX3_rest_9 : decode cX3_rest 9 = .ok (.getfield 12, 3) := by decide +kernel
theorem dX3_rest_12 : decode cX3_rest 12 = .ok (.getfield 116, 3) := by decide +kernel
theorem dX3_rest_15 : decode cX3_rest 15 = .ok (.iload_n 1, 1) := by decide +kernel
theorem dX3_rest_16 : decode cX3_rest 16 = .ok (.iload_n 2, 1) := by decide +kernel
theorem dX3_rest_17 : decode cX3_rest 17 = .ok (.invokestatic 37, 3) := by decide +kernel
theorem dX3_rest_20 : decode cX3_rest 20 = .ok (.iaload, 1) := by decide +kernel
theorem dX3_rest_21 : decode cX3_rest 21 = .ok (.ireturn, 1) := by decide +kernel
set_option maxRecDepth 20000 in
theorem ggX3_entries_X1_entriesInAll : GoodIn wsX3_entries wsX1_entriesInAll := goodIn_r _ [6, 7, 11, 12, 13, 14, 15, 16, 17, 18, 19, 20, 21, 22] (by decide +kernel) (by decide +kernel)
set_option maxRecDepth 20000 in
theorem gX3_entries_X1_entriesInAll : GoodIn wsX3_entries (wsV RX3 119 RX1 yX1_entriesInAll wsX1_entriesInAll) := goodIn_app (goodIn_of _ (by decide +kernel)) ggX3_entries_X1_entriesInAll
theorem dX3_entries_0 : decode cX3_entries 0 = .ok (.aload_n 0, 1) := by decide +kernel
theorem dX3_entries_1 : decode cX3_entries 1 = .ok (.getfield 12, 3) := by decide +kernel
theorem dX3_entries_4 : decode cX3_entries 4 = .ok (.invokevirtual 119, 3) := by decide +kernel
theorem dX3_entries_7 : decode cX3_entries 7 = .ok (.ireturn, 1) := by decide +kernel
set_option maxRecDepth 20000 in
theorem ggX3_isOpen_X3_checkRow : GoodIn wsX3_isOpen wsX3_checkRow := goodIn_ca (goodIn_r _ [5, 6, 7, 8, 9, 4, 10] (by decide +kernel) (by decide +kernel)) (goodIn_sub (fun _ h => List.mem_cons_of_mem _ (List.mem_append_right _ h)) (by decide +kernel))
set_option maxRecDepth 20000 in
theorem gX3_isOpen_X3_checkRow : GoodIn wsX3_isOpen (va_wsS RX3 30 yX3_checkRow wsX3_checkRow) := goodIn_app (goodIn_of _ (by decide +kernel)) ggX3_isOpen_X3_checkRow
set_option maxRecDepth 20000 in
theorem ggX3_isOpen_X1_isRowOpen : GoodIn wsX3_isOpen wsX1_isRowOpen := goodIn_r _ [15, 16, 20, 21, 22, 23, 24, 25, 26, 27, 28, 29, 30, 31] (by decide +kernel) (by decide +kernel)
set_option maxRecDepth 20000 in
theorem gX3_isOpen_X1_isRowOpen : GoodIn wsX3_isOpen (wsV RX3 72 RX1 yX1_isRowOpen wsX1_isRowOpen) := goodIn_app (goodIn_of _ (by decide +kernel)) ggX3_isOpen_X1_isRowOpen
theorem dX3_isOpen_0 : decode cX3_isOpen 0 = .ok (.iload_n 1, 1) := by decide +kernel
theorem dX3_isOpen_1 : decode cX3_isOpen 1 = .ok (.invokestatic 30, 3) := by decide +kernel
theorem dX3_isOpen_4 : decode cX3_isOpen 4 = .ok (.aload_n 0, 1) := by decide +kernel
theorem dX3_isOpen_5 : decode cX3_isOpen 5 = .ok (.getfield 12, 3) := by decide +kernel
theorem dX3_isOpen_8 : decode cX3_isOpen 8 = .ok (.iload_n 1, 1) := by decide +kernel
theorem dX3_isOpen_9 : decode cX3_isOpen 9 = .ok (.invokevirtual 72, 3) := by decide +kernel
theorem dX3_isOpen_12 : decode cX3_isOpen 12 = .ok (.ireturn, 1) := by decide +kernel
set_option maxRecDepth 20000 in
theorem ggX3_rows_X3_checkConcert : GoodIn wsX3_rows wsX3_checkConcert := goodIn_ca (goodIn_r _ [5, 6, 7, 8, 9, 4, 10] (by decide +kernel) (by decide +kernel)) (goodIn_sub (fun _ h => List.mem_cons_of_mem _ (List.mem_append_right _ h)) (by decide +kernel))
set_option maxRecDepth 20000 in
theorem gX3_rows_X3_checkConcert : GoodIn wsX3_rows (va_wsS RX3 34 yX3_checkConcert wsX3_checkConcert) := goodIn_app (goodIn_of _ (by decide +kernel)) ggX3_rows_X3_checkConcert
set_option maxRecDepth 20000 in
theorem ggX3_rows_X1_rowsThatGet : GoodIn wsX3_rows wsX1_rowsThatGet := goodIn_r _ [15, 16, 17, 18, 4, 19, 23, 24, 25, 26, 27, 28, 29, 30, 31, 32, 33, 34] (by decide +kernel) (by decide +kernel)
set_option maxRecDepth 20000 in
theorem gX3_rows_X1_rowsThatGet : GoodIn wsX3_rows (wsV RX3 122 RX1 yX1_rowsThatGet wsX1_rowsThatGet) := goodIn_app (goodIn_of _ (by decide +kernel)) ggX3_rows_X1_rowsThatGet
theorem dX3_rows_0 : decode cX3_rows 0 = .ok (.iload_n 1, 1) := by decide +kernel
theorem dX3_rows_1 : decode cX3_rows 1 = .ok (.invokestatic 34, 3) := by decide +kernel
theorem dX3_rows_4 : decode cX3_rows 4 = .ok (.aload_n 0, 1) := by decide +kernel
theorem dX3_rows_5 : decode cX3_rows 5 = .ok (.getfield 12, 3) := by decide +kernel
theorem dX3_rows_8 : decode cX3_rows 8 = .ok (.iload_n 1, 1) := by decide +kernel
theorem dX3_rows_9 : decode cX3_rows 9 = .ok (.invokevirtual 122, 3) := by decide +kernel
theorem dX3_rows_12 : decode cX3_rows 12 = .ok (.ireturn, 1) := by decide +kernel
set_option maxRecDepth 20000 in
theorem ggX3_wanted_X3_checkConcert : GoodIn wsX3_wanted wsX3_checkConcert := goodIn_ca (goodIn_r _ [5, 6, 7, 8, 9, 4, 10] (by decide +kernel) (by decide +kernel)) (goodIn_sub (fun _ h => List.mem_cons_of_mem _ (List.mem_append_right _ h)) (by decide +kernel))
set_option maxRecDepth 20000 in
theorem gX3_wanted_X3_checkConcert : GoodIn wsX3_wanted (va_wsS RX3 34 yX3_checkConcert wsX3_checkConcert) := goodIn_app (goodIn_of _ (by decide +kernel)) ggX3_wanted_X3_checkConcert
set_option maxRecDepth 20000 in
theorem ggX3_wanted_X1_rowsThatWant : GoodIn wsX3_wanted wsX1_rowsThatWant := goodIn_r _ [15, 16, 4, 17, 18, 19, 20, 14, 21, 22, 26, 27, 28, 29, 30, 31, 32, 33, 34, 35, 36, 37] (by decide +kernel) (by decide +kernel)
set_option maxRecDepth 20000 in
theorem gX3_wanted_X1_rowsThatWant : GoodIn wsX3_wanted (wsV RX3 126 RX1 yX1_rowsThatWant wsX1_rowsThatWant) := goodIn_app (goodIn_of _ (by decide +kernel)) ggX3_wanted_X1_rowsThatWant
theorem dX3_wanted_0 : decode cX3_wanted 0 = .ok (.iload_n 1, 1) := by decide +kernel
theorem dX3_wanted_1 : decode cX3_wanted 1 = .ok (.invokestatic 34, 3) := by decide +kernel
theorem dX3_wanted_4 : decode cX3_wanted 4 = .ok (.aload_n 0, 1) := by decide +kernel
theorem dX3_wanted_5 : decode cX3_wanted 5 = .ok (.getfield 12, 3) := by decide +kernel
theorem dX3_wanted_8 : decode cX3_wanted 8 = .ok (.iload_n 1, 1) := by decide +kernel
theorem dX3_wanted_9 : decode cX3_wanted 9 = .ok (.invokevirtual 126, 3) := by decide +kernel
theorem dX3_wanted_12 : decode cX3_wanted 12 = .ok (.ireturn, 1) := by decide +kernel
set_option maxRecDepth 20000 in
theorem ggX3_pass_X3_checkMinutes : GoodIn wsX3_pass wsX3_checkMinutes := goodIn_ca (goodIn_r _ [6, 7, 8] (by decide +kernel) (by decide +kernel)) (goodIn_sub (fun _ h => List.mem_cons_of_mem _ (List.mem_append_right _ h)) (by decide +kernel))
set_option maxRecDepth 20000 in
theorem gX3_pass_X3_checkMinutes : GoodIn wsX3_pass (va_wsS RX3 129 yX3_checkMinutes wsX3_checkMinutes) := goodIn_app (goodIn_of _ (by decide +kernel)) ggX3_pass_X3_checkMinutes
set_option maxRecDepth 20000 in
theorem ggX3_pass_X2_keep : GoodIn wsX3_pass wsX2_keep := goodIn_r _ [13, 14, 15, 16, 17, 18, 19, 20, 21, 22, 23, 24, 25, 26, 27, 28, 29, 30, 31, 32, 33, 34, 35, 36, 37, 65, 66, 67, 68, 69, 70, 71, 72, 73, 74, 75, 76, 77, 78, 79] (by decide +kernel) (by decide +kernel)
set_option maxRecDepth 20000 in
theorem gX3_pass_X2_keep : GoodIn wsX3_pass (wsV RX3 52 RX2 yX2_keep wsX2_keep) := goodIn_app (goodIn_of _ (by decide +kernel)) ggX3_pass_X2_keep
set_option maxRecDepth 20000 in
theorem ggX3_pass_X1_letPass : GoodIn wsX3_pass wsX1_letPass := goodIn_r _ [41, 36, 37, 42, 43, 44, 20, 45, 27, 46, 47, 48, 49, 35, 50, 51, 52, 53, 32, 31, 54, 55, 56, 57, 28, 58, 59, 60, 61, 22, 33, 68, 69, 70, 71, 72, 73, 74, 75, 76, 77, 78, 79] (by decide +kernel) (by decide +kernel)
set_option maxRecDepth 20000 in
theorem gX3_pass_X1_letPass : GoodIn wsX3_pass (wsV RX3 132 RX1 yX1_letPass wsX1_letPass) := goodIn_app (goodIn_of _ (by decide +kernel)) ggX3_pass_X1_letPass
theorem dX3_pass_0 : decode cX3_pass 0 = .ok (.iload_n 1, 1) := by decide +kernel
theorem dX3_pass_1 : decode cX3_pass 1 = .ok (.invokestatic 129, 3) := by decide +kernel
theorem dX3_pass_4 : decode cX3_pass 4 = .ok (.aload_n 0, 1) := by decide +kernel
theorem dX3_pass_5 : decode cX3_pass 5 = .ok (.getfield 19, 3) := by decide +kernel
theorem dX3_pass_8 : decode cX3_pass 8 = .ok (.aload_n 0, 1) := by decide +kernel
theorem dX3_pass_9 : decode cX3_pass 9 = .ok (.getfield 12, 3) := by decide +kernel
theorem dX3_pass_12 : decode cX3_pass 12 = .ok (.invokevirtual 52, 3) := by decide +kernel
theorem dX3_pass_15 : decode cX3_pass 15 = .ok (.aload_n 0, 1) := by decide +kernel
theorem dX3_pass_16 : decode cX3_pass 16 = .ok (.getfield 12, 3) := by decide +kernel
theorem dX3_pass_19 : decode cX3_pass 19 = .ok (.iload_n 1, 1) := by decide +kernel
theorem dX3_pass_20 : decode cX3_pass 20 = .ok (.invokevirtual 132, 3) := by decide +kernel
theorem dX3_pass_23 : decode cX3_pass 23 = .ok (.ireturn, 1) := by decide +kernel
set_option maxRecDepth 20000 in
theorem ggX3_play_X3_checkConcert : GoodIn wsX3_play wsX3_checkConcert := goodIn_ca (goodIn_r _ [6, 7, 8, 9, 10, 5, 11] (by decide +kernel) (by decide +kernel)) (goodIn_sub (fun _ h => List.mem_cons_of_mem _ (List.mem_append_right _ h)) (by decide +kernel))
set_option maxRecDepth 20000 in
theorem gX3_play_X3_checkConcert : GoodIn wsX3_play (va_wsS RX3 34 yX3_checkConcert wsX3_checkConcert) := goodIn_app (goodIn_of _ (by decide +kernel)) ggX3_play_X3_checkConcert
set_option maxRecDepth 20000 in
theorem ggX3_play_X2_keep : GoodIn wsX3_play wsX2_keep := goodIn_r _ [16, 17, 18, 19, 20, 21, 22, 23, 24, 25, 26, 27, 28, 29, 30, 31, 32, 33, 34, 35, 36, 37, 38, 39, 40, 69, 70, 71, 72, 73, 74, 75, 76, 77, 78, 79, 80, 81, 82, 83] (by decide +kernel) (by decide +kernel)
set_option maxRecDepth 20000 in
theorem gX3_play_X2_keep : GoodIn wsX3_play (wsV RX3 52 RX2 yX2_keep wsX2_keep) := goodIn_app (goodIn_of _ (by decide +kernel)) ggX3_play_X2_keep
set_option maxRecDepth 20000 in
theorem ggX3_play_X1_perform : GoodIn wsX3_play wsX1_perform := goodIn_r _ [44, 31, 45, 46, 47, 23, 48, 32, 30, 49, 5, 50, 51, 52, 53, 54, 55, 56, 57, 58, 25, 59, 60, 61, 62, 63, 64, 65, 72, 73, 74, 75, 76, 77, 78, 79, 80, 81, 82, 83] (by decide +kernel) (by decide +kernel)
set_option maxRecDepth 20000 in
theorem gX3_play_X1_perform : GoodIn wsX3_play (wsV RX3 135 RX1 yX1_perform wsX1_perform) := goodIn_app (goodIn_of _ (by decide +kernel)) ggX3_play_X1_perform
theorem dX3_play_0 : decode cX3_play 0 = .ok (.iload_n 1, 1) := by decide +kernel
theorem dX3_play_1 : decode cX3_play 1 = .ok (.invokestatic 34, 3) := by decide +kernel
theorem dX3_play_4 : decode cX3_play 4 = .ok (.aload_n 0, 1) := by decide +kernel
theorem dX3_play_5 : decode cX3_play 5 = .ok (.getfield 19, 3) := by decide +kernel
theorem dX3_play_8 : decode cX3_play 8 = .ok (.aload_n 0, 1) := by decide +kernel
theorem dX3_play_9 : decode cX3_play 9 = .ok (.getfield 12, 3) := by decide +kernel
theorem dX3_play_12 : decode cX3_play 12 = .ok (.invokevirtual 52, 3) := by decide +kernel
theorem dX3_play_15 : decode cX3_play 15 = .ok (.aload_n 0, 1) := by decide +kernel
theorem dX3_play_16 : decode cX3_play 16 = .ok (.getfield 12, 3) := by decide +kernel
theorem dX3_play_19 : decode cX3_play 19 = .ok (.iload_n 1, 1) := by decide +kernel
theorem dX3_play_20 : decode cX3_play 20 = .ok (.invokevirtual 135, 3) := by decide +kernel
theorem dX3_play_23 : decode cX3_play 23 = .ok (.ireturn, 1) := by decide +kernel
theorem dX3_minutes_0 : decode cX3_minutes 0 = .ok (.aload_n 0, 1) := by decide +kernel
theorem dX3_minutes_1 : decode cX3_minutes 1 = .ok (.getfield 12, 3) := by decide +kernel
theorem dX3_minutes_4 : decode cX3_minutes 4 = .ok (.getfield 138, 3) := by decide +kernel
theorem dX3_minutes_7 : decode cX3_minutes 7 = .ok (.ireturn, 1) := by decide +kernel
theorem dX3_sinceQuestion_0 : decode cX3_sinceQuestion 0 = .ok (.aload_n 0, 1) := by decide +kernel
theorem dX3_sinceQuestion_1 : decode cX3_sinceQuestion 1 = .ok (.getfield 12, 3) := by decide +kernel
theorem dX3_sinceQuestion_4 : decode cX3_sinceQuestion 4 = .ok (.getfield 141, 3) := by decide +kernel
theorem dX3_sinceQuestion_7 : decode cX3_sinceQuestion 7 = .ok (.ireturn, 1) := by decide +kernel
theorem dX3_count_0 : decode cX3_count 0 = .ok (.iload_n 1, 1) := by decide +kernel
theorem dX3_count_1 : decode cX3_count 1 = .ok (.ifCond .lt 9, 3) := by decide +kernel
theorem dX3_count_4 : decode cX3_count 4 = .ok (.iload_n 1, 1) := by decide +kernel
theorem dX3_count_5 : decode cX3_count 5 = .ok (.bipush 6, 2) := by decide +kernel
theorem dX3_count_7 : decode cX3_count 7 = .ok (.if_icmp .lt 13, 3) := by decide +kernel
theorem dX3_count_10 : decode cX3_count 10 = .ok (.new 101, 3) := by decide +kernel
theorem dX3_count_13 : decode cX3_count 13 = .ok (.dup, 1) := by decide +kernel
theorem dX3_count_14 : decode cX3_count 14 = .ok (.ldc 144, 2) := by decide +kernel
theorem dX3_count_16 : decode cX3_count 16 = .ok (.invokespecial 105, 3) := by decide +kernel
theorem dX3_count_19 : decode cX3_count 19 = .ok (.athrow, 1) := by decide +kernel
theorem dX3_count_20 : decode cX3_count 20 = .ok (.aload_n 0, 1) := by decide +kernel
theorem dX3_count_21 : decode cX3_count 21 = .ok (.getfield 12, 3) := by decide +kernel
theorem dX3_count_24 : decode cX3_count 24 = .ok (.getfield 146, 3) := by decide +kernel
theorem dX3_count_27 : decode cX3_count 27 = .ok (.iload_n 1, 1) := by decide +kernel
theorem dX3_count_28 : decode cX3_count 28 = .ok (.iaload, 1) := by decide +kernel
theorem dX3_count_29 : decode cX3_count 29 = .ok (.ireturn, 1) := by decide +kernel
theorem dX3_usefulShare_0 : decode cX3_usefulShare 0 = .ok (.aload_n 0, 1) := by decide +kernel
theorem dX3_usefulShare_1 : decode cX3_usefulShare 1 = .ok (.getfield 12, 3) := by decide +kernel
theorem dX3_usefulShare_4 : decode cX3_usefulShare 4 = .ok (.getfield 146, 3) := by decide +kernel
theorem dX3_usefulShare_7 : decode cX3_usefulShare 7 = .ok (.iconst 0, 1) := by decide +kernel
theorem dX3_usefulShare_8 : decode cX3_usefulShare 8 = .ok (.iaload, 1) := by decide +kernel
theorem dX3_usefulShare_9 : decode cX3_usefulShare 9 = .ok (.istore_n 1, 1) := by decide +kernel
theorem dX3_usefulShare_10 : decode cX3_usefulShare 10 = .ok (.iload_n 1, 1) := by decide +kernel
theorem dX3_usefulShare_11 : decode cX3_usefulShare 11 = .ok (.aload_n 0, 1) := by decide +kernel
theorem dX3_usefulShare_12 : decode cX3_usefulShare 12 = .ok (.getfield 12, 3) := by decide +kernel
theorem dX3_usefulShare_15 : decode cX3_usefulShare 15 = .ok (.getfield 146, 3) := by decide +kernel
theorem dX3_usefulShare_18 : decode cX3_usefulShare 18 = .ok (.iconst 1, 1) := by decide +kernel
theorem dX3_usefulShare_19 : decode cX3_usefulShare 19 = .ok (.iaload, 1) := by decide +kernel
theorem dX3_usefulShare_20 : decode cX3_usefulShare 20 = .ok (.iadd, 1) := by decide +kernel
theorem dX3_usefulShare_21 : decode cX3_usefulShare 21 = .ok (.istore_n 2, 1) := by decide +kernel
theorem dX3_usefulShare_22 : decode cX3_usefulShare 22 = .ok (.iload_n 2, 1) := by decide +kernel
theorem dX3_usefulShare_23 : decode cX3_usefulShare 23 = .ok (.ifCond .ne 5, 3) := by decide +kernel
theorem dX3_usefulShare_26 : decode cX3_usefulShare 26 = .ok (.dconst 1, 1) := by decide +kernel
theorem dX3_usefulShare_27 : decode cX3_usefulShare 27 = .ok (.dreturn, 1) := by decide +kernel
theorem dX3_usefulShare_28 : decode cX3_usefulShare 28 = .ok (.iload_n 1, 1) := by decide +kernel
theorem dX3_usefulShare_29 : decode cX3_usefulShare 29 = .ok (.i2d, 1) := by decide +kernel
theorem dX3_usefulShare_30 : decode cX3_usefulShare 30 = .ok (.iload_n 2, 1) := by decide +kernel
theorem dX3_usefulShare_31 : decode cX3_usefulShare 31 = .ok (.i2d, 1) := by decide +kernel
theorem dX3_usefulShare_32 : decode cX3_usefulShare 32 = .ok (.ddiv, 1) := by decide +kernel
theorem dX3_usefulShare_33 : decode cX3_usefulShare 33 = .ok (.dreturn, 1) := by decide +kernel
set_option maxRecDepth 20000 in
theorem ggX3_minutesToFade_X3_checkRow : GoodIn wsX3_minutesToFade wsX3_checkRow := goodIn_ca (goodIn_r _ [5, 6, 7, 8, 9, 4, 10] (by decide +kernel) (by decide +kernel)) (goodIn_sub (fun _ h => List.mem_cons_of_mem _ (List.mem_append_right _ h)) (by decide +kernel))
set_option maxRecDepth 20000 in
theorem gX3_minutesToFade_X3_checkRow : GoodIn wsX3_minutesToFade (va_wsS RX3 30 yX3_checkRow wsX3_checkRow) := goodIn_app (goodIn_of _ (by decide +kernel)) ggX3_minutesToFade_X3_checkRow
set_option maxRecDepth 20000 in
theorem ggX3_minutesToFade_X3_checkConcert : GoodIn wsX3_minutesToFade wsX3_checkConcert := goodIn_ca (goodIn_r _ [13, 6, 7, 14, 15, 4, 16] (by decide +kernel) (by decide +kernel)) (goodIn_sub (fun _ h => List.mem_cons_of_mem _ (List.mem_append_right _ h)) (by decide +kernel))
set_option maxRecDepth 20000 in
theorem gX3_minutesToFade_X3_checkConcert : GoodIn wsX3_minutesToFade (va_wsS RX3 34 yX3_checkConcert wsX3_checkConcert) := goodIn_app (goodIn_of _ (by decide +kernel)) ggX3_minutesToFade_X3_checkConcert
set_option maxRecDepth 20000 in
theorem ggX3_minutesToFade_X3_placeOf : GoodIn wsX3_minutesToFade wsX3_placeOf := goodIn_r _ [19] (by decide +kernel) (by decide +kernel)
set_option maxRecDepth 20000 in
theorem gX3_minutesToFade_X3_placeOf : GoodIn wsX3_minutesToFade (va_wsS RX3 37 yX3_placeOf wsX3_placeOf) := goodIn_app (goodIn_of _ (by decide +kernel)) ggX3_minutesToFade_X3_placeOf
set_option maxRecDepth 20000 in
theorem ggX3_minutesToFade_X1_fadesIn : GoodIn wsX3_minutesToFade wsX1_fadesIn := goodIn_r _ [24, 25, 26, 27, 28, 29, 23, 30, 31, 32, 33, 34, 35, 36, 37, 38, 39, 40, 41, 42, 43, 44, 45, 46, 47, 48, 49, 50, 51, 55, 56, 57, 58, 59, 60, 61, 62, 63, 64, 65, 66] (by decide +kernel) (by decide +kernel)
set_option maxRecDepth 20000 in
theorem gX3_minutesToFade_X1_fadesIn : GoodIn wsX3_minutesToFade (wsV RX3 149 RX1 yX1_fadesIn wsX1_fadesIn) := goodIn_app (goodIn_of _ (by decide +kernel)) ggX3_minutesToFade_X1_fadesIn
theorem dX3_minutesToFade_0 : decode cX3_minutesToFade 0 = .ok (.iload_n 1, 1) := by decide +kernel
theorem dX3_minutesToFade_1 : decode cX3_minutesToFade 1 = .ok (.invokestatic 30, 3) := by decide +kernel
theorem dX3_minutesToFade_4 : decode cX3_minutesToFade 4 = .ok (.iload_n 2, 1) := by decide +kernel
theorem dX3_minutesToFade_5 : decode cX3_minutesToFade 5 = .ok (.invokestatic 34, 3) := by decide +kernel
theorem dX3_minutesToFade_8 : decode cX3_minutesToFade 8 = .ok (.aload_n 0, 1) := by decide +kernel
theorem dX3_minutesToFade_9 : decode cX3_minutesToFade 9 = .ok (.getfield 12, 3) := by decide +kernel
theorem dX3_minutesToFade_12 : decode cX3_minutesToFade 12 = .ok (.iload_n 1, 1) := by decide +kernel
theorem dX3_minutesToFade_13 : decode cX3_minutesToFade 13 = .ok (.iload_n 2, 1) := by decide +kernel
theorem dX3_minutesToFade_14 : decode cX3_minutesToFade 14 = .ok (.invokestatic 37, 3) := by decide +kernel
theorem dX3_minutesToFade_17 : decode cX3_minutesToFade 17 = .ok (.invokevirtual 149, 3) := by decide +kernel
theorem dX3_minutesToFade_20 : decode cX3_minutesToFade 20 = .ok (.ireturn, 1) := by decide +kernel
set_option maxRecDepth 20000 in
theorem ggX3_minutesToQuestion_X1_asksIn : GoodIn wsX3_minutesToQuestion wsX1_asksIn := goodIn_r _ [6, 7, 8, 9, 10, 11, 12, 13, 14, 5, 15, 16, 17, 18, 19, 20, 21, 22, 26, 27, 28, 29, 30, 31, 32, 33, 34, 35, 36, 37] (by decide +kernel) (by decide +kernel)
set_option maxRecDepth 20000 in
theorem gX3_minutesToQuestion_X1_asksIn : GoodIn wsX3_minutesToQuestion (wsV RX3 152 RX1 yX1_asksIn wsX1_asksIn) := goodIn_app (goodIn_of _ (by decide +kernel)) ggX3_minutesToQuestion_X1_asksIn
theorem dX3_minutesToQuestion_0 : decode cX3_minutesToQuestion 0 = .ok (.aload_n 0, 1) := by decide +kernel
theorem dX3_minutesToQuestion_1 : decode cX3_minutesToQuestion 1 = .ok (.getfield 12, 3) := by decide +kernel
theorem dX3_minutesToQuestion_4 : decode cX3_minutesToQuestion 4 = .ok (.invokevirtual 152, 3) := by decide +kernel
theorem dX3_minutesToQuestion_7 : decode cX3_minutesToQuestion 7 = .ok (.ireturn, 1) := by decide +kernel
set_option maxRecDepth 20000 in
theorem ggX3_undo_X2_takeBack : GoodIn wsX3_undo wsX2_takeBack := goodIn_r _ [10, 11, 12, 13, 14, 15, 16, 17, 18, 19, 20, 21, 22, 23, 24, 25, 26, 27, 28, 29, 30, 31, 32, 33, 34, 38, 39, 40, 41, 42, 43, 44, 45, 46, 47, 48, 49, 50, 51, 52] (by decide +kernel) (by decide +kernel)
set_option maxRecDepth 20000 in
theorem gX3_undo_X2_takeBack : GoodIn wsX3_undo (wsV RX3 186 RX2 yX2_takeBack wsX2_takeBack) := goodIn_app (goodIn_of _ (by decide +kernel)) ggX3_undo_X2_takeBack
theorem dX3_undo_0 : decode cX3_undo 0 = .ok (.aload_n 0, 1) := by decide +kernel
theorem dX3_undo_1 : decode cX3_undo 1 = .ok (.getfield 19, 3) := by decide +kernel
theorem dX3_undo_4 : decode cX3_undo 4 = .ok (.getfield 181, 3) := by decide +kernel
theorem dX3_undo_7 : decode cX3_undo 7 = .ok (.ifCond .ne 13, 3) := by decide +kernel
theorem dX3_undo_10 : decode cX3_undo 10 = .ok (.new 45, 3) := by decide +kernel
theorem dX3_undo_13 : decode cX3_undo 13 = .ok (.dup, 1) := by decide +kernel
theorem dX3_undo_14 : decode cX3_undo 14 = .ok (.ldc 184, 2) := by decide +kernel
theorem dX3_undo_16 : decode cX3_undo 16 = .ok (.invokespecial 49, 3) := by decide +kernel
theorem dX3_undo_19 : decode cX3_undo 19 = .ok (.athrow, 1) := by decide +kernel
theorem dX3_undo_20 : decode cX3_undo 20 = .ok (.aload_n 0, 1) := by decide +kernel
theorem dX3_undo_21 : decode cX3_undo 21 = .ok (.getfield 19, 3) := by decide +kernel
theorem dX3_undo_24 : decode cX3_undo 24 = .ok (.aload_n 0, 1) := by decide +kernel
theorem dX3_undo_25 : decode cX3_undo 25 = .ok (.getfield 12, 3) := by decide +kernel
theorem dX3_undo_28 : decode cX3_undo 28 = .ok (.invokevirtual 186, 3) := by decide +kernel
theorem dX3_undo_31 : decode cX3_undo 31 = .ok (.aload_n 0, 1) := by decide +kernel
theorem dX3_undo_32 : decode cX3_undo 32 = .ok (.getfield 19, 3) := by decide +kernel
theorem dX3_undo_35 : decode cX3_undo 35 = .ok (.getfield 181, 3) := by decide +kernel
theorem dX3_undo_38 : decode cX3_undo 38 = .ok (.ireturn, 1) := by decide +kernel
theorem dX3_savedStates_0 : decode cX3_savedStates 0 = .ok (.aload_n 0, 1) := by decide +kernel
theorem dX3_savedStates_1 : decode cX3_savedStates 1 = .ok (.getfield 19, 3) := by decide +kernel
theorem dX3_savedStates_4 : decode cX3_savedStates 4 = .ok (.getfield 181, 3) := by decide +kernel
theorem dX3_savedStates_7 : decode cX3_savedStates 7 = .ok (.ireturn, 1) := by decide +kernel
set_option maxRecDepth 20000 in
theorem ggX3_checkRow_X3_isRow : GoodIn wsX3_checkRow wsX3_isRow := goodIn_r _ [6] (by decide +kernel) (by decide +kernel)
set_option maxRecDepth 20000 in
theorem gX3_checkRow_X3_isRow : GoodIn wsX3_checkRow (va_wsS RX3 200 yX3_isRow wsX3_isRow) := goodIn_app (goodIn_of _ (by decide +kernel)) ggX3_checkRow_X3_isRow
theorem dX3_checkRow_0 : decode cX3_checkRow 0 = .ok (.iload_n 0, 1) := by decide +kernel
theorem dX3_checkRow_1 : decode cX3_checkRow 1 = .ok (.invokestatic 200, 3) := by decide +kernel
theorem dX3_checkRow_4 : decode cX3_checkRow 4 = .ok (.ifCond .ne 13, 3) := by decide +kernel
theorem dX3_checkRow_7 : decode cX3_checkRow 7 = .ok (.new 101, 3) := by decide +kernel
theorem dX3_checkRow_10 : decode cX3_checkRow 10 = .ok (.dup, 1) := by decide +kernel
theorem dX3_checkRow_11 : decode cX3_checkRow 11 = .ok (.ldc 203, 2) := by decide +kernel
theorem dX3_checkRow_13 : decode cX3_checkRow 13 = .ok (.invokespecial 105, 3) := by decide +kernel
theorem dX3_checkRow_16 : decode cX3_checkRow 16 = .ok (.athrow, 1) := by decide +kernel
theorem dX3_checkRow_17 : decode cX3_checkRow 17 = .ok (.return_, 1) := by decide +kernel
set_option maxRecDepth 20000 in
theorem ggX3_checkConcert_X3_isConcert : GoodIn wsX3_checkConcert wsX3_isConcert := goodIn_r _ [6] (by decide +kernel) (by decide +kernel)
set_option maxRecDepth 20000 in
theorem gX3_checkConcert_X3_isConcert : GoodIn wsX3_checkConcert (va_wsS RX3 205 yX3_isConcert wsX3_isConcert) := goodIn_app (goodIn_of _ (by decide +kernel)) ggX3_checkConcert_X3_isConcert
theorem dX3_checkConcert_0 : decode cX3_checkConcert 0 = .ok (.iload_n 0, 1) := by decide +kernel
theorem dX3_checkConcert_1 : decode cX3_checkConcert 1 = .ok (.invokestatic 205, 3) := by decide +kernel
theorem dX3_checkConcert_4 : decode cX3_checkConcert 4 = .ok (.ifCond .ne 13, 3) := by decide +kernel
theorem dX3_checkConcert_7 : decode cX3_checkConcert 7 = .ok (.new 101, 3) := by decide +kernel
theorem dX3_checkConcert_10 : decode cX3_checkConcert 10 = .ok (.dup, 1) := by decide +kernel
theorem dX3_checkConcert_11 : decode cX3_checkConcert 11 = .ok (.ldc 208, 2) := by decide +kernel
theorem dX3_checkConcert_13 : decode cX3_checkConcert 13 = .ok (.invokespecial 105, 3) := by decide +kernel
theorem dX3_checkConcert_16 : decode cX3_checkConcert 16 = .ok (.athrow, 1) := by decide +kernel
theorem dX3_checkConcert_17 : decode cX3_checkConcert 17 = .ok (.return_, 1) := by decide +kernel
theorem dX3_checkMinutes_0 : decode cX3_checkMinutes 0 = .ok (.iload_n 0, 1) := by decide +kernel
theorem dX3_checkMinutes_1 : decode cX3_checkMinutes 1 = .ok (.iconst 1, 1) := by decide +kernel
theorem dX3_checkMinutes_2 : decode cX3_checkMinutes 2 = .ok (.if_icmp .lt 9, 3) := by decide +kernel
theorem dX3_checkMinutes_5 : decode cX3_checkMinutes 5 = .ok (.iload_n 0, 1) := by decide +kernel
theorem dX3_checkMinutes_6 : decode cX3_checkMinutes 6 = .ok (.bipush 60, 2) := by decide +kernel
theorem dX3_checkMinutes_8 : decode cX3_checkMinutes 8 = .ok (.if_icmp .le 13, 3) := by decide +kernel
theorem dX3_checkMinutes_11 : decode cX3_checkMinutes 11 = .ok (.new 82, 3) := by decide +kernel
theorem dX3_checkMinutes_14 : decode cX3_checkMinutes 14 = .ok (.dup, 1) := by decide +kernel
theorem dX3_checkMinutes_15 : decode cX3_checkMinutes 15 = .ok (.ldc 210, 2) := by decide +kernel
theorem dX3_checkMinutes_17 : decode cX3_checkMinutes 17 = .ok (.invokespecial 86, 3) := by decide +kernel
theorem dX3_checkMinutes_20 : decode cX3_checkMinutes 20 = .ok (.athrow, 1) := by decide +kernel
theorem dX3_checkMinutes_21 : decode cX3_checkMinutes 21 = .ok (.return_, 1) := by decide +kernel
theorem dX3_isRow_0 : decode cX3_isRow 0 = .ok (.iload_n 0, 1) := by decide +kernel
theorem dX3_isRow_1 : decode cX3_isRow 1 = .ok (.ifCond .lt 13, 3) := by decide +kernel
theorem dX3_isRow_4 : decode cX3_isRow 4 = .ok (.iload_n 0, 1) := by decide +kernel
theorem dX3_isRow_5 : decode cX3_isRow 5 = .ok (.bipush 8, 2) := by decide +kernel
theorem dX3_isRow_7 : decode cX3_isRow 7 = .ok (.if_icmp .ge 7, 3) := by decide +kernel
theorem dX3_isRow_10 : decode cX3_isRow 10 = .ok (.iconst 1, 1) := by decide +kernel
theorem dX3_isRow_11 : decode cX3_isRow 11 = .ok (.goto 4, 3) := by decide +kernel
theorem dX3_isRow_14 : decode cX3_isRow 14 = .ok (.iconst 0, 1) := by decide +kernel
theorem dX3_isRow_15 : decode cX3_isRow 15 = .ok (.ireturn, 1) := by decide +kernel
theorem dX3_isConcert_0 : decode cX3_isConcert 0 = .ok (.iload_n 0, 1) := by decide +kernel
theorem dX3_isConcert_1 : decode cX3_isConcert 1 = .ok (.ifCond .lt 13, 3) := by decide +kernel
theorem dX3_isConcert_4 : decode cX3_isConcert 4 = .ok (.iload_n 0, 1) := by decide +kernel
theorem dX3_isConcert_5 : decode cX3_isConcert 5 = .ok (.bipush 6, 2) := by decide +kernel
theorem dX3_isConcert_7 : decode cX3_isConcert 7 = .ok (.if_icmp .ge 7, 3) := by decide +kernel
theorem dX3_isConcert_10 : decode cX3_isConcert 10 = .ok (.iconst 1, 1) := by decide +kernel
theorem dX3_isConcert_11 : decode cX3_isConcert 11 = .ok (.goto 4, 3) := by decide +kernel
theorem dX3_isConcert_14 : decode cX3_isConcert 14 = .ok (.iconst 0, 1) := by decide +kernel
theorem dX3_isConcert_15 : decode cX3_isConcert 15 = .ok (.ireturn, 1) := by decide +kernel
theorem dX3_placeOf_0 : decode cX3_placeOf 0 = .ok (.iload_n 0, 1) := by decide +kernel
theorem dX3_placeOf_1 : decode cX3_placeOf 1 = .ok (.bipush 6, 2) := by decide +kernel
theorem dX3_placeOf_3 : decode cX3_placeOf 3 = .ok (.imul, 1) := by decide +kernel
theorem dX3_placeOf_4 : decode cX3_placeOf 4 = .ok (.iload_n 1, 1) := by decide +kernel
theorem dX3_placeOf_5 : decode cX3_placeOf 5 = .ok (.iadd, 1) := by decide +kernel
theorem dX3_placeOf_6 : decode cX3_placeOf 6 = .ok (.ireturn, 1) := by decide +kernel
theorem dJ6_bitCount_0f7a4_0 : decode cJ6_bitCount_0f7a4 0 = .ok (.iload_n 0, 1) := by decide +kernel
theorem dJ6_bitCount_0f7a4_1 : decode cJ6_bitCount_0f7a4 1 = .ok (.iload_n 0, 1) := by decide +kernel
theorem dJ6_bitCount_0f7a4_2 : decode cJ6_bitCount_0f7a4 2 = .ok (.iconst 1, 1) := by decide +kernel
theorem dJ6_bitCount_0f7a4_3 : decode cJ6_bitCount_0f7a4 3 = .ok (.iushr, 1) := by decide +kernel
theorem dJ6_bitCount_0f7a4_4 : decode cJ6_bitCount_0f7a4 4 = .ok (.ldc_w 265, 3) := by decide +kernel
theorem dJ6_bitCount_0f7a4_7 : decode cJ6_bitCount_0f7a4 7 = .ok (.iand, 1) := by decide +kernel
theorem dJ6_bitCount_0f7a4_8 : decode cJ6_bitCount_0f7a4 8 = .ok (.isub, 1) := by decide +kernel
theorem dJ6_bitCount_0f7a4_9 : decode cJ6_bitCount_0f7a4 9 = .ok (.istore_n 0, 1) := by decide +kernel
theorem dJ6_bitCount_0f7a4_10 : decode cJ6_bitCount_0f7a4 10 = .ok (.iload_n 0, 1) := by decide +kernel
theorem dJ6_bitCount_0f7a4_11 : decode cJ6_bitCount_0f7a4 11 = .ok (.ldc_w 266, 3) := by decide +kernel
theorem dJ6_bitCount_0f7a4_14 : decode cJ6_bitCount_0f7a4 14 = .ok (.iand, 1) := by decide +kernel
theorem dJ6_bitCount_0f7a4_15 : decode cJ6_bitCount_0f7a4 15 = .ok (.iload_n 0, 1) := by decide +kernel
theorem dJ6_bitCount_0f7a4_16 : decode cJ6_bitCount_0f7a4 16 = .ok (.iconst 2, 1) := by decide +kernel
theorem dJ6_bitCount_0f7a4_17 : decode cJ6_bitCount_0f7a4 17 = .ok (.iushr, 1) := by decide +kernel
theorem dJ6_bitCount_0f7a4_18 : decode cJ6_bitCount_0f7a4 18 = .ok (.ldc_w 266, 3) := by decide +kernel
theorem dJ6_bitCount_0f7a4_21 : decode cJ6_bitCount_0f7a4 21 = .ok (.iand, 1) := by decide +kernel
theorem dJ6_bitCount_0f7a4_22 : decode cJ6_bitCount_0f7a4 22 = .ok (.iadd, 1) := by decide +kernel
theorem dJ6_bitCount_0f7a4_23 : decode cJ6_bitCount_0f7a4 23 = .ok (.istore_n 0, 1) := by decide +kernel
theorem dJ6_bitCount_0f7a4_24 : decode cJ6_bitCount_0f7a4 24 = .ok (.iload_n 0, 1) := by decide +kernel
theorem dJ6_bitCount_0f7a4_25 : decode cJ6_bitCount_0f7a4 25 = .ok (.iload_n 0, 1) := by decide +kernel
theorem dJ6_bitCount_0f7a4_26 : decode cJ6_bitCount_0f7a4 26 = .ok (.iconst 4, 1) := by decide +kernel
theorem dJ6_bitCount_0f7a4_27 : decode cJ6_bitCount_0f7a4 27 = .ok (.iushr, 1) := by decide +kernel
theorem dJ6_bitCount_0f7a4_28 : decode cJ6_bitCount_0f7a4 28 = .ok (.iadd, 1) := by decide +kernel
theorem dJ6_bitCount_0f7a4_29 : decode cJ6_bitCount_0f7a4 29 = .ok (.ldc_w 267, 3) := by decide +kernel
theorem dJ6_bitCount_0f7a4_32 : decode cJ6_bitCount_0f7a4 32 = .ok (.iand, 1) := by decide +kernel
theorem dJ6_bitCount_0f7a4_33 : decode cJ6_bitCount_0f7a4 33 = .ok (.istore_n 0, 1) := by decide +kernel
theorem dJ6_bitCount_0f7a4_34 : decode cJ6_bitCount_0f7a4 34 = .ok (.iload_n 0, 1) := by decide +kernel
theorem dJ6_bitCount_0f7a4_35 : decode cJ6_bitCount_0f7a4 35 = .ok (.iload_n 0, 1) := by decide +kernel
theorem dJ6_bitCount_0f7a4_36 : decode cJ6_bitCount_0f7a4 36 = .ok (.bipush 8, 2) := by decide +kernel
theorem dJ6_bitCount_0f7a4_38 : decode cJ6_bitCount_0f7a4 38 = .ok (.iushr, 1) := by decide +kernel
theorem dJ6_bitCount_0f7a4_39 : decode cJ6_bitCount_0f7a4 39 = .ok (.iadd, 1) := by decide +kernel
theorem dJ6_bitCount_0f7a4_40 : decode cJ6_bitCount_0f7a4 40 = .ok (.istore_n 0, 1) := by decide +kernel
theorem dJ6_bitCount_0f7a4_41 : decode cJ6_bitCount_0f7a4 41 = .ok (.iload_n 0, 1) := by decide +kernel
theorem dJ6_bitCount_0f7a4_42 : decode cJ6_bitCount_0f7a4 42 = .ok (.iload_n 0, 1) := by decide +kernel
theorem dJ6_bitCount_0f7a4_43 : decode cJ6_bitCount_0f7a4 43 = .ok (.bipush 16, 2) := by decide +kernel
theorem dJ6_bitCount_0f7a4_45 : decode cJ6_bitCount_0f7a4 45 = .ok (.iushr, 1) := by decide +kernel
theorem dJ6_bitCount_0f7a4_46 : decode cJ6_bitCount_0f7a4 46 = .ok (.iadd, 1) := by decide +kernel
theorem dJ6_bitCount_0f7a4_47 : decode cJ6_bitCount_0f7a4 47 = .ok (.istore_n 0, 1) := by decide +kernel
theorem dJ6_bitCount_0f7a4_48 : decode cJ6_bitCount_0f7a4 48 = .ok (.iload_n 0, 1) := by decide +kernel
theorem dJ6_bitCount_0f7a4_49 : decode cJ6_bitCount_0f7a4 49 = .ok (.bipush 63, 2) := by decide +kernel
theorem dJ6_bitCount_0f7a4_51 : decode cJ6_bitCount_0f7a4 51 = .ok (.iand, 1) := by decide +kernel
theorem dJ6_bitCount_0f7a4_52 : decode cJ6_bitCount_0f7a4 52 = .ok (.ireturn, 1) := by decide +kernel
theorem dJ9_max_7cf53_0 : decode cJ9_max_7cf53 0 = .ok (.iload_n 0, 1) := by decide +kernel
theorem dJ9_max_7cf53_1 : decode cJ9_max_7cf53 1 = .ok (.iload_n 1, 1) := by decide +kernel
theorem dJ9_max_7cf53_2 : decode cJ9_max_7cf53 2 = .ok (.if_icmp .lt 7, 3) := by decide +kernel
theorem dJ9_max_7cf53_5 : decode cJ9_max_7cf53 5 = .ok (.iload_n 0, 1) := by decide +kernel
theorem dJ9_max_7cf53_6 : decode cJ9_max_7cf53 6 = .ok (.goto 4, 3) := by decide +kernel
theorem dJ9_max_7cf53_9 : decode cJ9_max_7cf53 9 = .ok (.iload_n 1, 1) := by decide +kernel
theorem dJ9_max_7cf53_10 : decode cJ9_max_7cf53 10 = .ok (.ireturn, 1) := by decide +kernel
end
section
theorem dL_cell_0 : decode cL_cell 0 = .ok (.iload_n 1, 1) := by decide +kernel
theorem dL_cell_1 : decode cL_cell 1 = .ok (.aload_n 0, 1) := by decide +kernel
theorem dL_cell_2 : decode cL_cell 2 = .ok (.arraylength, 1) := by decide +kernel
theorem dL_cell_3 : decode cL_cell 3 = .ok (.if_icmp .ge 9, 3) := by decide +kernel
theorem dL_cell_6 : decode cL_cell 6 = .ok (.aload_n 0, 1) := by decide +kernel
theorem dL_cell_7 : decode cL_cell 7 = .ok (.iload_n 1, 1) := by decide +kernel
theorem dL_cell_8 : decode cL_cell 8 = .ok (.iaload, 1) := by decide +kernel
theorem dL_cell_9 : decode cL_cell 9 = .ok (.goto 15, 3) := by decide +kernel
theorem dL_cell_12 : decode cL_cell 12 = .ok (.sipush 7919, 3) := by decide +kernel
theorem dL_cell_15 : decode cL_cell 15 = .ok (.iload_n 1, 1) := by decide +kernel
theorem dL_cell_16 : decode cL_cell 16 = .ok (.iconst 3, 1) := by decide +kernel
theorem dL_cell_17 : decode cL_cell 17 = .ok (.iadd, 1) := by decide +kernel
theorem dL_cell_18 : decode cL_cell 18 = .ok (.imul, 1) := by decide +kernel
theorem dL_cell_19 : decode cL_cell 19 = .ok (.iload_n 1, 1) := by decide +kernel
theorem dL_cell_20 : decode cL_cell 20 = .ok (.bipush 11, 2) := by decide +kernel
theorem dL_cell_22 : decode cL_cell 22 = .ok (.iadd, 1) := by decide +kernel
theorem dL_cell_23 : decode cL_cell 23 = .ok (.imul, 1) := by decide +kernel
theorem dL_cell_24 : decode cL_cell 24 = .ok (.ireturn, 1) := by decide +kernel
theorem dL_low_0 : decode cL_low 0 = .ok (.iload_n 0, 1) := by decide +kernel
theorem dL_low_1 : decode cL_low 1 = .ok (.ldc 7, 2) := by decide +kernel
theorem dL_low_3 : decode cL_low 3 = .ok (.iand, 1) := by decide +kernel
theorem dL_low_4 : decode cL_low 4 = .ok (.iload_n 1, 1) := by decide +kernel
theorem dL_low_5 : decode cL_low 5 = .ok (.irem, 1) := by decide +kernel
theorem dL_low_6 : decode cL_low 6 = .ok (.ireturn, 1) := by decide +kernel
set_option maxRecDepth 20000 in
theorem ggL_told_X3_minutes : GoodIn wsL_told wsX3_minutes := goodIn_r _ [6, 7, 8, 66, 67, 68, 69, 70, 71, 72, 73, 74, 75, 76, 77, 78, 79, 80] (by decide +kernel) (by decide +kernel)
set_option maxRecDepth 20000 in
theorem gL_told_X3_minutes : GoodIn wsL_told (wsV RL 10 RX3 yX3_minutes wsX3_minutes) := goodIn_app (goodIn_of _ (by decide +kernel)) ggL_told_X3_minutes
set_option maxRecDepth 20000 in
theorem ggL_told_X3_sinceQuestion : GoodIn wsL_told wsX3_sinceQuestion := goodIn_r _ [12, 7, 13, 66, 67, 68, 69, 70, 71, 72, 73, 74, 75, 76, 77, 78, 79, 80] (by decide +kernel) (by decide +kernel)
set_option maxRecDepth 20000 in
theorem gL_told_X3_sinceQuestion : GoodIn wsL_told (wsV RL 16 RX3 yX3_sinceQuestion wsX3_sinceQuestion) := goodIn_app (goodIn_of _ (by decide +kernel)) ggL_told_X3_sinceQuestion
set_option maxRecDepth 20000 in
theorem ggL_told_X3_chief : GoodIn wsL_told wsX3_chief := goodIn_r _ [17, 7, 18, 19, 20, 21, 22, 23, 24, 66, 67, 68, 69, 70, 71, 72, 73, 74, 75, 76, 77, 78, 79, 80] (by decide +kernel) (by decide +kernel)
set_option maxRecDepth 20000 in
theorem gL_told_X3_chief : GoodIn wsL_told (wsV RL 19 RX3 yX3_chief wsX3_chief) := goodIn_app (goodIn_of _ (by decide +kernel)) ggL_told_X3_chief
set_option maxRecDepth 20000 in
theorem ggL_told_X3_listeners : GoodIn wsL_told wsX3_listeners := goodIn_ca (goodIn_r _ [28, 7, 29, 30, 31, 5, 32, 33, 34, 35, 36, 37, 38, 39, 40, 41, 42, 43, 44, 45, 46, 66, 67, 68, 69, 70, 71, 72, 73, 74, 75, 76, 77, 78, 79, 80] (by decide +kernel) (by decide +kernel)) (goodIn_sub (fun _ h => List.mem_cons_of_mem _ (List.mem_append_right _ h)) (by decide +kernel))
set_option maxRecDepth 20000 in
theorem gL_told_X3_listeners : GoodIn wsL_told (wsV RL 22 RX3 yX3_listeners wsX3_listeners) := goodIn_app (goodIn_of _ (by decide +kernel)) ggL_told_X3_listeners
set_option maxRecDepth 20000 in
theorem ggL_told_X3_rest : GoodIn wsL_told wsX3_rest := goodIn_ca (goodIn_r _ [50, 7, 51, 30, 31, 5, 32, 33, 34, 35, 36, 37, 38, 39, 40, 41, 42, 43, 44, 45, 46, 66, 67, 68, 69, 70, 71, 72, 73, 74, 75, 76, 77, 78, 79, 80] (by decide +kernel) (by decide +kernel)) (goodIn_sub (fun _ h => List.mem_cons_of_mem _ (List.mem_append_right _ h)) (by decide +kernel))
set_option maxRecDepth 20000 in
theorem gL_told_X3_rest : GoodIn wsL_told (wsV RL 26 RX3 yX3_rest wsX3_rest) := goodIn_app (goodIn_of _ (by decide +kernel)) ggL_told_X3_rest
set_option maxRecDepth 20000 in
theorem ggL_told_X3_isOpen : GoodIn wsL_told wsX3_isOpen := goodIn_ca (goodIn_r _ [55, 7, 30, 31, 5, 32, 33, 34, 35, 36, 37, 56, 57, 58, 21, 59, 60, 66, 67, 68, 69, 70, 71, 72, 73, 74, 75, 76, 77, 78, 79, 80] (by decide +kernel) (by decide +kernel)) (goodIn_sub (fun _ h => List.mem_cons_of_mem _ (List.mem_append_right _ h)) (by decide +kernel))
set_option maxRecDepth 20000 in
theorem gL_told_X3_isOpen : GoodIn wsL_told (wsV RL 29 RX3 yX3_isOpen wsX3_isOpen) := goodIn_app (goodIn_of _ (by decide +kernel)) ggL_told_X3_isOpen
set_option maxRecDepth 20000 in
theorem ggL_told_X3_count : GoodIn wsL_told wsX3_count := goodIn_ca (goodIn_r _ [64, 33, 34, 7, 65, 66, 67, 68, 69, 70, 71, 72, 73, 74, 75, 76, 77, 78, 79, 80] (by decide +kernel) (by decide +kernel)) (goodIn_sub (fun _ h => List.mem_cons_of_mem _ (List.mem_append_right _ h)) (by decide +kernel))
set_option maxRecDepth 20000 in
theorem gL_told_X3_count : GoodIn wsL_told (wsV RL 33 RX3 yX3_count wsX3_count) := goodIn_app (goodIn_of _ (by decide +kernel)) ggL_told_X3_count
theorem dL_told_0 : decode cL_told 0 = .ok (.ldc2_w 8, 3) := by decide +kernel
theorem dL_told_3 : decode cL_told 3 = .ok (.ldc2_w 8, 3) := by decide +kernel
theorem dL_told_6 : decode cL_told 6 = .ok (.aload_n 0, 1) := by decide +kernel
theorem dL_told_7 : decode cL_told 7 = .ok (.invokevirtual 10, 3) := by decide +kernel
theorem dL_told_10 : decode cL_told 10 = .ok (.i2l, 1) := by decide +kernel
theorem dL_told_11 : decode cL_told 11 = .ok (.lmul, 1) := by decide +kernel
theorem dL_told_12 : decode cL_told 12 = .ok (.aload_n 0, 1) := by decide +kernel
theorem dL_told_13 : decode cL_told 13 = .ok (.invokevirtual 16, 3) := by decide +kernel
theorem dL_told_16 : decode cL_told 16 = .ok (.i2l, 1) := by decide +kernel
theorem dL_told_17 : decode cL_told 17 = .ok (.ladd, 1) := by decide +kernel
theorem dL_told_18 : decode cL_told 18 = .ok (.lmul, 1) := by decide +kernel
theorem dL_told_19 : decode cL_told 19 = .ok (.aload_n 0, 1) := by decide +kernel
theorem dL_told_20 : decode cL_told 20 = .ok (.invokevirtual 19, 3) := by decide +kernel
theorem dL_told_23 : decode cL_told 23 = .ok (.i2l, 1) := by decide +kernel
theorem dL_told_24 : decode cL_told 24 = .ok (.ladd, 1) := by decide +kernel
theorem dL_told_25 : decode cL_told 25 = .ok (.lstore_n 1, 1) := by decide +kernel
theorem dL_told_26 : decode cL_told 26 = .ok (.iconst 0, 1) := by decide +kernel
theorem dL_told_27 : decode cL_told 27 = .ok (.istore_n 3, 1) := by decide +kernel
theorem dL_told_28 : decode cL_told 28 = .ok (.iload_n 3, 1) := by decide +kernel
theorem dL_told_29 : decode cL_told 29 = .ok (.bipush 48, 2) := by decide +kernel
theorem dL_told_31 : decode cL_told 31 = .ok (.if_icmp .ge 47, 3) := by decide +kernel
theorem dL_told_34 : decode cL_told 34 = .ok (.ldc2_w 8, 3) := by decide +kernel
theorem dL_told_37 : decode cL_told 37 = .ok (.ldc2_w 8, 3) := by decide +kernel
theorem dL_told_40 : decode cL_told 40 = .ok (.lload_n 1, 1) := by decide +kernel
theorem dL_told_41 : decode cL_told 41 = .ok (.lmul, 1) := by decide +kernel
theorem dL_told_42 : decode cL_told 42 = .ok (.aload_n 0, 1) := by decide +kernel
theorem dL_told_43 : decode cL_told 43 = .ok (.iload_n 3, 1) := by decide +kernel
theorem dL_told_44 : decode cL_told 44 = .ok (.bipush 6, 2) := by decide +kernel
theorem dL_told_46 : decode cL_told 46 = .ok (.idiv, 1) := by decide +kernel
theorem dL_told_47 : decode cL_told 47 = .ok (.iload_n 3, 1) := by decide +kernel
theorem dL_told_48 : decode cL_told 48 = .ok (.bipush 6, 2) := by decide +kernel
theorem dL_told_50 : decode cL_told 50 = .ok (.irem, 1) := by decide +kernel
theorem dL_told_51 : decode cL_told 51 = .ok (.invokevirtual 22, 3) := by decide +kernel
theorem dL_told_54 : decode cL_told 54 = .ok (.i2l, 1) := by decide +kernel
theorem dL_told_55 : decode cL_told 55 = .ok (.ladd, 1) := by decide +kernel
theorem dL_told_56 : decode cL_told 56 = .ok (.lmul, 1) := by decide +kernel
theorem dL_told_57 : decode cL_told 57 = .ok (.aload_n 0, 1) := by decide +kernel
theorem dL_told_58 : decode cL_told 58 = .ok (.iload_n 3, 1) := by decide +kernel
theorem dL_told_59 : decode cL_told 59 = .ok (.bipush 6, 2) := by decide +kernel
theorem dL_told_61 : decode cL_told 61 = .ok (.idiv, 1) := by decide +kernel
theorem dL_told_62 : decode cL_told 62 = .ok (.iload_n 3, 1) := by decide +kernel
theorem dL_told_63 : decode cL_told 63 = .ok (.bipush 6, 2) := by decide +kernel
theorem dL_told_65 : decode cL_told 65 = .ok (.irem, 1) := by decide +kernel
theorem dL_told_66 : decode cL_told 66 = .ok (.invokevirtual 26, 3) := by decide +kernel
theorem dL_told_69 : decode cL_told 69 = .ok (.i2l, 1) := by decide +kernel
theorem dL_told_70 : decode cL_told 70 = .ok (.ladd, 1) := by decide +kernel
theorem dL_told_71 : decode cL_told 71 = .ok (.lstore_n 1, 1) := by decide +kernel
theorem dL_told_72 : decode cL_told 72 = .ok (.iinc 3 1, 3) := by decide +kernel
theorem dL_told_75 : decode cL_told 75 = .ok (.goto (-47), 3) := by decide +kernel
theorem dL_told_78 : decode cL_told 78 = .ok (.iconst 0, 1) := by decide +kernel
theorem dL_told_79 : decode cL_told 79 = .ok (.istore_n 3, 1) := by decide +kernel
theorem dL_told_80 : decode cL_told 80 = .ok (.iload_n 3, 1) := by decide +kernel
theorem dL_told_81 : decode cL_told 81 = .ok (.bipush 8, 2) := by decide +kernel
theorem dL_told_83 : decode cL_told 83 = .ok (.if_icmp .ge 51, 3) := by decide +kernel
theorem dL_told_86 : decode cL_told 86 = .ok (.ldc2_w 8, 3) := by decide +kernel
theorem dL_told_89 : decode cL_told 89 = .ok (.ldc2_w 8, 3) := by decide +kernel
theorem dL_told_92 : decode cL_told 92 = .ok (.lload_n 1, 1) := by decide +kernel
theorem dL_told_93 : decode cL_told 93 = .ok (.lmul, 1) := by decide +kernel
theorem dL_told_94 : decode cL_told 94 = .ok (.aload_n 0, 1) := by decide +kernel
theorem dL_told_95 : decode cL_told 95 = .ok (.iload_n 3, 1) := by decide +kernel
theorem dL_told_96 : decode cL_told 96 = .ok (.invokevirtual 29, 3) := by decide +kernel
theorem dL_told_99 : decode cL_told 99 = .ok (.ifCond .eq 7, 3) := by decide +kernel
theorem dL_told_102 : decode cL_told 102 = .ok (.iconst 1, 1) := by decide +kernel
theorem dL_told_103 : decode cL_told 103 = .ok (.goto 4, 3) := by decide +kernel
theorem dL_told_106 : decode cL_told 106 = .ok (.iconst 0, 1) := by decide +kernel
theorem dL_told_107 : decode cL_told 107 = .ok (.i2l, 1) := by decide +kernel
theorem dL_told_108 : decode cL_told 108 = .ok (.ladd, 1) := by decide +kernel
theorem dL_told_109 : decode cL_told 109 = .ok (.lmul, 1) := by decide +kernel
theorem dL_told_110 : decode cL_told 110 = .ok (.iload_n 3, 1) := by decide +kernel
theorem dL_told_111 : decode cL_told 111 = .ok (.bipush 6, 2) := by decide +kernel
theorem dL_told_113 : decode cL_told 113 = .ok (.if_icmp .ge 11, 3) := by decide +kernel
theorem dL_told_116 : decode cL_told 116 = .ok (.aload_n 0, 1) := by decide +kernel
theorem dL_told_117 : decode cL_told 117 = .ok (.iload_n 3, 1) := by decide +kernel
theorem dL_told_118 : decode cL_told 118 = .ok (.invokevirtual 33, 3) := by decide +kernel
theorem dL_told_121 : decode cL_told 121 = .ok (.goto 4, 3) := by decide +kernel
theorem dL_told_124 : decode cL_told 124 = .ok (.iconst 0, 1) := by decide +kernel
theorem dL_told_125 : decode cL_told 125 = .ok (.i2l, 1) := by decide +kernel
theorem dL_told_126 : decode cL_told 126 = .ok (.ladd, 1) := by decide +kernel
theorem dL_told_127 : decode cL_told 127 = .ok (.lstore_n 1, 1) := by decide +kernel
theorem dL_told_128 : decode cL_told 128 = .ok (.iinc 3 1, 3) := by decide +kernel
theorem dL_told_131 : decode cL_told 131 = .ok (.goto (-51), 3) := by decide +kernel
theorem dL_told_134 : decode cL_told 134 = .ok (.lload_n 1, 1) := by decide +kernel
theorem dL_told_135 : decode cL_told 135 = .ok (.lreturn, 1) := by decide +kernel
theorem dL_bits_0 : decode cL_bits 0 = .ok (.iconst 0, 1) := by decide +kernel
theorem dL_bits_1 : decode cL_bits 1 = .ok (.istore_n 1, 1) := by decide +kernel
theorem dL_bits_2 : decode cL_bits 2 = .ok (.iload_n 0, 1) := by decide +kernel
theorem dL_bits_3 : decode cL_bits 3 = .ok (.istore_n 2, 1) := by decide +kernel
theorem dL_bits_4 : decode cL_bits 4 = .ok (.iload_n 2, 1) := by decide +kernel
theorem dL_bits_5 : decode cL_bits 5 = .ok (.ifCond .le 15, 3) := by decide +kernel
theorem dL_bits_8 : decode cL_bits 8 = .ok (.iinc 1 1, 3) := by decide +kernel
theorem dL_bits_11 : decode cL_bits 11 = .ok (.iload_n 2, 1) := by decide +kernel
theorem dL_bits_12 : decode cL_bits 12 = .ok (.iload_n 2, 1) := by decide +kernel
theorem dL_bits_13 : decode cL_bits 13 = .ok (.iconst 1, 1) := by decide +kernel
theorem dL_bits_14 : decode cL_bits 14 = .ok (.isub, 1) := by decide +kernel
theorem dL_bits_15 : decode cL_bits 15 = .ok (.iand, 1) := by decide +kernel
theorem dL_bits_16 : decode cL_bits 16 = .ok (.istore_n 2, 1) := by decide +kernel
theorem dL_bits_17 : decode cL_bits 17 = .ok (.goto (-13), 3) := by decide +kernel
theorem dL_bits_20 : decode cL_bits 20 = .ok (.iload_n 1, 1) := by decide +kernel
theorem dL_bits_21 : decode cL_bits 21 = .ok (.ireturn, 1) := by decide +kernel
set_option maxRecDepth 20000 in
theorem ggL_act_L_low : GoodIn wsL_act wsL_low := goodIn_r _ [4, 5] (by decide +kernel) (by decide +kernel)
set_option maxRecDepth 20000 in
theorem gL_act_L_low : GoodIn wsL_act (va_wsS RL 37 yL_low wsL_low) := goodIn_app (goodIn_of _ (by decide +kernel)) ggL_act_L_low
set_option maxRecDepth 20000 in
theorem ggL_act_X3_listeners : GoodIn wsL_act wsX3_listeners := goodIn_ca (goodIn_r _ [10, 11, 12, 13, 14, 9, 15, 16, 17, 18, 19, 20, 21, 22, 23, 24, 25, 26, 27, 28, 29, 178, 179, 180, 181, 182, 183, 184, 185, 186, 187, 188, 189, 190, 191, 192] (by decide +kernel) (by decide +kernel)) (goodIn_sub (fun _ h => List.mem_cons_of_mem _ (List.mem_append_left _ (List.mem_append_left _ (List.mem_append_right _ h)))) (by decide +kernel))
set_option maxRecDepth 20000 in
theorem gL_act_X3_listeners : GoodIn wsL_act (wsV RL 22 RX3 yX3_listeners wsX3_listeners) := goodIn_app (goodIn_of _ (by decide +kernel)) ggL_act_X3_listeners
set_option maxRecDepth 20000 in
theorem ggL_act_X3_come : GoodIn wsL_act wsX3_come := goodIn_ca (goodIn_ca (goodIn_r _ [33, 34, 35, 11, 36, 12, 13, 14, 9, 15, 16, 17, 18, 19, 20, 21, 22, 23, 24, 25, 26, 27, 28, 29, 37, 38, 39, 40, 41, 42, 43, 44, 45, 46, 47, 48, 49, 50, 51, 52, 53, 54, 55, 56, 57, 58, 59, 60, 61, 62, 63, 64, 65, 66, 67, 68, 69, 70, 71, 72, 73, 74, 75, 76, 77, 178, 179, 180, 181, 182, 183, 184, 185, 186, 187, 188, 189, 190, 191, 192, 193, 194, 195] (by decide +kernel) (by decide +kernel)) (goodIn_sub (fun _ h => List.mem_cons_of_mem _ (List.mem_append_left _ (List.mem_append_right _ h))) (by decide +kernel))) (goodIn_sub (fun _ h => List.mem_cons_of_mem _ (List.mem_append_left _ (List.mem_append_left _ (List.mem_append_right _ h)))) (by decide +kernel))
set_option maxRecDepth 20000 in
theorem gL_act_X3_come : GoodIn wsL_act (wsV RL 42 RX3 yX3_come wsX3_come) := goodIn_app (goodIn_of _ (by decide +kernel)) ggL_act_X3_come
set_option maxRecDepth 20000 in
theorem ggL_act_X3_leave : GoodIn wsL_act wsX3_leave := goodIn_ca (goodIn_ca (goodIn_r _ [81, 34, 35, 11, 36, 12, 13, 14, 9, 15, 16, 17, 18, 19, 20, 21, 22, 23, 24, 25, 26, 27, 28, 29, 82, 83, 84, 40, 85, 42, 43, 44, 45, 46, 47, 48, 49, 50, 51, 52, 53, 54, 55, 56, 57, 58, 59, 60, 61, 62, 63, 64, 65, 66, 67, 68, 69, 86, 87, 88, 89, 90, 91, 92, 93, 94, 74, 75, 76, 77, 178, 179, 180, 181, 182, 183, 184, 185, 186, 187, 188, 189, 190, 191, 192, 193, 194, 195] (by decide +kernel) (by decide +kernel)) (goodIn_sub (fun _ h => List.mem_cons_of_mem _ (List.mem_append_left _ (List.mem_append_right _ h))) (by decide +kernel))) (goodIn_sub (fun _ h => List.mem_cons_of_mem _ (List.mem_append_left _ (List.mem_append_left _ (List.mem_append_right _ h)))) (by decide +kernel))
set_option maxRecDepth 20000 in
theorem gL_act_X3_leave : GoodIn wsL_act (wsV RL 45 RX3 yX3_leave wsX3_leave) := goodIn_app (goodIn_of _ (by decide +kernel)) ggL_act_X3_leave
set_option maxRecDepth 20000 in
theorem ggL_act_X3_setOpen : GoodIn wsL_act wsX3_setOpen := goodIn_ca (goodIn_r _ [98, 36, 11, 13, 14, 9, 15, 16, 17, 18, 19, 20, 43, 44, 45, 46, 47, 48, 49, 50, 51, 52, 53, 40, 54, 42, 55, 56, 57, 58, 59, 60, 61, 62, 63, 64, 65, 66, 67, 68, 69, 99, 100, 101, 102, 103, 104, 105, 106, 178, 179, 180, 193, 194, 195, 181, 182, 183, 184, 185, 186, 187, 188, 189, 190, 191, 192] (by decide +kernel) (by decide +kernel)) (goodIn_sub (fun _ h => List.mem_cons_of_mem _ (List.mem_append_left _ (List.mem_append_left _ (List.mem_append_right _ h)))) (by decide +kernel))
set_option maxRecDepth 20000 in
theorem gL_act_X3_setOpen : GoodIn wsL_act (wsV RL 49 RX3 yX3_setOpen wsX3_setOpen) := goodIn_app (goodIn_of _ (by decide +kernel)) ggL_act_X3_setOpen
set_option maxRecDepth 20000 in
theorem ggL_act_X3_setQuick : GoodIn wsL_act wsX3_setQuick := goodIn_r _ [110, 36, 11, 111, 43, 44, 45, 46, 47, 48, 49, 50, 51, 52, 53, 40, 54, 42, 55, 56, 57, 58, 59, 60, 61, 62, 63, 64, 65, 66, 67, 68, 69, 178, 179, 180, 181, 182, 183, 184, 185, 186, 187, 188, 189, 190, 191, 192, 193, 194, 195] (by decide +kernel) (by decide +kernel)
set_option maxRecDepth 20000 in
theorem gL_act_X3_setQuick : GoodIn wsL_act (wsV RL 53 RX3 yX3_setQuick wsX3_setQuick) := goodIn_app (goodIn_of _ (by decide +kernel)) ggL_act_X3_setQuick
set_option maxRecDepth 20000 in
theorem ggL_act_X3_setTimes : GoodIn wsL_act wsX3_setTimes := goodIn_ca (goodIn_r _ [115, 116, 117, 36, 11, 118, 119, 120, 43, 44, 45, 46, 47, 48, 49, 50, 51, 52, 53, 40, 54, 42, 55, 56, 57, 58, 59, 60, 61, 62, 63, 64, 65, 66, 67, 68, 69, 178, 179, 180, 181, 182, 183, 184, 185, 186, 187, 188, 189, 190, 191, 192, 193, 194, 195] (by decide +kernel) (by decide +kernel)) (goodIn_sub (fun _ h => List.mem_cons_of_mem _ (List.mem_append_right _ h)) (by decide +kernel))
set_option maxRecDepth 20000 in
theorem gL_act_X3_setTimes : GoodIn wsL_act (wsV RL 57 RX3 yX3_setTimes wsX3_setTimes) := goodIn_app (goodIn_of _ (by decide +kernel)) ggL_act_X3_setTimes
set_option maxRecDepth 20000 in
theorem ggL_act_X3_setPresent : GoodIn wsL_act wsX3_setPresent := goodIn_ca (goodIn_r _ [124, 16, 17, 36, 11, 125, 126, 43, 44, 45, 46, 47, 48, 49, 50, 51, 52, 53, 40, 54, 42, 55, 56, 57, 58, 59, 60, 61, 62, 63, 64, 65, 66, 67, 68, 69, 127, 128, 129, 130, 178, 179, 180, 181, 182, 183, 184, 185, 186, 187, 188, 189, 190, 191, 192, 193, 194, 195] (by decide +kernel) (by decide +kernel)) (goodIn_sub (fun _ h => List.mem_cons_of_mem _ (List.mem_append_left _ (List.mem_append_left _ (List.mem_append_right _ h)))) (by decide +kernel))
set_option maxRecDepth 20000 in
theorem gL_act_X3_setPresent : GoodIn wsL_act (wsV RL 61 RX3 yX3_setPresent wsX3_setPresent) := goodIn_app (goodIn_of _ (by decide +kernel)) ggL_act_X3_setPresent
set_option maxRecDepth 20000 in
theorem ggL_act_X3_play : GoodIn wsL_act wsX3_play := goodIn_ca (goodIn_r _ [134, 36, 11, 21, 22, 9, 23, 16, 17, 24, 25, 26, 43, 44, 45, 46, 47, 48, 49, 50, 51, 52, 53, 40, 54, 42, 55, 56, 57, 58, 59, 60, 61, 62, 63, 64, 65, 66, 67, 68, 69, 135, 136, 137, 138, 139, 140, 141, 142, 28, 29, 143, 144, 145, 146, 94, 83, 84, 85, 147, 148, 149, 150, 151, 152, 153, 178, 179, 180, 193, 194, 195, 181, 182, 183, 184, 185, 186, 187, 188, 189, 190, 191, 192] (by decide +kernel) (by decide +kernel)) (goodIn_sub (fun _ h => List.mem_cons_of_mem _ (List.mem_append_left _ (List.mem_append_left _ (List.mem_append_right _ h)))) (by decide +kernel))
set_option maxRecDepth 20000 in
theorem gL_act_X3_play : GoodIn wsL_act (wsV RL 65 RX3 yX3_play wsX3_play) := goodIn_app (goodIn_of _ (by decide +kernel)) ggL_act_X3_play
set_option maxRecDepth 20000 in
theorem ggL_act_X3_pass : GoodIn wsL_act wsX3_pass := goodIn_ca (goodIn_r _ [157, 36, 11, 158, 159, 9, 160, 116, 117, 43, 44, 45, 46, 47, 48, 49, 50, 51, 52, 53, 40, 54, 42, 55, 56, 57, 58, 59, 60, 61, 62, 63, 64, 65, 66, 67, 68, 69, 161, 162, 163, 164, 165, 166, 167, 168, 169, 170, 171, 172, 173, 128, 129, 130, 174, 175, 176, 177, 74, 75, 76, 77, 178, 179, 180, 193, 194, 195, 181, 182, 183, 184, 185, 186, 187, 188, 189, 190, 191, 192] (by decide +kernel) (by decide +kernel)) (goodIn_sub (fun _ h => List.mem_cons_of_mem _ (List.mem_append_right _ h)) (by decide +kernel))
set_option maxRecDepth 20000 in
theorem gL_act_X3_pass : GoodIn wsL_act (wsV RL 68 RX3 yX3_pass wsX3_pass) := goodIn_app (goodIn_of _ (by decide +kernel)) ggL_act_X3_pass
theorem dL_act_0 : decode cL_act 0 = .ok (.iload_n 1, 1) := by decide +kernel
theorem dL_act_1 : decode cL_act 1 = .ok (.iconst 4, 1) := by decide +kernel
theorem dL_act_2 : decode cL_act 2 = .ok (.ishr, 1) := by decide +kernel
theorem dL_act_3 : decode cL_act 3 = .ok (.iload_n 1, 1) := by decide +kernel
theorem dL_act_4 : decode cL_act 4 = .ok (.bipush 19, 2) := by decide +kernel
theorem dL_act_6 : decode cL_act 6 = .ok (.ishr, 1) := by decide +kernel
theorem dL_act_7 : decode cL_act 7 = .ok (.iconst 1, 1) := by decide +kernel
theorem dL_act_8 : decode cL_act 8 = .ok (.iand, 1) := by decide +kernel
theorem dL_act_9 : decode cL_act 9 = .ok (.ifCond .ne 7, 3) := by decide +kernel
theorem dL_act_12 : decode cL_act 12 = .ok (.iconst 3, 1) := by decide +kernel
theorem dL_act_13 : decode cL_act 13 = .ok (.goto 5, 3) := by decide +kernel
theorem dL_act_16 : decode cL_act 16 = .ok (.bipush 8, 2) := by decide +kernel
theorem dL_act_18 : decode cL_act 18 = .ok (.invokestatic 37, 3) := by decide +kernel
theorem dL_act_21 : decode cL_act 21 = .ok (.istore_n 3, 1) := by decide +kernel
theorem dL_act_22 : decode cL_act 22 = .ok (.iload_n 2, 1) := by decide +kernel
theorem dL_act_23 : decode cL_act 23 = .ok (.iload_n 1, 1) := by decide +kernel
theorem dL_act_24 : decode cL_act 24 = .ok (.bipush 20, 2) := by decide +kernel
theorem dL_act_26 : decode cL_act 26 = .ok (.ishr, 1) := by decide +kernel
theorem dL_act_27 : decode cL_act 27 = .ok (.iconst 1, 1) := by decide +kernel
theorem dL_act_28 : decode cL_act 28 = .ok (.iand, 1) := by decide +kernel
theorem dL_act_29 : decode cL_act 29 = .ok (.ifCond .ne 7, 3) := by decide +kernel
theorem dL_act_32 : decode cL_act 32 = .ok (.iconst 2, 1) := by decide +kernel
theorem dL_act_33 : decode cL_act 33 = .ok (.goto 5, 3) := by decide +kernel
theorem dL_act_36 : decode cL_act 36 = .ok (.bipush 6, 2) := by decide +kernel
theorem dL_act_38 : decode cL_act 38 = .ok (.invokestatic 37, 3) := by decide +kernel
theorem dL_act_41 : decode cL_act 41 = .ok (.istore 4, 2) := by decide +kernel
theorem dL_act_43 : decode cL_act 43 = .ok (.aload_n 0, 1) := by decide +kernel
theorem dL_act_44 : decode cL_act 44 = .ok (.iload_n 3, 1) := by decide +kernel
theorem dL_act_45 : decode cL_act 45 = .ok (.iload 4, 2) := by decide +kernel
theorem dL_act_47 : decode cL_act 47 = .ok (.invokevirtual 22, 3) := by decide +kernel
theorem dL_act_50 : decode cL_act 50 = .ok (.istore 5, 2) := by decide +kernel
theorem dL_act_52 : decode cL_act 52 = .ok (.iload_n 1, 1) := by decide +kernel
theorem dL_act_53 : decode cL_act 53 = .ok (.bipush 15, 2) := by decide +kernel
theorem dL_act_55 : decode cL_act 55 = .ok (.iand, 1) := by decide +kernel
theorem dL_act_56 : decode cL_act 56 = .ok (.tableswitch 241 0 13 #[72, 72, 72, 72, 92, 92, 92, 92, 123, 151, 176, 210, 234, 234], 72) := by decide +kernel
theorem dL_act_128 : decode cL_act 128 = .ok (.iload 5, 2) := by decide +kernel
theorem dL_act_130 : decode cL_act 130 = .ok (.bipush 9, 2) := by decide +kernel
theorem dL_act_132 : decode cL_act 132 = .ok (.if_icmp .ne 8, 3) := by decide +kernel
theorem dL_act_135 : decode cL_act 135 = .ok (.bipush (-9), 2) := by decide +kernel
theorem dL_act_137 : decode cL_act 137 = .ok (.goto 10, 3) := by decide +kernel
theorem dL_act_140 : decode cL_act 140 = .ok (.aload_n 0, 1) := by decide +kernel
theorem dL_act_141 : decode cL_act 141 = .ok (.iload_n 3, 1) := by decide +kernel
theorem dL_act_142 : decode cL_act 142 = .ok (.iload 4, 2) := by decide +kernel
theorem dL_act_144 : decode cL_act 144 = .ok (.invokevirtual 42, 3) := by decide +kernel
theorem dL_act_147 : decode cL_act 147 = .ok (.ireturn, 1) := by decide +kernel
theorem dL_act_148 : decode cL_act 148 = .ok (.iload 5, 2) := by decide +kernel
theorem dL_act_150 : decode cL_act 150 = .ok (.ifCond .ne 8, 3) := by decide +kernel
theorem dL_act_153 : decode cL_act 153 = .ok (.bipush (-9), 2) := by decide +kernel
theorem dL_act_155 : decode cL_act 155 = .ok (.goto 23, 3) := by decide +kernel
theorem dL_act_158 : decode cL_act 158 = .ok (.aload_n 0, 1) := by decide +kernel
theorem dL_act_159 : decode cL_act 159 = .ok (.iload_n 3, 1) := by decide +kernel
theorem dL_act_160 : decode cL_act 160 = .ok (.iload 4, 2) := by decide +kernel
theorem dL_act_162 : decode cL_act 162 = .ok (.iload_n 2, 1) := by decide +kernel
theorem dL_act_163 : decode cL_act 163 = .ok (.iconst 4, 1) := by decide +kernel
theorem dL_act_164 : decode cL_act 164 = .ok (.ishr, 1) := by decide +kernel
theorem dL_act_165 : decode cL_act 165 = .ok (.iconst 3, 1) := by decide +kernel
theorem dL_act_166 : decode cL_act 166 = .ok (.iand, 1) := by decide +kernel
theorem dL_act_167 : decode cL_act 167 = .ok (.ifCond .le 7, 3) := by decide +kernel
theorem dL_act_170 : decode cL_act 170 = .ok (.iconst 1, 1) := by decide +kernel
theorem dL_act_171 : decode cL_act 171 = .ok (.goto 4, 3) := by decide +kernel
theorem dL_act_174 : decode cL_act 174 = .ok (.iconst 0, 1) := by decide +kernel
theorem dL_act_175 : decode cL_act 175 = .ok (.invokevirtual 45, 3) := by decide +kernel
theorem dL_act_178 : decode cL_act 178 = .ok (.ireturn, 1) := by decide +kernel
theorem dL_act_179 : decode cL_act 179 = .ok (.aload_n 0, 1) := by decide +kernel
theorem dL_act_180 : decode cL_act 180 = .ok (.iload_n 3, 1) := by decide +kernel
theorem dL_act_181 : decode cL_act 181 = .ok (.iload_n 2, 1) := by decide +kernel
theorem dL_act_182 : decode cL_act 182 = .ok (.iconst 5, 1) := by decide +kernel
theorem dL_act_183 : decode cL_act 183 = .ok (.ishr, 1) := by decide +kernel
theorem dL_act_184 : decode cL_act 184 = .ok (.iconst 1, 1) := by decide +kernel
theorem dL_act_185 : decode cL_act 185 = .ok (.iand, 1) := by decide +kernel
theorem dL_act_186 : decode cL_act 186 = .ok (.iconst 1, 1) := by decide +kernel
theorem dL_act_187 : decode cL_act 187 = .ok (.if_icmp .ne 7, 3) := by decide +kernel
theorem dL_act_190 : decode cL_act 190 = .ok (.iconst 1, 1) := by decide +kernel
theorem dL_act_191 : decode cL_act 191 = .ok (.goto 4, 3) := by decide +kernel
theorem dL_act_194 : decode cL_act 194 = .ok (.iconst 0, 1) := by decide +kernel
theorem dL_act_195 : decode cL_act 195 = .ok (.invokevirtual 49, 3) := by decide +kernel
theorem dL_act_198 : decode cL_act 198 = .ok (.ifCond .eq 7, 3) := by decide +kernel
theorem dL_act_201 : decode cL_act 201 = .ok (.iconst 1, 1) := by decide +kernel
theorem dL_act_202 : decode cL_act 202 = .ok (.goto 4, 3) := by decide +kernel
theorem dL_act_205 : decode cL_act 205 = .ok (.iconst 0, 1) := by decide +kernel
theorem dL_act_206 : decode cL_act 206 = .ok (.ireturn, 1) := by decide +kernel
theorem dL_act_207 : decode cL_act 207 = .ok (.aload_n 0, 1) := by decide +kernel
theorem dL_act_208 : decode cL_act 208 = .ok (.iload_n 2, 1) := by decide +kernel
theorem dL_act_209 : decode cL_act 209 = .ok (.iconst 1, 1) := by decide +kernel
theorem dL_act_210 : decode cL_act 210 = .ok (.iand, 1) := by decide +kernel
theorem dL_act_211 : decode cL_act 211 = .ok (.iconst 1, 1) := by decide +kernel
theorem dL_act_212 : decode cL_act 212 = .ok (.if_icmp .ne 7, 3) := by decide +kernel
theorem dL_act_215 : decode cL_act 215 = .ok (.iconst 1, 1) := by decide +kernel
theorem dL_act_216 : decode cL_act 216 = .ok (.goto 4, 3) := by decide +kernel
theorem dL_act_219 : decode cL_act 219 = .ok (.iconst 0, 1) := by decide +kernel
theorem dL_act_220 : decode cL_act 220 = .ok (.invokevirtual 53, 3) := by decide +kernel
theorem dL_act_223 : decode cL_act 223 = .ok (.ifCond .eq 7, 3) := by decide +kernel
theorem dL_act_226 : decode cL_act 226 = .ok (.iconst 1, 1) := by decide +kernel
theorem dL_act_227 : decode cL_act 227 = .ok (.goto 4, 3) := by decide +kernel
theorem dL_act_230 : decode cL_act 230 = .ok (.iconst 0, 1) := by decide +kernel
theorem dL_act_231 : decode cL_act 231 = .ok (.ireturn, 1) := by decide +kernel
theorem dL_act_232 : decode cL_act 232 = .ok (.aload_n 0, 1) := by decide +kernel
theorem dL_act_233 : decode cL_act 233 = .ok (.iconst 2, 1) := by decide +kernel
theorem dL_act_234 : decode cL_act 234 = .ok (.iload_n 2, 1) := by decide +kernel
theorem dL_act_235 : decode cL_act 235 = .ok (.bipush 59, 2) := by decide +kernel
theorem dL_act_237 : decode cL_act 237 = .ok (.invokestatic 37, 3) := by decide +kernel
theorem dL_act_240 : decode cL_act 240 = .ok (.iadd, 1) := by decide +kernel
theorem dL_act_241 : decode cL_act 241 = .ok (.iconst 1, 1) := by decide +kernel
theorem dL_act_242 : decode cL_act 242 = .ok (.iload_n 2, 1) := by decide +kernel
theorem dL_act_243 : decode cL_act 243 = .ok (.iconst 3, 1) := by decide +kernel
theorem dL_act_244 : decode cL_act 244 = .ok (.ishr, 1) := by decide +kernel
theorem dL_act_245 : decode cL_act 245 = .ok (.bipush 10, 2) := by decide +kernel
theorem dL_act_247 : decode cL_act 247 = .ok (.invokestatic 37, 3) := by decide +kernel
theorem dL_act_250 : decode cL_act 250 = .ok (.iadd, 1) := by decide +kernel
theorem dL_act_251 : decode cL_act 251 = .ok (.iconst 1, 1) := by decide +kernel
theorem dL_act_252 : decode cL_act 252 = .ok (.iload_n 2, 1) := by decide +kernel
theorem dL_act_253 : decode cL_act 253 = .ok (.bipush 6, 2) := by decide +kernel
theorem dL_act_255 : decode cL_act 255 = .ok (.ishr, 1) := by decide +kernel
theorem dL_act_256 : decode cL_act 256 = .ok (.bipush 30, 2) := by decide +kernel
theorem dL_act_258 : decode cL_act 258 = .ok (.invokestatic 37, 3) := by decide +kernel
theorem dL_act_261 : decode cL_act 261 = .ok (.iadd, 1) := by decide +kernel
theorem dL_act_262 : decode cL_act 262 = .ok (.invokevirtual 57, 3) := by decide +kernel
theorem dL_act_265 : decode cL_act 265 = .ok (.ireturn, 1) := by decide +kernel
theorem dL_act_266 : decode cL_act 266 = .ok (.aload_n 0, 1) := by decide +kernel
theorem dL_act_267 : decode cL_act 267 = .ok (.iconst 1, 1) := by decide +kernel
theorem dL_act_268 : decode cL_act 268 = .ok (.iload_n 2, 1) := by decide +kernel
theorem dL_act_269 : decode cL_act 269 = .ok (.iconst 1, 1) := by decide +kernel
theorem dL_act_270 : decode cL_act 270 = .ok (.iand, 1) := by decide +kernel
theorem dL_act_271 : decode cL_act 271 = .ok (.iadd, 1) := by decide +kernel
theorem dL_act_272 : decode cL_act 272 = .ok (.iload_n 2, 1) := by decide +kernel
theorem dL_act_273 : decode cL_act 273 = .ok (.iconst 1, 1) := by decide +kernel
theorem dL_act_274 : decode cL_act 274 = .ok (.ishr, 1) := by decide +kernel
theorem dL_act_275 : decode cL_act 275 = .ok (.iconst 1, 1) := by decide +kernel
theorem dL_act_276 : decode cL_act 276 = .ok (.iand, 1) := by decide +kernel
theorem dL_act_277 : decode cL_act 277 = .ok (.iconst 1, 1) := by decide +kernel
theorem dL_act_278 : decode cL_act 278 = .ok (.if_icmp .ne 7, 3) := by decide +kernel
theorem dL_act_281 : decode cL_act 281 = .ok (.iconst 1, 1) := by decide +kernel
theorem dL_act_282 : decode cL_act 282 = .ok (.goto 4, 3) := by decide +kernel
theorem dL_act_285 : decode cL_act 285 = .ok (.iconst 0, 1) := by decide +kernel
theorem dL_act_286 : decode cL_act 286 = .ok (.invokevirtual 61, 3) := by decide +kernel
theorem dL_act_289 : decode cL_act 289 = .ok (.ireturn, 1) := by decide +kernel
theorem dL_act_290 : decode cL_act 290 = .ok (.aload_n 0, 1) := by decide +kernel
theorem dL_act_291 : decode cL_act 291 = .ok (.iload 4, 2) := by decide +kernel
theorem dL_act_293 : decode cL_act 293 = .ok (.invokevirtual 65, 3) := by decide +kernel
theorem dL_act_296 : decode cL_act 296 = .ok (.ireturn, 1) := by decide +kernel
theorem dL_act_297 : decode cL_act 297 = .ok (.aload_n 0, 1) := by decide +kernel
theorem dL_act_298 : decode cL_act 298 = .ok (.iconst 1, 1) := by decide +kernel
theorem dL_act_299 : decode cL_act 299 = .ok (.iload_n 2, 1) := by decide +kernel
theorem dL_act_300 : decode cL_act 300 = .ok (.iload_n 2, 1) := by decide +kernel
theorem dL_act_301 : decode cL_act 301 = .ok (.bipush 20, 2) := by decide +kernel
theorem dL_act_303 : decode cL_act 303 = .ok (.ishr, 1) := by decide +kernel
theorem dL_act_304 : decode cL_act 304 = .ok (.iconst 1, 1) := by decide +kernel
theorem dL_act_305 : decode cL_act 305 = .ok (.iand, 1) := by decide +kernel
theorem dL_act_306 : decode cL_act 306 = .ok (.ifCond .ne 8, 3) := by decide +kernel
theorem dL_act_309 : decode cL_act 309 = .ok (.bipush 6, 2) := by decide +kernel
theorem dL_act_311 : decode cL_act 311 = .ok (.goto 5, 3) := by decide +kernel
theorem dL_act_314 : decode cL_act 314 = .ok (.bipush 60, 2) := by decide +kernel
theorem dL_act_316 : decode cL_act 316 = .ok (.invokestatic 37, 3) := by decide +kernel
theorem dL_act_319 : decode cL_act 319 = .ok (.iadd, 1) := by decide +kernel
theorem dL_act_320 : decode cL_act 320 = .ok (.invokevirtual 68, 3) := by decide +kernel
theorem dL_act_323 : decode cL_act 323 = .ok (.ireturn, 1) := by decide +kernel
set_option maxRecDepth 20000 in
theorem ggL_isPlayed_X3_rows : GoodIn wsL_isPlayed wsX3_rows := goodIn_ca (goodIn_r _ [5, 6, 7, 8, 4, 9, 10, 11, 12, 13, 14, 15, 16, 17, 18, 19, 20, 21, 22, 23, 147, 148, 149, 150, 151, 152, 153, 154, 155, 156, 157, 158, 159, 160, 161] (by decide +kernel) (by decide +kernel)) (goodIn_sub (fun _ h => List.mem_cons_of_mem _ (List.mem_append_left _ (List.mem_append_right _ h))) (by decide +kernel))
set_option maxRecDepth 20000 in
theorem gL_isPlayed_X3_rows : GoodIn wsL_isPlayed (wsV RL 71 RX3 yX3_rows wsX3_rows) := goodIn_app (goodIn_of _ (by decide +kernel)) ggL_isPlayed_X3_rows
set_option maxRecDepth 20000 in
theorem ggL_isPlayed_X3_wanted : GoodIn wsL_isPlayed wsX3_wanted := goodIn_ca (goodIn_r _ [27, 6, 7, 8, 4, 9, 10, 11, 12, 13, 14, 28, 29, 30, 18, 31, 22, 23, 32, 33, 34, 35, 36, 147, 148, 149, 150, 151, 152, 153, 154, 155, 156, 157, 158, 159, 160, 161] (by decide +kernel) (by decide +kernel)) (goodIn_sub (fun _ h => List.mem_cons_of_mem _ (List.mem_append_left _ (List.mem_append_right _ h))) (by decide +kernel))
set_option maxRecDepth 20000 in
theorem gL_isPlayed_X3_wanted : GoodIn wsL_isPlayed (wsV RL 74 RX3 yX3_wanted wsX3_wanted) := goodIn_app (goodIn_of _ (by decide +kernel)) ggL_isPlayed_X3_wanted
set_option maxRecDepth 20000 in
theorem ggL_isPlayed_X3_count : GoodIn wsL_isPlayed wsX3_count := goodIn_ca (goodIn_r _ [40, 10, 11, 6, 41, 147, 148, 149, 150, 151, 152, 153, 154, 155, 156, 157, 158, 159, 160, 161] (by decide +kernel) (by decide +kernel)) (goodIn_sub (fun _ h => List.mem_cons_of_mem _ (List.mem_append_left _ (List.mem_append_right _ h))) (by decide +kernel))
set_option maxRecDepth 20000 in
theorem gL_isPlayed_X3_count : GoodIn wsL_isPlayed (wsV RL 33 RX3 yX3_count wsX3_count) := goodIn_app (goodIn_of _ (by decide +kernel)) ggL_isPlayed_X3_count
set_option maxRecDepth 20000 in
theorem ggL_isPlayed_L_told : GoodIn wsL_isPlayed wsL_told := goodIn_ca (goodIn_r _ [45, 46, 47, 48, 49, 4, 50, 6, 51, 52, 53, 54, 55, 56, 57, 58, 59, 60, 61, 62, 63, 18, 64, 65, 66, 67, 68, 69, 70, 71, 72, 73, 74, 10, 11, 75, 76, 77, 7, 8, 9, 12, 13, 14, 78, 22, 23, 79, 80, 81, 82, 83, 84, 85, 86, 87, 88, 89, 90, 91, 20, 37, 38, 39, 40, 41, 147, 148, 149, 150, 151, 152, 153, 154, 155, 156, 157, 158, 159, 160, 161] (by decide +kernel) (by decide +kernel)) (goodIn_sub (fun _ h => List.mem_cons_of_mem _ (List.mem_append_left _ (List.mem_append_right _ h))) (by decide +kernel))
set_option maxRecDepth 20000 in
theorem gL_isPlayed_L_told : GoodIn wsL_isPlayed (va_wsS RL 77 yL_told wsL_told) := goodIn_app (goodIn_of _ (by decide +kernel)) ggL_isPlayed_L_told
set_option maxRecDepth 20000 in
theorem ggL_isPlayed_X3_play : GoodIn wsL_isPlayed wsX3_play := goodIn_ca (goodIn_r _ [95, 96, 6, 7, 8, 4, 9, 10, 11, 12, 13, 14, 97, 98, 99, 100, 101, 102, 103, 104, 105, 106, 107, 18, 108, 36, 109, 110, 111, 112, 21, 113, 20, 114, 66, 65, 115, 116, 117, 118, 119, 120, 121, 122, 123, 124, 16, 17, 19, 22, 23, 125, 29, 30, 31, 32, 33, 34, 35, 126, 127, 128, 129, 130, 131, 132, 147, 148, 149, 162, 163, 164, 150, 151, 152, 153, 154, 155, 156, 157, 158, 159, 160, 161] (by decide +kernel) (by decide +kernel)) (goodIn_sub (fun _ h => List.mem_cons_of_mem _ (List.mem_append_left _ (List.mem_append_right _ h))) (by decide +kernel))
set_option maxRecDepth 20000 in
theorem gL_isPlayed_X3_play : GoodIn wsL_isPlayed (wsV RL 65 RX3 yX3_play wsX3_play) := goodIn_app (goodIn_of _ (by decide +kernel)) ggL_isPlayed_X3_play
set_option maxRecDepth 20000 in
theorem ggL_isPlayed_L_bits : GoodIn wsL_isPlayed wsL_bits := goodIn_r _ [135] (by decide +kernel) (by decide +kernel)
set_option maxRecDepth 20000 in
theorem gL_isPlayed_L_bits : GoodIn wsL_isPlayed (va_wsS RL 81 yL_bits wsL_bits) := goodIn_app (goodIn_of _ (by decide +kernel)) ggL_isPlayed_L_bits
set_option maxRecDepth 20000 in
theorem ggL_isPlayed_X3_undo : GoodIn wsL_isPlayed wsX3_undo := goodIn_ca (goodIn_r _ [139, 140, 141, 96, 142, 6, 143, 144, 145, 100, 146, 102, 104, 103, 105, 106, 107, 18, 108, 36, 109, 110, 111, 112, 21, 113, 20, 114, 66, 65, 115, 116, 117, 118, 119, 147, 148, 149, 162, 163, 164, 150, 151, 152, 153, 154, 155, 156, 157, 158, 159, 160, 161] (by decide +kernel) (by decide +kernel)) (goodIn_sub (fun _ h => List.mem_cons_of_mem _ (List.mem_append_right _ h)) (by decide +kernel))
set_option maxRecDepth 20000 in
theorem gL_isPlayed_X3_undo : GoodIn wsL_isPlayed (wsV RL 84 RX3 yX3_undo wsX3_undo) := goodIn_app (goodIn_of _ (by decide +kernel)) ggL_isPlayed_X3_undo
theorem dL_isPlayed_0 : decode cL_isPlayed 0 = .ok (.aload_n 0, 1) := by decide +kernel
theorem dL_isPlayed_1 : decode cL_isPlayed 1 = .ok (.iload_n 1, 1) := by decide +kernel
theorem dL_isPlayed_2 : decode cL_isPlayed 2 = .ok (.invokevirtual 71, 3) := by decide +kernel
theorem dL_isPlayed_5 : decode cL_isPlayed 5 = .ok (.istore_n 2, 1) := by decide +kernel
theorem dL_isPlayed_6 : decode cL_isPlayed 6 = .ok (.aload_n 0, 1) := by decide +kernel
theorem dL_isPlayed_7 : decode cL_isPlayed 7 = .ok (.iload_n 1, 1) := by decide +kernel
theorem dL_isPlayed_8 : decode cL_isPlayed 8 = .ok (.invokevirtual 74, 3) := by decide +kernel
theorem dL_isPlayed_11 : decode cL_isPlayed 11 = .ok (.istore_n 3, 1) := by decide +kernel
theorem dL_isPlayed_12 : decode cL_isPlayed 12 = .ok (.aload_n 0, 1) := by decide +kernel
theorem dL_isPlayed_13 : decode cL_isPlayed 13 = .ok (.iconst 0, 1) := by decide +kernel
theorem dL_isPlayed_14 : decode cL_isPlayed 14 = .ok (.invokevirtual 33, 3) := by decide +kernel
theorem dL_isPlayed_17 : decode cL_isPlayed 17 = .ok (.istore 4, 2) := by decide +kernel
theorem dL_isPlayed_19 : decode cL_isPlayed 19 = .ok (.aload_n 0, 1) := by decide +kernel
theorem dL_isPlayed_20 : decode cL_isPlayed 20 = .ok (.iconst 1, 1) := by decide +kernel
theorem dL_isPlayed_21 : decode cL_isPlayed 21 = .ok (.invokevirtual 33, 3) := by decide +kernel
theorem dL_isPlayed_24 : decode cL_isPlayed 24 = .ok (.istore 5, 2) := by decide +kernel
theorem dL_isPlayed_26 : decode cL_isPlayed 26 = .ok (.aload_n 0, 1) := by decide +kernel
theorem dL_isPlayed_27 : decode cL_isPlayed 27 = .ok (.iconst 2, 1) := by decide +kernel
theorem dL_isPlayed_28 : decode cL_isPlayed 28 = .ok (.invokevirtual 33, 3) := by decide +kernel
theorem dL_isPlayed_31 : decode cL_isPlayed 31 = .ok (.istore 6, 2) := by decide +kernel
theorem dL_isPlayed_33 : decode cL_isPlayed 33 = .ok (.aload_n 0, 1) := by decide +kernel
theorem dL_isPlayed_34 : decode cL_isPlayed 34 = .ok (.invokestatic 77, 3) := by decide +kernel
theorem dL_isPlayed_37 : decode cL_isPlayed 37 = .ok (.lstore 7, 2) := by decide +kernel
theorem dL_isPlayed_39 : decode cL_isPlayed 39 = .ok (.aload_n 0, 1) := by decide +kernel
theorem dL_isPlayed_40 : decode cL_isPlayed 40 = .ok (.iload_n 1, 1) := by decide +kernel
theorem dL_isPlayed_41 : decode cL_isPlayed 41 = .ok (.invokevirtual 65, 3) := by decide +kernel
theorem dL_isPlayed_44 : decode cL_isPlayed 44 = .ok (.iload_n 2, 1) := by decide +kernel
theorem dL_isPlayed_45 : decode cL_isPlayed 45 = .ok (.invokestatic 81, 3) := by decide +kernel
theorem dL_isPlayed_48 : decode cL_isPlayed 48 = .ok (.if_icmp .ne 62, 3) := by decide +kernel
theorem dL_isPlayed_51 : decode cL_isPlayed 51 = .ok (.aload_n 0, 1) := by decide +kernel
theorem dL_isPlayed_52 : decode cL_isPlayed 52 = .ok (.iconst 0, 1) := by decide +kernel
theorem dL_isPlayed_53 : decode cL_isPlayed 53 = .ok (.invokevirtual 33, 3) := by decide +kernel
theorem dL_isPlayed_56 : decode cL_isPlayed 56 = .ok (.iload 4, 2) := by decide +kernel
theorem dL_isPlayed_58 : decode cL_isPlayed 58 = .ok (.iload_n 2, 1) := by decide +kernel
theorem dL_isPlayed_59 : decode cL_isPlayed 59 = .ok (.iload_n 3, 1) := by decide +kernel
theorem dL_isPlayed_60 : decode cL_isPlayed 60 = .ok (.iand, 1) := by decide +kernel
theorem dL_isPlayed_61 : decode cL_isPlayed 61 = .ok (.invokestatic 81, 3) := by decide +kernel
theorem dL_isPlayed_64 : decode cL_isPlayed 64 = .ok (.iadd, 1) := by decide +kernel
theorem dL_isPlayed_65 : decode cL_isPlayed 65 = .ok (.if_icmp .ne 45, 3) := by decide +kernel
theorem dL_isPlayed_68 : decode cL_isPlayed 68 = .ok (.aload_n 0, 1) := by decide +kernel
theorem dL_isPlayed_69 : decode cL_isPlayed 69 = .ok (.iconst 1, 1) := by decide +kernel
theorem dL_isPlayed_70 : decode cL_isPlayed 70 = .ok (.invokevirtual 33, 3) := by decide +kernel
theorem dL_isPlayed_73 : decode cL_isPlayed 73 = .ok (.iload 5, 2) := by decide +kernel
theorem dL_isPlayed_75 : decode cL_isPlayed 75 = .ok (.iload_n 2, 1) := by decide +kernel
theorem dL_isPlayed_76 : decode cL_isPlayed 76 = .ok (.iload_n 3, 1) := by decide +kernel
theorem dL_isPlayed_77 : decode cL_isPlayed 77 = .ok (.iconst (-1), 1) := by decide +kernel
theorem dL_isPlayed_78 : decode cL_isPlayed 78 = .ok (.ixor, 1) := by decide +kernel
theorem dL_isPlayed_79 : decode cL_isPlayed 79 = .ok (.iand, 1) := by decide +kernel
theorem dL_isPlayed_80 : decode cL_isPlayed 80 = .ok (.invokestatic 81, 3) := by decide +kernel
theorem dL_isPlayed_83 : decode cL_isPlayed 83 = .ok (.iadd, 1) := by decide +kernel
theorem dL_isPlayed_84 : decode cL_isPlayed 84 = .ok (.if_icmp .ne 26, 3) := by decide +kernel
theorem dL_isPlayed_87 : decode cL_isPlayed 87 = .ok (.aload_n 0, 1) := by decide +kernel
theorem dL_isPlayed_88 : decode cL_isPlayed 88 = .ok (.iconst 2, 1) := by decide +kernel
theorem dL_isPlayed_89 : decode cL_isPlayed 89 = .ok (.invokevirtual 33, 3) := by decide +kernel
theorem dL_isPlayed_92 : decode cL_isPlayed 92 = .ok (.iload 6, 2) := by decide +kernel
theorem dL_isPlayed_94 : decode cL_isPlayed 94 = .ok (.iload_n 3, 1) := by decide +kernel
theorem dL_isPlayed_95 : decode cL_isPlayed 95 = .ok (.iload_n 2, 1) := by decide +kernel
theorem dL_isPlayed_96 : decode cL_isPlayed 96 = .ok (.iconst (-1), 1) := by decide +kernel
theorem dL_isPlayed_97 : decode cL_isPlayed 97 = .ok (.ixor, 1) := by decide +kernel
theorem dL_isPlayed_98 : decode cL_isPlayed 98 = .ok (.iand, 1) := by decide +kernel
theorem dL_isPlayed_99 : decode cL_isPlayed 99 = .ok (.invokestatic 81, 3) := by decide +kernel
theorem dL_isPlayed_102 : decode cL_isPlayed 102 = .ok (.iadd, 1) := by decide +kernel
theorem dL_isPlayed_103 : decode cL_isPlayed 103 = .ok (.if_icmp .ne 7, 3) := by decide +kernel
theorem dL_isPlayed_106 : decode cL_isPlayed 106 = .ok (.iconst 1, 1) := by decide +kernel
theorem dL_isPlayed_107 : decode cL_isPlayed 107 = .ok (.goto 4, 3) := by decide +kernel
theorem dL_isPlayed_110 : decode cL_isPlayed 110 = .ok (.iconst 0, 1) := by decide +kernel
theorem dL_isPlayed_111 : decode cL_isPlayed 111 = .ok (.istore 9, 2) := by decide +kernel
theorem dL_isPlayed_113 : decode cL_isPlayed 113 = .ok (.aload_n 0, 1) := by decide +kernel
theorem dL_isPlayed_114 : decode cL_isPlayed 114 = .ok (.invokevirtual 84, 3) := by decide +kernel
theorem dL_isPlayed_117 : decode cL_isPlayed 117 = .ok (.pop, 1) := by decide +kernel
theorem dL_isPlayed_118 : decode cL_isPlayed 118 = .ok (.iload 9, 2) := by decide +kernel
theorem dL_isPlayed_120 : decode cL_isPlayed 120 = .ok (.ifCond .eq 17, 3) := by decide +kernel
theorem dL_isPlayed_123 : decode cL_isPlayed 123 = .ok (.aload_n 0, 1) := by decide +kernel
theorem dL_isPlayed_124 : decode cL_isPlayed 124 = .ok (.invokestatic 77, 3) := by decide +kernel
theorem dL_isPlayed_127 : decode cL_isPlayed 127 = .ok (.lload 7, 2) := by decide +kernel
theorem dL_isPlayed_129 : decode cL_isPlayed 129 = .ok (.lcmp, 1) := by decide +kernel
theorem dL_isPlayed_130 : decode cL_isPlayed 130 = .ok (.ifCond .ne 7, 3) := by decide +kernel
theorem dL_isPlayed_133 : decode cL_isPlayed 133 = .ok (.iconst 1, 1) := by decide +kernel
theorem dL_isPlayed_134 : decode cL_isPlayed 134 = .ok (.goto 4, 3) := by decide +kernel
theorem dL_isPlayed_137 : decode cL_isPlayed 137 = .ok (.iconst 0, 1) := by decide +kernel
theorem dL_isPlayed_138 : decode cL_isPlayed 138 = .ok (.ireturn, 1) := by decide +kernel
set_option maxRecDepth 20000 in
theorem ggL_holds_X3_rest : GoodIn wsL_holds wsX3_rest := goodIn_ca (goodIn_r _ [5, 6, 7, 8, 9, 4, 10, 11, 12, 13, 14, 15, 16, 17, 18, 19, 20, 21, 22, 23, 24, 114, 115, 116, 117, 118, 119, 120, 121, 122, 123, 124, 125, 126, 127, 128] (by decide +kernel) (by decide +kernel)) (goodIn_sub (fun _ h => List.mem_cons_of_mem _ (List.mem_append_right _ h)) (by decide +kernel))
set_option maxRecDepth 20000 in
theorem gL_holds_X3_rest : GoodIn wsL_holds (wsV RL 26 RX3 yX3_rest wsX3_rest) := goodIn_app (goodIn_of _ (by decide +kernel)) ggL_holds_X3_rest
set_option maxRecDepth 20000 in
theorem ggL_holds_X3_listeners : GoodIn wsL_holds wsX3_listeners := goodIn_ca (goodIn_r _ [28, 6, 29, 8, 9, 4, 10, 11, 12, 13, 14, 15, 16, 17, 18, 19, 20, 21, 22, 23, 24, 114, 115, 116, 117, 118, 119, 120, 121, 122, 123, 124, 125, 126, 127, 128] (by decide +kernel) (by decide +kernel)) (goodIn_sub (fun _ h => List.mem_cons_of_mem _ (List.mem_append_right _ h)) (by decide +kernel))
set_option maxRecDepth 20000 in
theorem gL_holds_X3_listeners : GoodIn wsL_holds (wsV RL 22 RX3 yX3_listeners wsX3_listeners) := goodIn_app (goodIn_of _ (by decide +kernel)) ggL_holds_X3_listeners
set_option maxRecDepth 20000 in
theorem ggL_holds_X3_rows : GoodIn wsL_holds wsX3_rows := goodIn_ca (goodIn_r _ [33, 6, 16, 17, 4, 18, 11, 12, 19, 20, 21, 34, 35, 36, 37, 38, 39, 40, 23, 24, 114, 115, 116, 117, 118, 119, 120, 121, 122, 123, 124, 125, 126, 127, 128] (by decide +kernel) (by decide +kernel)) (goodIn_sub (fun _ h => List.mem_cons_of_mem _ (List.mem_append_right _ h)) (by decide +kernel))
set_option maxRecDepth 20000 in
theorem gL_holds_X3_rows : GoodIn wsL_holds (wsV RL 71 RX3 yX3_rows wsX3_rows) := goodIn_app (goodIn_of _ (by decide +kernel)) ggL_holds_X3_rows
set_option maxRecDepth 20000 in
theorem ggL_holds_X3_wanted : GoodIn wsL_holds wsX3_wanted := goodIn_ca (goodIn_r _ [44, 6, 16, 17, 4, 18, 11, 12, 19, 20, 21, 45, 46, 47, 37, 48, 23, 24, 49, 50, 51, 52, 53, 114, 115, 116, 117, 118, 119, 120, 121, 122, 123, 124, 125, 126, 127, 128] (by decide +kernel) (by decide +kernel)) (goodIn_sub (fun _ h => List.mem_cons_of_mem _ (List.mem_append_right _ h)) (by decide +kernel))
set_option maxRecDepth 20000 in
theorem gL_holds_X3_wanted : GoodIn wsL_holds (wsV RL 74 RX3 yX3_wanted wsX3_wanted) := goodIn_app (goodIn_of _ (by decide +kernel)) ggL_holds_X3_wanted
set_option maxRecDepth 20000 in
theorem ggL_holds_X3_isOpen : GoodIn wsL_holds wsX3_isOpen := goodIn_ca (goodIn_r _ [57, 6, 8, 9, 4, 10, 11, 12, 13, 14, 15, 58, 59, 60, 37, 61, 39, 114, 115, 116, 117, 118, 119, 120, 121, 122, 123, 124, 125, 126, 127, 128] (by decide +kernel) (by decide +kernel)) (goodIn_sub (fun _ h => List.mem_cons_of_mem _ (List.mem_append_right _ h)) (by decide +kernel))
set_option maxRecDepth 20000 in
theorem gL_holds_X3_isOpen : GoodIn wsL_holds (wsV RL 29 RX3 yX3_isOpen wsX3_isOpen) := goodIn_app (goodIn_of _ (by decide +kernel)) ggL_holds_X3_isOpen
set_option maxRecDepth 20000 in
theorem ggL_holds_X3_minutesToFade : GoodIn wsL_holds wsX3_minutesToFade := goodIn_ca (goodIn_r _ [65, 6, 8, 9, 4, 10, 11, 12, 13, 14, 15, 16, 17, 18, 19, 20, 21, 22, 23, 24, 66, 67, 68, 37, 69, 40, 70, 71, 72, 73, 74, 75, 76, 77, 78, 79, 80, 81, 82, 83, 84, 85, 86, 87, 88, 89, 90, 49, 50, 51, 52, 53, 114, 115, 116, 117, 118, 119, 120, 121, 122, 123, 124, 125, 126, 127, 128] (by decide +kernel) (by decide +kernel)) (goodIn_sub (fun _ h => List.mem_cons_of_mem _ (List.mem_append_right _ h)) (by decide +kernel))
set_option maxRecDepth 20000 in
theorem gL_holds_X3_minutesToFade : GoodIn wsL_holds (wsV RL 87 RX3 yX3_minutesToFade wsX3_minutesToFade) := goodIn_app (goodIn_of _ (by decide +kernel)) ggL_holds_X3_minutesToFade
set_option maxRecDepth 20000 in
theorem ggL_holds_X3_entries : GoodIn wsL_holds wsX3_entries := goodIn_r _ [94, 6, 95, 96, 97, 37, 98, 40, 114, 115, 116, 117, 118, 119, 120, 121, 122, 123, 124, 125, 126, 127, 128] (by decide +kernel) (by decide +kernel)
set_option maxRecDepth 20000 in
theorem gL_holds_X3_entries : GoodIn wsL_holds (wsV RL 90 RX3 yX3_entries wsX3_entries) := goodIn_app (goodIn_of _ (by decide +kernel)) ggL_holds_X3_entries
set_option maxRecDepth 20000 in
theorem ggL_holds_X3_chief : GoodIn wsL_holds wsX3_chief := goodIn_r _ [102, 6, 103, 86, 87, 37, 88, 89, 90, 114, 115, 116, 117, 118, 119, 120, 121, 122, 123, 124, 125, 126, 127, 128] (by decide +kernel) (by decide +kernel)
set_option maxRecDepth 20000 in
theorem gL_holds_X3_chief : GoodIn wsL_holds (wsV RL 19 RX3 yX3_chief wsX3_chief) := goodIn_app (goodIn_of _ (by decide +kernel)) ggL_holds_X3_chief
set_option maxRecDepth 20000 in
theorem ggL_holds_X3_minutesToQuestion : GoodIn wsL_holds wsX3_minutesToQuestion := goodIn_r _ [107, 6, 108, 72, 73, 37, 74, 75, 76, 77, 78, 79, 80, 81, 82, 83, 84, 85, 86, 87, 88, 89, 90, 114, 115, 116, 117, 118, 119, 120, 121, 122, 123, 124, 125, 126, 127, 128] (by decide +kernel) (by decide +kernel)
set_option maxRecDepth 20000 in
theorem gL_holds_X3_minutesToQuestion : GoodIn wsL_holds (wsV RL 93 RX3 yX3_minutesToQuestion wsX3_minutesToQuestion) := goodIn_app (goodIn_of _ (by decide +kernel)) ggL_holds_X3_minutesToQuestion
set_option maxRecDepth 20000 in
theorem ggL_holds_X3_usefulShare : GoodIn wsL_holds wsX3_usefulShare := goodIn_r _ [112, 6, 113, 114, 115, 116, 117, 118, 119, 120, 121, 122, 123, 124, 125, 126, 127, 128] (by decide +kernel) (by decide +kernel)
set_option maxRecDepth 20000 in
theorem gL_holds_X3_usefulShare : GoodIn wsL_holds (wsV RL 96 RX3 yX3_usefulShare wsX3_usefulShare) := goodIn_app (goodIn_of _ (by decide +kernel)) ggL_holds_X3_usefulShare
theorem dL_holds_0 : decode cL_holds 0 = .ok (.iconst 0, 1) := by decide +kernel
theorem dL_holds_1 : decode cL_holds 1 = .ok (.istore_n 1, 1) := by decide +kernel
theorem dL_holds_2 : decode cL_holds 2 = .ok (.iconst 0, 1) := by decide +kernel
theorem dL_holds_3 : decode cL_holds 3 = .ok (.istore_n 2, 1) := by decide +kernel
theorem dL_holds_4 : decode cL_holds 4 = .ok (.iload_n 2, 1) := by decide +kernel
theorem dL_holds_5 : decode cL_holds 5 = .ok (.bipush 8, 2) := by decide +kernel
theorem dL_holds_7 : decode cL_holds 7 = .ok (.if_icmp .ge 183, 3) := by decide +kernel
theorem dL_holds_10 : decode cL_holds 10 = .ok (.iconst 0, 1) := by decide +kernel
theorem dL_holds_11 : decode cL_holds 11 = .ok (.istore_n 3, 1) := by decide +kernel
theorem dL_holds_12 : decode cL_holds 12 = .ok (.iload_n 3, 1) := by decide +kernel
theorem dL_holds_13 : decode cL_holds 13 = .ok (.bipush 6, 2) := by decide +kernel
theorem dL_holds_15 : decode cL_holds 15 = .ok (.if_icmp .ge 169, 3) := by decide +kernel
theorem dL_holds_18 : decode cL_holds 18 = .ok (.aload_n 0, 1) := by decide +kernel
theorem dL_holds_19 : decode cL_holds 19 = .ok (.iload_n 2, 1) := by decide +kernel
theorem dL_holds_20 : decode cL_holds 20 = .ok (.iload_n 3, 1) := by decide +kernel
theorem dL_holds_21 : decode cL_holds 21 = .ok (.invokevirtual 26, 3) := by decide +kernel
theorem dL_holds_24 : decode cL_holds 24 = .ok (.istore 4, 2) := by decide +kernel
theorem dL_holds_26 : decode cL_holds 26 = .ok (.aload_n 0, 1) := by decide +kernel
theorem dL_holds_27 : decode cL_holds 27 = .ok (.iload_n 2, 1) := by decide +kernel
theorem dL_holds_28 : decode cL_holds 28 = .ok (.iload_n 3, 1) := by decide +kernel
theorem dL_holds_29 : decode cL_holds 29 = .ok (.invokevirtual 22, 3) := by decide +kernel
theorem dL_holds_32 : decode cL_holds 32 = .ok (.istore 5, 2) := by decide +kernel
theorem dL_holds_34 : decode cL_holds 34 = .ok (.aload_n 0, 1) := by decide +kernel
theorem dL_holds_35 : decode cL_holds 35 = .ok (.iload_n 3, 1) := by decide +kernel
theorem dL_holds_36 : decode cL_holds 36 = .ok (.invokevirtual 71, 3) := by decide +kernel
theorem dL_holds_39 : decode cL_holds 39 = .ok (.iload_n 2, 1) := by decide +kernel
theorem dL_holds_40 : decode cL_holds 40 = .ok (.ishr, 1) := by decide +kernel
theorem dL_holds_41 : decode cL_holds 41 = .ok (.iconst 1, 1) := by decide +kernel
theorem dL_holds_42 : decode cL_holds 42 = .ok (.iand, 1) := by decide +kernel
theorem dL_holds_43 : decode cL_holds 43 = .ok (.iconst 1, 1) := by decide +kernel
theorem dL_holds_44 : decode cL_holds 44 = .ok (.if_icmp .ne 7, 3) := by decide +kernel
theorem dL_holds_47 : decode cL_holds 47 = .ok (.iconst 1, 1) := by decide +kernel
theorem dL_holds_48 : decode cL_holds 48 = .ok (.goto 4, 3) := by decide +kernel
theorem dL_holds_51 : decode cL_holds 51 = .ok (.iconst 0, 1) := by decide +kernel
theorem dL_holds_52 : decode cL_holds 52 = .ok (.istore 6, 2) := by decide +kernel
theorem dL_holds_54 : decode cL_holds 54 = .ok (.aload_n 0, 1) := by decide +kernel
theorem dL_holds_55 : decode cL_holds 55 = .ok (.iload_n 3, 1) := by decide +kernel
theorem dL_holds_56 : decode cL_holds 56 = .ok (.invokevirtual 74, 3) := by decide +kernel
theorem dL_holds_59 : decode cL_holds 59 = .ok (.iload_n 2, 1) := by decide +kernel
theorem dL_holds_60 : decode cL_holds 60 = .ok (.ishr, 1) := by decide +kernel
theorem dL_holds_61 : decode cL_holds 61 = .ok (.iconst 1, 1) := by decide +kernel
theorem dL_holds_62 : decode cL_holds 62 = .ok (.iand, 1) := by decide +kernel
theorem dL_holds_63 : decode cL_holds 63 = .ok (.iconst 1, 1) := by decide +kernel
theorem dL_holds_64 : decode cL_holds 64 = .ok (.if_icmp .ne 7, 3) := by decide +kernel
theorem dL_holds_67 : decode cL_holds 67 = .ok (.iconst 1, 1) := by decide +kernel
theorem dL_holds_68 : decode cL_holds 68 = .ok (.goto 4, 3) := by decide +kernel
theorem dL_holds_71 : decode cL_holds 71 = .ok (.iconst 0, 1) := by decide +kernel
theorem dL_holds_72 : decode cL_holds 72 = .ok (.istore 7, 2) := by decide +kernel
theorem dL_holds_74 : decode cL_holds 74 = .ok (.iload_n 1, 1) := by decide +kernel
theorem dL_holds_75 : decode cL_holds 75 = .ok (.iload 4, 2) := by decide +kernel
theorem dL_holds_77 : decode cL_holds 77 = .ok (.ifCond .le 7, 3) := by decide +kernel
theorem dL_holds_80 : decode cL_holds 80 = .ok (.iconst 1, 1) := by decide +kernel
theorem dL_holds_81 : decode cL_holds 81 = .ok (.goto 4, 3) := by decide +kernel
theorem dL_holds_84 : decode cL_holds 84 = .ok (.iconst 0, 1) := by decide +kernel
theorem dL_holds_85 : decode cL_holds 85 = .ok (.iadd, 1) := by decide +kernel
theorem dL_holds_86 : decode cL_holds 86 = .ok (.istore_n 1, 1) := by decide +kernel
theorem dL_holds_87 : decode cL_holds 87 = .ok (.iload 4, 2) := by decide +kernel
theorem dL_holds_89 : decode cL_holds 89 = .ok (.ifCond .lt 87, 3) := by decide +kernel
theorem dL_holds_92 : decode cL_holds 92 = .ok (.iload 4, 2) := by decide +kernel
theorem dL_holds_94 : decode cL_holds 94 = .ok (.bipush 60, 2) := by decide +kernel
theorem dL_holds_96 : decode cL_holds 96 = .ok (.if_icmp .gt 80, 3) := by decide +kernel
theorem dL_holds_99 : decode cL_holds 99 = .ok (.iload 5, 2) := by decide +kernel
theorem dL_holds_101 : decode cL_holds 101 = .ok (.ifCond .lt 75, 3) := by decide +kernel
theorem dL_holds_104 : decode cL_holds 104 = .ok (.iload 5, 2) := by decide +kernel
theorem dL_holds_106 : decode cL_holds 106 = .ok (.bipush 9, 2) := by decide +kernel
theorem dL_holds_108 : decode cL_holds 108 = .ok (.if_icmp .gt 68, 3) := by decide +kernel
theorem dL_holds_111 : decode cL_holds 111 = .ok (.iload 7, 2) := by decide +kernel
theorem dL_holds_113 : decode cL_holds 113 = .ok (.iload 5, 2) := by decide +kernel
theorem dL_holds_115 : decode cL_holds 115 = .ok (.ifCond .le 7, 3) := by decide +kernel
theorem dL_holds_118 : decode cL_holds 118 = .ok (.iconst 1, 1) := by decide +kernel
theorem dL_holds_119 : decode cL_holds 119 = .ok (.goto 4, 3) := by decide +kernel
theorem dL_holds_122 : decode cL_holds 122 = .ok (.iconst 0, 1) := by decide +kernel
theorem dL_holds_123 : decode cL_holds 123 = .ok (.if_icmp .ne 53, 3) := by decide +kernel
theorem dL_holds_126 : decode cL_holds 126 = .ok (.iload 6, 2) := by decide +kernel
theorem dL_holds_128 : decode cL_holds 128 = .ok (.iload 4, 2) := by decide +kernel
theorem dL_holds_130 : decode cL_holds 130 = .ok (.ifCond .gt 11, 3) := by decide +kernel
theorem dL_holds_133 : decode cL_holds 133 = .ok (.aload_n 0, 1) := by decide +kernel
theorem dL_holds_134 : decode cL_holds 134 = .ok (.iload_n 2, 1) := by decide +kernel
theorem dL_holds_135 : decode cL_holds 135 = .ok (.invokevirtual 29, 3) := by decide +kernel
theorem dL_holds_138 : decode cL_holds 138 = .ok (.ifCond .eq 7, 3) := by decide +kernel
theorem dL_holds_141 : decode cL_holds 141 = .ok (.iconst 1, 1) := by decide +kernel
theorem dL_holds_142 : decode cL_holds 142 = .ok (.goto 4, 3) := by decide +kernel
theorem dL_holds_145 : decode cL_holds 145 = .ok (.iconst 0, 1) := by decide +kernel
theorem dL_holds_146 : decode cL_holds 146 = .ok (.if_icmp .ne 30, 3) := by decide +kernel
theorem dL_holds_149 : decode cL_holds 149 = .ok (.aload_n 0, 1) := by decide +kernel
theorem dL_holds_150 : decode cL_holds 150 = .ok (.iload_n 2, 1) := by decide +kernel
theorem dL_holds_151 : decode cL_holds 151 = .ok (.iload_n 3, 1) := by decide +kernel
theorem dL_holds_152 : decode cL_holds 152 = .ok (.invokevirtual 87, 3) := by decide +kernel
theorem dL_holds_155 : decode cL_holds 155 = .ok (.ifCond .ne 7, 3) := by decide +kernel
theorem dL_holds_158 : decode cL_holds 158 = .ok (.iconst 1, 1) := by decide +kernel
theorem dL_holds_159 : decode cL_holds 159 = .ok (.goto 4, 3) := by decide +kernel
theorem dL_holds_162 : decode cL_holds 162 = .ok (.iconst 0, 1) := by decide +kernel
theorem dL_holds_163 : decode cL_holds 163 = .ok (.iload 4, 2) := by decide +kernel
theorem dL_holds_165 : decode cL_holds 165 = .ok (.ifCond .ne 7, 3) := by decide +kernel
theorem dL_holds_168 : decode cL_holds 168 = .ok (.iconst 1, 1) := by decide +kernel
theorem dL_holds_169 : decode cL_holds 169 = .ok (.goto 4, 3) := by decide +kernel
theorem dL_holds_172 : decode cL_holds 172 = .ok (.iconst 0, 1) := by decide +kernel
theorem dL_holds_173 : decode cL_holds 173 = .ok (.if_icmp .eq 5, 3) := by decide +kernel
theorem dL_holds_176 : decode cL_holds 176 = .ok (.iconst 0, 1) := by decide +kernel
theorem dL_holds_177 : decode cL_holds 177 = .ok (.ireturn, 1) := by decide +kernel
theorem dL_holds_178 : decode cL_holds 178 = .ok (.iinc 3 1, 3) := by decide +kernel
theorem dL_holds_181 : decode cL_holds 181 = .ok (.goto (-169), 3) := by decide +kernel
theorem dL_holds_184 : decode cL_holds 184 = .ok (.iinc 2 1, 3) := by decide +kernel
theorem dL_holds_187 : decode cL_holds 187 = .ok (.goto (-183), 3) := by decide +kernel
theorem dL_holds_190 : decode cL_holds 190 = .ok (.aload_n 0, 1) := by decide +kernel
theorem dL_holds_191 : decode cL_holds 191 = .ok (.invokevirtual 90, 3) := by decide +kernel
theorem dL_holds_194 : decode cL_holds 194 = .ok (.iload_n 1, 1) := by decide +kernel
theorem dL_holds_195 : decode cL_holds 195 = .ok (.if_icmp .ne 48, 3) := by decide +kernel
theorem dL_holds_198 : decode cL_holds 198 = .ok (.aload_n 0, 1) := by decide +kernel
theorem dL_holds_199 : decode cL_holds 199 = .ok (.invokevirtual 19, 3) := by decide +kernel
theorem dL_holds_202 : decode cL_holds 202 = .ok (.ifCond .lt 41, 3) := by decide +kernel
theorem dL_holds_205 : decode cL_holds 205 = .ok (.aload_n 0, 1) := by decide +kernel
theorem dL_holds_206 : decode cL_holds 206 = .ok (.invokevirtual 19, 3) := by decide +kernel
theorem dL_holds_209 : decode cL_holds 209 = .ok (.iconst 3, 1) := by decide +kernel
theorem dL_holds_210 : decode cL_holds 210 = .ok (.if_icmp .ge 33, 3) := by decide +kernel
theorem dL_holds_213 : decode cL_holds 213 = .ok (.aload_n 0, 1) := by decide +kernel
theorem dL_holds_214 : decode cL_holds 214 = .ok (.invokevirtual 93, 3) := by decide +kernel
theorem dL_holds_217 : decode cL_holds 217 = .ok (.iconst 1, 1) := by decide +kernel
theorem dL_holds_218 : decode cL_holds 218 = .ok (.if_icmp .lt 25, 3) := by decide +kernel
theorem dL_holds_221 : decode cL_holds 221 = .ok (.aload_n 0, 1) := by decide +kernel
theorem dL_holds_222 : decode cL_holds 222 = .ok (.invokevirtual 96, 3) := by decide +kernel
theorem dL_holds_225 : decode cL_holds 225 = .ok (.dconst 0, 1) := by decide +kernel
theorem dL_holds_226 : decode cL_holds 226 = .ok (.dcmp .l, 1) := by decide +kernel
theorem dL_holds_227 : decode cL_holds 227 = .ok (.ifCond .lt 16, 3) := by decide +kernel
theorem dL_holds_230 : decode cL_holds 230 = .ok (.aload_n 0, 1) := by decide +kernel
theorem dL_holds_231 : decode cL_holds 231 = .ok (.invokevirtual 96, 3) := by decide +kernel
theorem dL_holds_234 : decode cL_holds 234 = .ok (.dconst 1, 1) := by decide +kernel
theorem dL_holds_235 : decode cL_holds 235 = .ok (.dcmp .g, 1) := by decide +kernel
theorem dL_holds_236 : decode cL_holds 236 = .ok (.ifCond .gt 7, 3) := by decide +kernel
theorem dL_holds_239 : decode cL_holds 239 = .ok (.iconst 1, 1) := by decide +kernel
theorem dL_holds_240 : decode cL_holds 240 = .ok (.goto 4, 3) := by decide +kernel
theorem dL_holds_243 : decode cL_holds 243 = .ok (.iconst 0, 1) := by decide +kernel
theorem dL_holds_244 : decode cL_holds 244 = .ok (.ireturn, 1) := by decide +kernel
set_option maxRecDepth 20000 in
theorem ggL_isTimed_X3_minutesToQuestion : GoodIn wsL_isTimed wsX3_minutesToQuestion := goodIn_r _ [5, 6, 7, 8, 9, 10, 11, 12, 13, 14, 15, 16, 17, 18, 19, 20, 21, 22, 23, 24, 25, 26, 27, 126, 127, 128, 129, 130, 131, 132, 133, 134, 135, 136, 137, 138, 139, 140] (by decide +kernel) (by decide +kernel)
set_option maxRecDepth 20000 in
theorem gL_isTimed_X3_minutesToQuestion : GoodIn wsL_isTimed (wsV RL 93 RX3 yX3_minutesToQuestion wsX3_minutesToQuestion) := goodIn_app (goodIn_of _ (by decide +kernel)) ggL_isTimed_X3_minutesToQuestion
set_option maxRecDepth 20000 in
theorem ggL_isTimed_X3_count : GoodIn wsL_isTimed wsX3_count := goodIn_ca (goodIn_r _ [31, 32, 33, 6, 34, 126, 127, 128, 129, 130, 131, 132, 133, 134, 135, 136, 137, 138, 139, 140] (by decide +kernel) (by decide +kernel)) (goodIn_sub (fun _ h => List.mem_cons_of_mem _ (List.mem_append_left _ (List.mem_append_left _ (List.mem_append_right _ h)))) (by decide +kernel))
set_option maxRecDepth 20000 in
theorem gL_isTimed_X3_count : GoodIn wsL_isTimed (wsV RL 33 RX3 yX3_count wsX3_count) := goodIn_app (goodIn_of _ (by decide +kernel)) ggL_isTimed_X3_count
set_option maxRecDepth 20000 in
theorem ggL_isTimed_X3_rest : GoodIn wsL_isTimed wsX3_rest := goodIn_ca (goodIn_r _ [38, 6, 39, 40, 41, 4, 42, 32, 33, 43, 44, 45, 46, 47, 48, 49, 50, 51, 52, 53, 54, 126, 127, 128, 129, 130, 131, 132, 133, 134, 135, 136, 137, 138, 139, 140] (by decide +kernel) (by decide +kernel)) (goodIn_sub (fun _ h => List.mem_cons_of_mem _ (List.mem_append_left _ (List.mem_append_left _ (List.mem_append_right _ h)))) (by decide +kernel))
set_option maxRecDepth 20000 in
theorem gL_isTimed_X3_rest : GoodIn wsL_isTimed (wsV RL 26 RX3 yX3_rest wsX3_rest) := goodIn_app (goodIn_of _ (by decide +kernel)) ggL_isTimed_X3_rest
set_option maxRecDepth 20000 in
theorem ggL_isTimed_X3_pass : GoodIn wsL_isTimed wsX3_pass := goodIn_ca (goodIn_r _ [58, 59, 6, 60, 61, 4, 62, 63, 64, 65, 66, 67, 68, 69, 70, 71, 72, 73, 74, 75, 10, 76, 77, 78, 79, 80, 81, 82, 83, 84, 85, 27, 26, 86, 87, 21, 88, 12, 89, 90, 91, 92, 93, 94, 95, 96, 17, 18, 19, 20, 22, 23, 24, 25, 97, 98, 99, 100, 101, 102, 103, 104, 126, 127, 128, 141, 142, 143, 129, 130, 131, 132, 133, 134, 135, 136, 137, 138, 139, 140] (by decide +kernel) (by decide +kernel)) (goodIn_sub (fun _ h => List.mem_cons_of_mem _ (List.mem_append_left _ (List.mem_append_right _ h))) (by decide +kernel))
set_option maxRecDepth 20000 in
theorem gL_isTimed_X3_pass : GoodIn wsL_isTimed (wsV RL 68 RX3 yX3_pass wsX3_pass) := goodIn_app (goodIn_of _ (by decide +kernel)) ggL_isTimed_X3_pass
set_option maxRecDepth 20000 in
theorem ggL_isTimed_X3_sinceQuestion : GoodIn wsL_isTimed wsX3_sinceQuestion := goodIn_r _ [108, 6, 109, 126, 127, 128, 129, 130, 131, 132, 133, 134, 135, 136, 137, 138, 139, 140] (by decide +kernel) (by decide +kernel)
set_option maxRecDepth 20000 in
theorem gL_isTimed_X3_sinceQuestion : GoodIn wsL_isTimed (wsV RL 16 RX3 yX3_sinceQuestion wsX3_sinceQuestion) := goodIn_app (goodIn_of _ (by decide +kernel)) ggL_isTimed_X3_sinceQuestion
set_option maxRecDepth 20000 in
theorem ggL_isTimed_X3_listeners : GoodIn wsL_isTimed wsX3_listeners := goodIn_ca (goodIn_r _ [113, 6, 114, 40, 41, 4, 42, 32, 33, 43, 44, 45, 46, 47, 48, 49, 50, 51, 52, 53, 54, 126, 127, 128, 129, 130, 131, 132, 133, 134, 135, 136, 137, 138, 139, 140] (by decide +kernel) (by decide +kernel)) (goodIn_sub (fun _ h => List.mem_cons_of_mem _ (List.mem_append_left _ (List.mem_append_left _ (List.mem_append_right _ h)))) (by decide +kernel))
set_option maxRecDepth 20000 in
theorem gL_isTimed_X3_listeners : GoodIn wsL_isTimed (wsV RL 22 RX3 yX3_listeners wsX3_listeners) := goodIn_app (goodIn_of _ (by decide +kernel)) ggL_isTimed_X3_listeners
set_option maxRecDepth 20000 in
theorem ggL_isTimed_X3_undo : GoodIn wsL_isTimed wsX3_undo := goodIn_ca (goodIn_r _ [118, 119, 120, 59, 121, 6, 122, 123, 124, 68, 125, 70, 72, 71, 73, 74, 75, 10, 76, 77, 78, 79, 80, 81, 82, 83, 84, 85, 27, 26, 86, 87, 21, 88, 12, 126, 127, 128, 141, 142, 143, 129, 130, 131, 132, 133, 134, 135, 136, 137, 138, 139, 140] (by decide +kernel) (by decide +kernel)) (goodIn_sub (fun _ h => List.mem_cons_of_mem _ (List.mem_append_right _ h)) (by decide +kernel))
set_option maxRecDepth 20000 in
theorem gL_isTimed_X3_undo : GoodIn wsL_isTimed (wsV RL 84 RX3 yX3_undo wsX3_undo) := goodIn_app (goodIn_of _ (by decide +kernel)) ggL_isTimed_X3_undo
theorem dL_isTimed_0 : decode cL_isTimed 0 = .ok (.aload_n 0, 1) := by decide +kernel
theorem dL_isTimed_1 : decode cL_isTimed 1 = .ok (.invokevirtual 93, 3) := by decide +kernel
theorem dL_isTimed_4 : decode cL_isTimed 4 = .ok (.istore_n 3, 1) := by decide +kernel
theorem dL_isTimed_5 : decode cL_isTimed 5 = .ok (.aload_n 0, 1) := by decide +kernel
theorem dL_isTimed_6 : decode cL_isTimed 6 = .ok (.iconst 3, 1) := by decide +kernel
theorem dL_isTimed_7 : decode cL_isTimed 7 = .ok (.invokevirtual 33, 3) := by decide +kernel
theorem dL_isTimed_10 : decode cL_isTimed 10 = .ok (.istore 4, 2) := by decide +kernel
theorem dL_isTimed_12 : decode cL_isTimed 12 = .ok (.aload_n 0, 1) := by decide +kernel
theorem dL_isTimed_13 : decode cL_isTimed 13 = .ok (.iload_n 1, 1) := by decide +kernel
theorem dL_isTimed_14 : decode cL_isTimed 14 = .ok (.iload_n 2, 1) := by decide +kernel
theorem dL_isTimed_15 : decode cL_isTimed 15 = .ok (.invokevirtual 26, 3) := by decide +kernel
theorem dL_isTimed_18 : decode cL_isTimed 18 = .ok (.istore 5, 2) := by decide +kernel
theorem dL_isTimed_20 : decode cL_isTimed 20 = .ok (.aload_n 0, 1) := by decide +kernel
theorem dL_isTimed_21 : decode cL_isTimed 21 = .ok (.iload_n 3, 1) := by decide +kernel
theorem dL_isTimed_22 : decode cL_isTimed 22 = .ok (.invokevirtual 68, 3) := by decide +kernel
theorem dL_isTimed_25 : decode cL_isTimed 25 = .ok (.iconst 1, 1) := by decide +kernel
theorem dL_isTimed_26 : decode cL_isTimed 26 = .ok (.if_icmp .ne 26, 3) := by decide +kernel
theorem dL_isTimed_29 : decode cL_isTimed 29 = .ok (.aload_n 0, 1) := by decide +kernel
theorem dL_isTimed_30 : decode cL_isTimed 30 = .ok (.iconst 3, 1) := by decide +kernel
theorem dL_isTimed_31 : decode cL_isTimed 31 = .ok (.invokevirtual 33, 3) := by decide +kernel
theorem dL_isTimed_34 : decode cL_isTimed 34 = .ok (.iload 4, 2) := by decide +kernel
theorem dL_isTimed_36 : decode cL_isTimed 36 = .ok (.iconst 1, 1) := by decide +kernel
theorem dL_isTimed_37 : decode cL_isTimed 37 = .ok (.iadd, 1) := by decide +kernel
theorem dL_isTimed_38 : decode cL_isTimed 38 = .ok (.if_icmp .ne 14, 3) := by decide +kernel
theorem dL_isTimed_41 : decode cL_isTimed 41 = .ok (.aload_n 0, 1) := by decide +kernel
theorem dL_isTimed_42 : decode cL_isTimed 42 = .ok (.invokevirtual 16, 3) := by decide +kernel
theorem dL_isTimed_45 : decode cL_isTimed 45 = .ok (.ifCond .ne 7, 3) := by decide +kernel
theorem dL_isTimed_48 : decode cL_isTimed 48 = .ok (.iconst 1, 1) := by decide +kernel
theorem dL_isTimed_49 : decode cL_isTimed 49 = .ok (.goto 4, 3) := by decide +kernel
theorem dL_isTimed_52 : decode cL_isTimed 52 = .ok (.iconst 0, 1) := by decide +kernel
theorem dL_isTimed_53 : decode cL_isTimed 53 = .ok (.istore 6, 2) := by decide +kernel
theorem dL_isTimed_55 : decode cL_isTimed 55 = .ok (.iload 6, 2) := by decide +kernel
theorem dL_isTimed_57 : decode cL_isTimed 57 = .ok (.ifCond .eq 52, 3) := by decide +kernel
theorem dL_isTimed_60 : decode cL_isTimed 60 = .ok (.aload_n 0, 1) := by decide +kernel
theorem dL_isTimed_61 : decode cL_isTimed 61 = .ok (.iload_n 1, 1) := by decide +kernel
theorem dL_isTimed_62 : decode cL_isTimed 62 = .ok (.iload_n 2, 1) := by decide +kernel
theorem dL_isTimed_63 : decode cL_isTimed 63 = .ok (.invokevirtual 22, 3) := by decide +kernel
theorem dL_isTimed_66 : decode cL_isTimed 66 = .ok (.ifCond .le 16, 3) := by decide +kernel
theorem dL_isTimed_69 : decode cL_isTimed 69 = .ok (.aload_n 0, 1) := by decide +kernel
theorem dL_isTimed_70 : decode cL_isTimed 70 = .ok (.iload_n 1, 1) := by decide +kernel
theorem dL_isTimed_71 : decode cL_isTimed 71 = .ok (.iload_n 2, 1) := by decide +kernel
theorem dL_isTimed_72 : decode cL_isTimed 72 = .ok (.invokevirtual 26, 3) := by decide +kernel
theorem dL_isTimed_75 : decode cL_isTimed 75 = .ok (.iconst 1, 1) := by decide +kernel
theorem dL_isTimed_76 : decode cL_isTimed 76 = .ok (.if_icmp .le 33, 3) := by decide +kernel
theorem dL_isTimed_79 : decode cL_isTimed 79 = .ok (.goto 26, 3) := by decide +kernel
theorem dL_isTimed_82 : decode cL_isTimed 82 = .ok (.aload_n 0, 1) := by decide +kernel
theorem dL_isTimed_83 : decode cL_isTimed 83 = .ok (.iload_n 1, 1) := by decide +kernel
theorem dL_isTimed_84 : decode cL_isTimed 84 = .ok (.iload_n 2, 1) := by decide +kernel
theorem dL_isTimed_85 : decode cL_isTimed 85 = .ok (.invokevirtual 26, 3) := by decide +kernel
theorem dL_isTimed_88 : decode cL_isTimed 88 = .ok (.iload 5, 2) := by decide +kernel
theorem dL_isTimed_90 : decode cL_isTimed 90 = .ok (.iload_n 3, 1) := by decide +kernel
theorem dL_isTimed_91 : decode cL_isTimed 91 = .ok (.if_icmp .le 10, 3) := by decide +kernel
theorem dL_isTimed_94 : decode cL_isTimed 94 = .ok (.iload 5, 2) := by decide +kernel
theorem dL_isTimed_96 : decode cL_isTimed 96 = .ok (.iload_n 3, 1) := by decide +kernel
theorem dL_isTimed_97 : decode cL_isTimed 97 = .ok (.isub, 1) := by decide +kernel
theorem dL_isTimed_98 : decode cL_isTimed 98 = .ok (.goto 4, 3) := by decide +kernel
theorem dL_isTimed_101 : decode cL_isTimed 101 = .ok (.iconst 0, 1) := by decide +kernel
theorem dL_isTimed_102 : decode cL_isTimed 102 = .ok (.if_icmp .ne 7, 3) := by decide +kernel
theorem dL_isTimed_105 : decode cL_isTimed 105 = .ok (.iconst 1, 1) := by decide +kernel
theorem dL_isTimed_106 : decode cL_isTimed 106 = .ok (.goto 4, 3) := by decide +kernel
theorem dL_isTimed_109 : decode cL_isTimed 109 = .ok (.iconst 0, 1) := by decide +kernel
theorem dL_isTimed_110 : decode cL_isTimed 110 = .ok (.istore 6, 2) := by decide +kernel
theorem dL_isTimed_112 : decode cL_isTimed 112 = .ok (.aload_n 0, 1) := by decide +kernel
theorem dL_isTimed_113 : decode cL_isTimed 113 = .ok (.invokevirtual 84, 3) := by decide +kernel
theorem dL_isTimed_116 : decode cL_isTimed 116 = .ok (.pop, 1) := by decide +kernel
theorem dL_isTimed_117 : decode cL_isTimed 117 = .ok (.iload_n 3, 1) := by decide +kernel
theorem dL_isTimed_118 : decode cL_isTimed 118 = .ok (.iconst 1, 1) := by decide +kernel
theorem dL_isTimed_119 : decode cL_isTimed 119 = .ok (.if_icmp .le 30, 3) := by decide +kernel
theorem dL_isTimed_122 : decode cL_isTimed 122 = .ok (.iload 6, 2) := by decide +kernel
theorem dL_isTimed_124 : decode cL_isTimed 124 = .ok (.ifCond .eq 17, 3) := by decide +kernel
theorem dL_isTimed_127 : decode cL_isTimed 127 = .ok (.aload_n 0, 1) := by decide +kernel
theorem dL_isTimed_128 : decode cL_isTimed 128 = .ok (.iload_n 3, 1) := by decide +kernel
theorem dL_isTimed_129 : decode cL_isTimed 129 = .ok (.iconst 1, 1) := by decide +kernel
theorem dL_isTimed_130 : decode cL_isTimed 130 = .ok (.isub, 1) := by decide +kernel
theorem dL_isTimed_131 : decode cL_isTimed 131 = .ok (.invokevirtual 68, 3) := by decide +kernel
theorem dL_isTimed_134 : decode cL_isTimed 134 = .ok (.ifCond .ne 7, 3) := by decide +kernel
theorem dL_isTimed_137 : decode cL_isTimed 137 = .ok (.iconst 1, 1) := by decide +kernel
theorem dL_isTimed_138 : decode cL_isTimed 138 = .ok (.goto 4, 3) := by decide +kernel
theorem dL_isTimed_141 : decode cL_isTimed 141 = .ok (.iconst 0, 1) := by decide +kernel
theorem dL_isTimed_142 : decode cL_isTimed 142 = .ok (.istore 6, 2) := by decide +kernel
theorem dL_isTimed_144 : decode cL_isTimed 144 = .ok (.aload_n 0, 1) := by decide +kernel
theorem dL_isTimed_145 : decode cL_isTimed 145 = .ok (.invokevirtual 84, 3) := by decide +kernel
theorem dL_isTimed_148 : decode cL_isTimed 148 = .ok (.pop, 1) := by decide +kernel
theorem dL_isTimed_149 : decode cL_isTimed 149 = .ok (.iload 6, 2) := by decide +kernel
theorem dL_isTimed_151 : decode cL_isTimed 151 = .ok (.ireturn, 1) := by decide +kernel
set_option maxRecDepth 20000 in
theorem ggL_law_X3_init : GoodIn wsL_law wsX3_init := goodIn_r _ [5, 6, 7, 8, 9, 10, 11, 12, 13, 14, 15, 16, 17, 18, 19, 20, 21, 22, 23, 24, 25, 26, 27, 28, 29, 30, 31, 32, 33, 34, 35, 36, 37, 38, 39, 40, 41, 42, 43, 44, 45, 46, 47, 48, 49, 50, 317, 318, 319, 320, 321, 322, 323, 324, 325, 326, 327, 328, 314, 315, 316, 329, 330, 331, 332, 333] (by decide +kernel) (by decide +kernel)
set_option maxRecDepth 20000 in
theorem gL_law_X3_init : GoodIn wsL_law (wsX3_init) := ggL_law_X3_init
set_option maxRecDepth 20000 in
theorem ggL_law_L_cell : GoodIn wsL_law wsL_cell := goodIn_r _ [54] (by decide +kernel) (by decide +kernel)
set_option maxRecDepth 20000 in
theorem gL_law_L_cell : GoodIn wsL_law (va_wsS RL 101 yL_cell wsL_cell) := goodIn_app (goodIn_of _ (by decide +kernel)) ggL_law_L_cell
set_option maxRecDepth 20000 in
theorem ggL_law_X3_savedStates : GoodIn wsL_law wsX3_savedStates := goodIn_r _ [58, 16, 59, 314, 315, 316, 329, 330, 331] (by decide +kernel) (by decide +kernel)
set_option maxRecDepth 20000 in
theorem gL_law_X3_savedStates : GoodIn wsL_law (wsV RL 105 RX3 yX3_savedStates wsX3_savedStates) := goodIn_app (goodIn_of _ (by decide +kernel)) ggL_law_X3_savedStates
set_option maxRecDepth 20000 in
theorem ggL_law_X3_undo : GoodIn wsL_law wsX3_undo := goodIn_ca (goodIn_r _ [63, 64, 65, 16, 59, 12, 66, 67, 68, 15, 69, 44, 42, 43, 70, 71, 72, 11, 73, 25, 74, 75, 76, 77, 26, 27, 28, 29, 30, 31, 32, 33, 34, 35, 36, 314, 315, 316, 329, 330, 331, 317, 318, 319, 320, 321, 322, 323, 324, 325, 326, 327, 328] (by decide +kernel) (by decide +kernel)) (goodIn_sub (fun _ h => List.mem_append_left _ (List.mem_append_left _ (List.mem_append_right _ h))) (by decide +kernel))
set_option maxRecDepth 20000 in
theorem gL_law_X3_undo : GoodIn wsL_law (wsV RL 84 RX3 yX3_undo wsX3_undo) := goodIn_app (goodIn_of _ (by decide +kernel)) ggL_law_X3_undo
set_option maxRecDepth 20000 in
theorem ggL_law_L_told : GoodIn wsL_law wsL_told := goodIn_ca (goodIn_r _ [80, 81, 82, 83, 84, 2, 85, 12, 86, 87, 88, 89, 90, 91, 92, 93, 94, 95, 96, 97, 98, 11, 99, 31, 30, 100, 101, 102, 103, 104, 105, 106, 107, 108, 109, 110, 111, 112, 113, 114, 115, 116, 117, 118, 119, 120, 121, 122, 123, 124, 125, 126, 127, 128, 129, 130, 131, 132, 133, 134, 28, 135, 136, 137, 138, 139, 314, 315, 316, 317, 318, 319, 320, 321, 322, 323, 324, 325, 326, 327, 328] (by decide +kernel) (by decide +kernel)) (goodIn_sub (fun _ h => List.mem_append_left _ (List.mem_append_right _ h)) (by decide +kernel))
set_option maxRecDepth 20000 in
theorem gL_law_L_told : GoodIn wsL_law (va_wsS RL 77 yL_told wsL_told) := goodIn_app (goodIn_of _ (by decide +kernel)) ggL_law_L_told
set_option maxRecDepth 20000 in
theorem ggL_law_L_act : GoodIn wsL_law wsL_act := goodIn_ca (goodIn_ca (goodIn_ca (goodIn_r _ [142, 143, 144, 53, 145, 146, 100, 101, 102, 2, 103, 12, 104, 105, 106, 107, 108, 109, 110, 111, 112, 113, 114, 115, 116, 117, 118, 119, 120, 121, 147, 148, 149, 150, 64, 65, 16, 151, 152, 153, 11, 154, 25, 155, 156, 157, 15, 158, 44, 43, 42, 70, 71, 72, 73, 74, 75, 76, 77, 26, 27, 28, 29, 30, 31, 32, 33, 34, 35, 36, 159, 160, 161, 162, 163, 164, 165, 166, 167, 168, 169, 170, 171, 172, 173, 174, 175, 176, 177, 178, 179, 180, 181, 182, 183, 184, 185, 186, 187, 131, 132, 133, 134, 188, 189, 190, 191, 192, 193, 194, 195, 196, 197, 198, 199, 200, 201, 202, 203, 204, 205, 206, 207, 208, 209, 210, 211, 96, 97, 98, 99, 212, 213, 214, 215, 216, 217, 218, 219, 220, 221, 222, 223, 224, 225, 226, 227, 228, 229, 230, 231, 232, 233, 234, 235, 236, 237, 238, 239, 240, 241, 242, 243, 244, 245, 246, 247, 248, 249, 250, 251, 252, 253, 254, 255, 256, 257, 258, 314, 315, 316, 317, 318, 319, 320, 321, 322, 323, 324, 325, 326, 327, 328, 329, 330, 331] (by decide +kernel) (by decide +kernel)) (goodIn_sub (fun _ h => List.mem_append_left _ (List.mem_append_right _ h)) (by decide +kernel))) (goodIn_sub (fun _ h => List.mem_append_left _ (List.mem_append_left _ (List.mem_append_right _ h))) (by decide +kernel))) (goodIn_sub (fun _ h => List.mem_append_right _ h) (by decide +kernel))
set_option maxRecDepth 20000 in
theorem gL_law_L_act : GoodIn wsL_law (va_wsS RL 108 yL_act wsL_act) := goodIn_app (goodIn_of _ (by decide +kernel)) ggL_law_L_act
set_option maxRecDepth 20000 in
theorem ggL_law_L_holds : GoodIn wsL_law wsL_holds := goodIn_ca (goodIn_r _ [261, 122, 123, 124, 2, 125, 12, 126, 105, 106, 107, 108, 109, 110, 111, 112, 113, 114, 115, 116, 117, 118, 119, 120, 121, 100, 101, 102, 103, 104, 262, 263, 264, 265, 266, 221, 222, 11, 223, 28, 26, 267, 268, 269, 270, 271, 225, 226, 227, 183, 172, 173, 174, 25, 127, 128, 129, 130, 131, 132, 133, 134, 272, 273, 274, 275, 276, 277, 278, 279, 32, 280, 281, 282, 283, 36, 284, 285, 286, 287, 250, 251, 252, 253, 34, 254, 97, 98, 99, 31, 30, 288, 289, 290, 291, 292, 293, 294, 295, 92, 93, 94, 95, 96, 296, 297, 298, 299, 300, 301, 302, 303, 304, 139, 314, 315, 316, 317, 318, 319, 320, 321, 322, 323, 324, 325, 326, 327, 328] (by decide +kernel) (by decide +kernel)) (goodIn_sub (fun _ h => List.mem_append_left _ (List.mem_append_right _ h)) (by decide +kernel))
set_option maxRecDepth 20000 in
theorem gL_law_L_holds : GoodIn wsL_law (va_wsS RL 112 yL_holds wsL_holds) := goodIn_app (goodIn_of _ (by decide +kernel)) ggL_law_L_holds
set_option maxRecDepth 20000 in
theorem ggL_law_L_low : GoodIn wsL_law wsL_low := goodIn_r _ [145, 146] (by decide +kernel) (by decide +kernel)
set_option maxRecDepth 20000 in
theorem gL_law_L_low : GoodIn wsL_law (va_wsS RL 37 yL_low wsL_low) := goodIn_app (goodIn_of _ (by decide +kernel)) ggL_law_L_low
set_option maxRecDepth 20000 in
theorem ggL_law_L_isPlayed : GoodIn wsL_law wsL_isPlayed := goodIn_ca (goodIn_ca (goodIn_r _ [307, 262, 263, 264, 2, 265, 12, 113, 114, 115, 108, 109, 116, 117, 118, 266, 221, 222, 11, 223, 28, 26, 120, 121, 267, 268, 269, 270, 271, 225, 226, 227, 183, 172, 173, 174, 25, 135, 136, 137, 138, 139, 78, 79, 53, 80, 81, 82, 83, 84, 85, 86, 87, 88, 89, 90, 91, 92, 93, 94, 95, 96, 97, 98, 99, 31, 30, 100, 101, 102, 103, 104, 105, 106, 107, 110, 111, 112, 119, 122, 123, 124, 125, 126, 127, 128, 129, 130, 131, 132, 133, 134, 212, 213, 214, 215, 16, 155, 156, 157, 15, 158, 44, 43, 42, 70, 71, 72, 73, 74, 75, 76, 77, 27, 29, 32, 33, 34, 35, 36, 216, 217, 218, 219, 220, 224, 228, 229, 230, 231, 232, 233, 234, 308, 309, 310, 60, 61, 62, 63, 64, 65, 59, 66, 67, 68, 69, 314, 315, 316, 317, 318, 319, 320, 321, 322, 323, 324, 325, 326, 327, 328, 329, 330, 331] (by decide +kernel) (by decide +kernel)) (goodIn_sub (fun _ h => List.mem_append_left _ (List.mem_append_right _ h)) (by decide +kernel))) (goodIn_sub (fun _ h => List.mem_append_left _ (List.mem_append_left _ (List.mem_append_right _ h))) (by decide +kernel))
set_option maxRecDepth 20000 in
theorem gL_law_L_isPlayed : GoodIn wsL_law (va_wsS RL 116 yL_isPlayed wsL_isPlayed) := goodIn_app (goodIn_of _ (by decide +kernel)) ggL_law_L_isPlayed
set_option maxRecDepth 20000 in
theorem ggL_law_L_isTimed : GoodIn wsL_law wsL_isTimed := goodIn_ca (goodIn_ca (goodIn_ca (goodIn_r _ [313, 296, 297, 298, 2, 299, 12, 300, 281, 282, 11, 283, 36, 284, 285, 286, 287, 250, 251, 252, 253, 34, 254, 97, 98, 99, 31, 30, 135, 136, 137, 138, 108, 109, 139, 122, 123, 124, 125, 126, 105, 106, 107, 110, 111, 112, 113, 114, 115, 116, 117, 118, 119, 120, 121, 235, 236, 237, 238, 16, 239, 240, 241, 201, 202, 155, 156, 157, 15, 158, 44, 43, 42, 70, 71, 72, 73, 25, 74, 75, 76, 77, 26, 27, 28, 29, 32, 33, 35, 242, 243, 244, 245, 246, 247, 248, 249, 255, 256, 257, 258, 163, 164, 165, 166, 87, 88, 89, 90, 91, 100, 101, 102, 103, 104, 60, 61, 62, 63, 64, 65, 59, 66, 67, 68, 69, 314, 315, 316, 317, 318, 319, 320, 321, 322, 323, 324, 325, 326, 327, 328, 329, 330, 331] (by decide +kernel) (by decide +kernel)) (goodIn_sub (fun _ h => List.mem_append_left _ (List.mem_append_right _ h)) (by decide +kernel))) (goodIn_sub (fun _ h => List.mem_append_right _ h) (by decide +kernel))) (goodIn_sub (fun _ h => List.mem_append_left _ (List.mem_append_left _ (List.mem_append_right _ h))) (by decide +kernel))
set_option maxRecDepth 20000 in
theorem gL_law_L_isTimed : GoodIn wsL_law (va_wsS RL 120 yL_isTimed wsL_isTimed) := goodIn_app (goodIn_of _ (by decide +kernel)) ggL_law_L_isTimed
theorem dL_law_0 : decode cL_law 0 = .ok (.new 11, 3) := by decide +kernel
theorem dL_law_3 : decode cL_law 3 = .ok (.dup, 1) := by decide +kernel
theorem dL_law_4 : decode cL_law 4 = .ok (.invokespecial 100, 3) := by decide +kernel
theorem dL_law_7 : decode cL_law 7 = .ok (.astore_n 1, 1) := by decide +kernel
theorem dL_law_8 : decode cL_law 8 = .ok (.iconst 0, 1) := by decide +kernel
theorem dL_law_9 : decode cL_law 9 = .ok (.istore_n 2, 1) := by decide +kernel
theorem dL_law_10 : decode cL_law 10 = .ok (.iload_n 2, 1) := by decide +kernel
theorem dL_law_11 : decode cL_law 11 = .ok (.bipush 36, 2) := by decide +kernel
theorem dL_law_13 : decode cL_law 13 = .ok (.if_icmp .ge 229, 3) := by decide +kernel
theorem dL_law_16 : decode cL_law 16 = .ok (.aload_n 0, 1) := by decide +kernel
theorem dL_law_17 : decode cL_law 17 = .ok (.iconst 2, 1) := by decide +kernel
theorem dL_law_18 : decode cL_law 18 = .ok (.iload_n 2, 1) := by decide +kernel
theorem dL_law_19 : decode cL_law 19 = .ok (.imul, 1) := by decide +kernel
theorem dL_law_20 : decode cL_law 20 = .ok (.invokestatic 101, 3) := by decide +kernel
theorem dL_law_23 : decode cL_law 23 = .ok (.istore_n 3, 1) := by decide +kernel
theorem dL_law_24 : decode cL_law 24 = .ok (.aload_n 0, 1) := by decide +kernel
theorem dL_law_25 : decode cL_law 25 = .ok (.iconst 2, 1) := by decide +kernel
theorem dL_law_26 : decode cL_law 26 = .ok (.iload_n 2, 1) := by decide +kernel
theorem dL_law_27 : decode cL_law 27 = .ok (.imul, 1) := by decide +kernel
theorem dL_law_28 : decode cL_law 28 = .ok (.iconst 1, 1) := by decide +kernel
theorem dL_law_29 : decode cL_law 29 = .ok (.iadd, 1) := by decide +kernel
theorem dL_law_30 : decode cL_law 30 = .ok (.invokestatic 101, 3) := by decide +kernel
theorem dL_law_33 : decode cL_law 33 = .ok (.istore 4, 2) := by decide +kernel
theorem dL_law_35 : decode cL_law 35 = .ok (.aload_n 1, 1) := by decide +kernel
theorem dL_law_36 : decode cL_law 36 = .ok (.invokevirtual 105, 3) := by decide +kernel
theorem dL_law_39 : decode cL_law 39 = .ok (.iconst 5, 1) := by decide +kernel
theorem dL_law_40 : decode cL_law 40 = .ok (.if_icmp .lt 13, 3) := by decide +kernel
theorem dL_law_43 : decode cL_law 43 = .ok (.aload_n 1, 1) := by decide +kernel
theorem dL_law_44 : decode cL_law 44 = .ok (.invokevirtual 84, 3) := by decide +kernel
theorem dL_law_47 : decode cL_law 47 = .ok (.pop, 1) := by decide +kernel
theorem dL_law_48 : decode cL_law 48 = .ok (.aload_n 1, 1) := by decide +kernel
theorem dL_law_49 : decode cL_law 49 = .ok (.invokevirtual 84, 3) := by decide +kernel
theorem dL_law_52 : decode cL_law 52 = .ok (.pop, 1) := by decide +kernel
theorem dL_law_53 : decode cL_law 53 = .ok (.aload_n 1, 1) := by decide +kernel
theorem dL_law_54 : decode cL_law 54 = .ok (.invokevirtual 105, 3) := by decide +kernel
theorem dL_law_57 : decode cL_law 57 = .ok (.istore 5, 2) := by decide +kernel
theorem dL_law_59 : decode cL_law 59 = .ok (.aload_n 1, 1) := by decide +kernel
theorem dL_law_60 : decode cL_law 60 = .ok (.invokestatic 77, 3) := by decide +kernel
theorem dL_law_63 : decode cL_law 63 = .ok (.lstore 6, 2) := by decide +kernel
theorem dL_law_65 : decode cL_law 65 = .ok (.aload_n 1, 1) := by decide +kernel
theorem dL_law_66 : decode cL_law 66 = .ok (.iload_n 3, 1) := by decide +kernel
theorem dL_law_67 : decode cL_law 67 = .ok (.iload 4, 2) := by decide +kernel
theorem dL_law_69 : decode cL_law 69 = .ok (.invokestatic 108, 3) := by decide +kernel
theorem dL_law_72 : decode cL_law 72 = .ok (.istore 8, 2) := by decide +kernel
theorem dL_law_74 : decode cL_law 74 = .ok (.aload_n 1, 1) := by decide +kernel
theorem dL_law_75 : decode cL_law 75 = .ok (.invokestatic 77, 3) := by decide +kernel
theorem dL_law_78 : decode cL_law 78 = .ok (.lstore 9, 2) := by decide +kernel
theorem dL_law_80 : decode cL_law 80 = .ok (.iload 8, 2) := by decide +kernel
theorem dL_law_82 : decode cL_law 82 = .ok (.bipush (-9), 2) := by decide +kernel
theorem dL_law_84 : decode cL_law 84 = .ok (.if_icmp .ne 23, 3) := by decide +kernel
theorem dL_law_87 : decode cL_law 87 = .ok (.lload 9, 2) := by decide +kernel
theorem dL_law_89 : decode cL_law 89 = .ok (.lload 6, 2) := by decide +kernel
theorem dL_law_91 : decode cL_law 91 = .ok (.lcmp, 1) := by decide +kernel
theorem dL_law_92 : decode cL_law 92 = .ok (.ifCond .ne 26, 3) := by decide +kernel
theorem dL_law_95 : decode cL_law 95 = .ok (.aload_n 1, 1) := by decide +kernel
theorem dL_law_96 : decode cL_law 96 = .ok (.invokevirtual 105, 3) := by decide +kernel
theorem dL_law_99 : decode cL_law 99 = .ok (.iload 5, 2) := by decide +kernel
theorem dL_law_101 : decode cL_law 101 = .ok (.if_icmp .eq 19, 3) := by decide +kernel
theorem dL_law_104 : decode cL_law 104 = .ok (.goto 14, 3) := by decide +kernel
theorem dL_law_107 : decode cL_law 107 = .ok (.aload_n 1, 1) := by decide +kernel
theorem dL_law_108 : decode cL_law 108 = .ok (.invokevirtual 105, 3) := by decide +kernel
theorem dL_law_111 : decode cL_law 111 = .ok (.iload 5, 2) := by decide +kernel
theorem dL_law_113 : decode cL_law 113 = .ok (.iconst 1, 1) := by decide +kernel
theorem dL_law_114 : decode cL_law 114 = .ok (.iadd, 1) := by decide +kernel
theorem dL_law_115 : decode cL_law 115 = .ok (.if_icmp .eq 5, 3) := by decide +kernel
theorem dL_law_118 : decode cL_law 118 = .ok (.iconst 0, 1) := by decide +kernel
theorem dL_law_119 : decode cL_law 119 = .ok (.ireturn, 1) := by decide +kernel
theorem dL_law_120 : decode cL_law 120 = .ok (.iload 8, 2) := by decide +kernel
theorem dL_law_122 : decode cL_law 122 = .ok (.bipush (-9), 2) := by decide +kernel
theorem dL_law_124 : decode cL_law 124 = .ok (.if_icmp .eq 55, 3) := by decide +kernel
theorem dL_law_127 : decode cL_law 127 = .ok (.iload_n 3, 1) := by decide +kernel
theorem dL_law_128 : decode cL_law 128 = .ok (.bipush 10, 2) := by decide +kernel
theorem dL_law_130 : decode cL_law 130 = .ok (.ishr, 1) := by decide +kernel
theorem dL_law_131 : decode cL_law 131 = .ok (.iconst 1, 1) := by decide +kernel
theorem dL_law_132 : decode cL_law 132 = .ok (.iand, 1) := by decide +kernel
theorem dL_law_133 : decode cL_law 133 = .ok (.ifCond .ne 46, 3) := by decide +kernel
theorem dL_law_136 : decode cL_law 136 = .ok (.aload_n 1, 1) := by decide +kernel
theorem dL_law_137 : decode cL_law 137 = .ok (.invokevirtual 84, 3) := by decide +kernel
theorem dL_law_140 : decode cL_law 140 = .ok (.iload 5, 2) := by decide +kernel
theorem dL_law_142 : decode cL_law 142 = .ok (.if_icmp .ne 35, 3) := by decide +kernel
theorem dL_law_145 : decode cL_law 145 = .ok (.aload_n 1, 1) := by decide +kernel
theorem dL_law_146 : decode cL_law 146 = .ok (.invokestatic 77, 3) := by decide +kernel
theorem dL_law_149 : decode cL_law 149 = .ok (.lload 6, 2) := by decide +kernel
theorem dL_law_151 : decode cL_law 151 = .ok (.lcmp, 1) := by decide +kernel
theorem dL_law_152 : decode cL_law 152 = .ok (.ifCond .ne 25, 3) := by decide +kernel
theorem dL_law_155 : decode cL_law 155 = .ok (.aload_n 1, 1) := by decide +kernel
theorem dL_law_156 : decode cL_law 156 = .ok (.iload_n 3, 1) := by decide +kernel
theorem dL_law_157 : decode cL_law 157 = .ok (.iload 4, 2) := by decide +kernel
theorem dL_law_159 : decode cL_law 159 = .ok (.invokestatic 108, 3) := by decide +kernel
theorem dL_law_162 : decode cL_law 162 = .ok (.iload 8, 2) := by decide +kernel
theorem dL_law_164 : decode cL_law 164 = .ok (.if_icmp .ne 13, 3) := by decide +kernel
theorem dL_law_167 : decode cL_law 167 = .ok (.aload_n 1, 1) := by decide +kernel
theorem dL_law_168 : decode cL_law 168 = .ok (.invokestatic 77, 3) := by decide +kernel
theorem dL_law_171 : decode cL_law 171 = .ok (.lload 9, 2) := by decide +kernel
theorem dL_law_173 : decode cL_law 173 = .ok (.lcmp, 1) := by decide +kernel
theorem dL_law_174 : decode cL_law 174 = .ok (.ifCond .eq 5, 3) := by decide +kernel
theorem dL_law_177 : decode cL_law 177 = .ok (.iconst 0, 1) := by decide +kernel
theorem dL_law_178 : decode cL_law 178 = .ok (.ireturn, 1) := by decide +kernel
theorem dL_law_179 : decode cL_law 179 = .ok (.iload_n 2, 1) := by decide +kernel
theorem dL_law_180 : decode cL_law 180 = .ok (.iconst 3, 1) := by decide +kernel
theorem dL_law_181 : decode cL_law 181 = .ok (.irem, 1) := by decide +kernel
theorem dL_law_182 : decode cL_law 182 = .ok (.ifCond .ne 10, 3) := by decide +kernel
theorem dL_law_185 : decode cL_law 185 = .ok (.aload_n 1, 1) := by decide +kernel
theorem dL_law_186 : decode cL_law 186 = .ok (.invokestatic 112, 3) := by decide +kernel
theorem dL_law_189 : decode cL_law 189 = .ok (.ifCond .eq 45, 3) := by decide +kernel
theorem dL_law_192 : decode cL_law 192 = .ok (.aload_n 1, 1) := by decide +kernel
theorem dL_law_193 : decode cL_law 193 = .ok (.iload 4, 2) := by decide +kernel
theorem dL_law_195 : decode cL_law 195 = .ok (.iconst 2, 1) := by decide +kernel
theorem dL_law_196 : decode cL_law 196 = .ok (.ishr, 1) := by decide +kernel
theorem dL_law_197 : decode cL_law 197 = .ok (.bipush 6, 2) := by decide +kernel
theorem dL_law_199 : decode cL_law 199 = .ok (.invokestatic 37, 3) := by decide +kernel
theorem dL_law_202 : decode cL_law 202 = .ok (.invokestatic 116, 3) := by decide +kernel
theorem dL_law_205 : decode cL_law 205 = .ok (.ifCond .eq 29, 3) := by decide +kernel
theorem dL_law_208 : decode cL_law 208 = .ok (.aload_n 1, 1) := by decide +kernel
theorem dL_law_209 : decode cL_law 209 = .ok (.iload 4, 2) := by decide +kernel
theorem dL_law_211 : decode cL_law 211 = .ok (.iconst 5, 1) := by decide +kernel
theorem dL_law_212 : decode cL_law 212 = .ok (.ishr, 1) := by decide +kernel
theorem dL_law_213 : decode cL_law 213 = .ok (.bipush 8, 2) := by decide +kernel
theorem dL_law_215 : decode cL_law 215 = .ok (.invokestatic 37, 3) := by decide +kernel
theorem dL_law_218 : decode cL_law 218 = .ok (.iload 4, 2) := by decide +kernel
theorem dL_law_220 : decode cL_law 220 = .ok (.bipush 8, 2) := by decide +kernel
theorem dL_law_222 : decode cL_law 222 = .ok (.ishr, 1) := by decide +kernel
theorem dL_law_223 : decode cL_law 223 = .ok (.bipush 6, 2) := by decide +kernel
theorem dL_law_225 : decode cL_law 225 = .ok (.invokestatic 37, 3) := by decide +kernel
theorem dL_law_228 : decode cL_law 228 = .ok (.invokestatic 120, 3) := by decide +kernel
theorem dL_law_231 : decode cL_law 231 = .ok (.ifCond .ne 5, 3) := by decide +kernel
theorem dL_law_234 : decode cL_law 234 = .ok (.iconst 0, 1) := by decide +kernel
theorem dL_law_235 : decode cL_law 235 = .ok (.ireturn, 1) := by decide +kernel
theorem dL_law_236 : decode cL_law 236 = .ok (.iinc 2 1, 3) := by decide +kernel
theorem dL_law_239 : decode cL_law 239 = .ok (.goto (-229), 3) := by decide +kernel
theorem dL_law_242 : decode cL_law 242 = .ok (.iconst 1, 1) := by decide +kernel
theorem dL_law_243 : decode cL_law 243 = .ok (.ireturn, 1) := by decide +kernel
end
section
/-! states of the class and of the reference, their cells, contracts and rows -/
abbrev kG : Type := va_G × ClassId × ClassId × ClassId × ClassId
/-- a hall's cells -/
abbrev wH (g : kG) (a : Nat → Nat) (h : HSt) : va_W := [(a 0, .inr (1, [.ref (a 1), .ref (a 2), .ref (a 3), .int (hop h), .int (hqk h), .int (hf1 h), .int (hf2 h), .int (hfd h), .int (hpt h), .int (has h), .int (hmn h), .int (hsn h)])), (a 1, .inl (g.2.1, 48, .inl (hL h))), (a 2, .inl (g.2.1, 48, .inl (hR h))), (a 3, .inl (g.2.1, 6, .inl (hC h)))]
/-- the buffer's cells: its signs, its length -/
abbrev wT (g : kG) (a : Nat → Nat) (t : TSt) : va_W := [(a 0, .inr (0, [.ref (a 1), .int (tln t)])), (a 1, .inl (g.2.2.1, 60, .inl (tsg t)))]
/-- n halls -/
def wHs (g : kG) (ak : Nat → Nat → Nat) (hs : Nat → HSt) : Nat → va_W
  | 0 => []
  | n + 1 => wH g (ak n) (hs n) ++ wHs g ak hs n
/-- the ring of halls: oldest, size -/
abbrev wK0 (g : kG) (a : Nat → Nat) (ak : Nat → Nat → Nat) (k : KSt) : va_W := [(a 0, .inr (2, [.ref (a 1), .int (kod k), .int (ksz k)])), (a 1, .inl (g.2.2.2.1, 6, .inr (.inr (.inr (.inr (fun i => some (ak i 0)))))))]
/-- the usher's own cell -/
abbrev wU (u h k t : Nat) : va_W := [(u, .inr (3, [.ref h, .ref k, .ref t]))]
def tyS (g : kG) : List (ClassId × FieldType) := [(g.2.1, .int), (g.2.2.1, .char), (g.2.2.2.1, .object RX1)]
def nk0 : Cond := .methodLinkNest RX1 67 yX3_placeOf RX3
def nk1 : Cond := .methodLinkNest RX2 24 yX1_init RX3
def nk2 : Cond := .methodLinkNest RX3 11 yX1_init RX3
def nk3 : Cond := .methodLinkNest RX3 25 yX0_init RX3
/-- what is known of the tables -/
def kE (g : kG) (U : State) : Prop := va_K g.1 vwCl (tyS g) U ∧ (va_Nw nk0 U ∧ va_Nw nk1 U ∧ va_Nw nk2 U ∧ va_Nw nk3 U) ∧ va_AO RX1 U
theorem kE.same {g : kG} {u U : State} (hv : u.vm = U.vm) (h : kE g u) : kE g U := ⟨va_K.moved (by rw [hv]; exact Vm.Alike.refl _) h.1, ⟨va_Nw.same rfl hv h.2.1.1, va_Nw.same rfl hv h.2.1.2.1, va_Nw.same rfl hv h.2.1.2.2.1, va_Nw.same rfl hv h.2.1.2.2.2⟩, va_AO.moved (by rw [hv]; exact Vm.Alike.refl _) h.2.2⟩
theorem kE.warm {g : kG} {s U : State} (hW : s.WarmedH U.vm) (h : kE g s) : kE g U := ⟨va_K.moved hW.alike h.1, ⟨va_Nw.warmM hW h.2.1.1, va_Nw.warmM hW h.2.1.2.1, va_Nw.warmM hW h.2.1.2.2.1, va_Nw.warmM hW h.2.1.2.2.2⟩, va_AO.moved hW.alike h.2.2⟩
def kPre (g : kG) (av : List Value) (w0 : va_W) (sz : Nat) : Array Value → State → Prop := va_Pc av (fun U => U.heap.size = sz ∧ va_P g.1 vwCl w0 U.heap ∧ va_D (fun _ => True) w0 ∧ kE g U)
theorem kPre.blind {g : kG} {av : List Value} {w0 : va_W} {sz : Nat} : FrameBlind (kPre g av w0 sz) := fun _ U _ _ q => ⟨q.1, q.2.1, q.2.2.1, q.2.2.2.1, kE.same (u := U) rfl q.2.2.2.2⟩
def kW (g : kG) (w1 : va_W) (A : Nat → Prop) (t : State) : Prop := va_P g.1 vwCl w1 t.heap ∧ va_D A w1
def kQi (g : kG) (r : Int32) (w1 : va_W) (A : Nat → Prop) : Array Value → State → Outcome → State → Prop := va_Qi (fun (x : Int32) (_ : Unit) => x = r) (fun _ t => kW g w1 A t) A
def kQl (g : kG) (r : Int64) (w1 : va_W) (A : Nat → Prop) : Array Value → State → Outcome → State → Prop := va_Ql (fun (x : Int64) (_ : Unit) => x = r) (fun _ t => kW g w1 A t) A
def kQd (g : kG) (r : UInt64) (w1 : va_W) (A : Nat → Prop) : Array Value → State → Outcome → State → Prop := va_Qd (fun (x : UInt64) (_ : Unit) => x = r) (fun _ t => kW g w1 A t) A
def kQv (g : kG) (w1 : va_W) (A : Nat → Prop) : Array Value → State → Outcome → State → Prop := va_Qv (fun (_ : Unit) => True) (fun _ t => kW g w1 A t) A
def kQn {S : Type} (g : kG) (ok : S → Prop) (w1 : S → va_W) (A : Nat → Prop) : Array Value → State → Outcome → State → Prop := va_Qv ok (fun u t => kW g (w1 u) A t) A
/-- contracts: from the cells w0, with the values av, comes the answer r and the cells w1 -/
def KI (l : Launch) (y : MethodName) (ws : List Cond) (rm : Room) (g : kG) (av : List Value) (w0 : va_W) (r : Int32) (w1 : va_W) (mc mz : Nat) : Prop := ∀ sz, Met l y ws rm (kPre g av w0 sz) (kQi g r w1 (va_A w0 sz)) mc mz (va_A w0 sz)
def KL (l : Launch) (y : MethodName) (ws : List Cond) (rm : Room) (g : kG) (av : List Value) (w0 : va_W) (r : Int64) (w1 : va_W) (mc mz : Nat) : Prop := ∀ sz, Met l y ws rm (kPre g av w0 sz) (kQl g r w1 (va_A w0 sz)) mc mz (va_A w0 sz)
def KD (l : Launch) (y : MethodName) (ws : List Cond) (rm : Room) (g : kG) (av : List Value) (w0 : va_W) (r : UInt64) (w1 : va_W) (mc mz : Nat) : Prop := ∀ sz, Met l y ws rm (kPre g av w0 sz) (kQd g r w1 (va_A w0 sz)) mc mz (va_A w0 sz)
def KV (l : Launch) (y : MethodName) (ws : List Cond) (rm : Room) (g : kG) (av : List Value) (w0 : va_W) (w1 : va_W) (mc mz : Nat) : Prop := ∀ sz, Met l y ws rm (kPre g av w0 sz) (kQv g w1 (va_A w0 sz)) mc mz (va_A w0 sz)
def KN (l : Launch) (y : MethodName) (ws : List Cond) (rm : Room) (g : kG) (av : List Value) (w0 : va_W) {S : Type} (ok : S → Prop) (w1 : S → va_W) (mc mz : Nat) : Prop := ∀ sz, Met l y ws rm (kPre g av w0 sz) (kQn g ok w1 (va_A w0 sz)) mc mz (va_A w0 sz)
/-- a method's entry -/
theorem k_begin {l : Launch} {y : MethodName} {ws ws' : List Cond} {rm : Room} {g : kG} {av : List Value} {w0 : va_W} {Qc : (Nat → Prop) → Array Value → State → Outcome → State → Prop} {mc mz : Nat} {cc : ByteArray} {maxL : Nat} {ret : Option FieldType} (hy : plainName y.cls = true) (hw : ws = Cond.code y cc maxL ret :: ws') (hlen : (lg_sl av).length ≤ maxL)
    (body : ∀ (p : Program) (e : Env) (s : State) (m : MethodId) (below : List Frame) (meth : Method) (c : Code) (A : Nat → Prop) (ls : Array Slot), CallFix p m c cc maxL s av.toArray ws y.cls → meth.sig.returnType = ret → meth.locks = false → meth.name = y.name → kE g s → va_P g.1 vwCl w0 s.heap → va_D A w0 → va_S A s.heap s.heap [] → (∀ q : Nat, s.heap.size ≤ q → A q) → lv_has ls maxL (lv_args 0 av) →
      W p l e rm s m av.toArray below meth c s.heap [] 0 0 (MQ below (Qc A) av.toArray s mc mz A) (F0 m 0 ls [])) : ∀ sz, Met l y ws rm (kPre g av w0 sz) (Qc (va_A w0 sz)) mc mz (va_A w0 sz) := by
  intro sz
  refine Met.ofW (cc := cc) (maxL := maxL) (ret := ret) hy hw ?_
  intro p e s m args below meth c s₁ B hml hv
  obtain ⟨rfl, hsz, hP, hD0, hE⟩ := hv
  subst hsz
  have hl := lv_entry av (n := maxL) hlen
  rw [lg_entry_eq]
  exact body p e s m below meth c (va_A w0 s.heap.size) _ ⟨B.exec, B.bytes, hml, findClass_of_methodNamed B.named, atoms_spec (ws := ws) B.pre⟩ B.returns B.notSynchronized (name_of_methodNamed B.named B.method).1 hE hP hD0.self va_S.rf (fun q h => Or.inr h) hl
theorem k_P_mem {D : va_G} {cl : List vw_C} {ws : va_W} {H : Heap} : va_P D cl ws H ↔ ∀ q ∈ ws, va_at D cl q H :=
  ⟨fun h q hq => by obtain ⟨k, hk⟩ := List.mem_iff_getElem?.mp hq; exact h k q hk, fun h k q hk => h q (List.mem_of_getElem? hk)⟩
theorem k_P_perm {D : va_G} {cl : List vw_C} {ws w2 : va_W} {H : Heap} (hp : ws.Perm w2) (h : va_P D cl ws H) : va_P D cl w2 H := k_P_mem.mpr fun q hq => k_P_mem.mp h q (hp.mem_iff.mpr hq)
theorem k_P_app {D : va_G} {cl : List vw_C} {w1 w2 : va_W} {H : Heap} : va_P D cl (w1 ++ w2) H ↔ va_P D cl w1 H ∧ va_P D cl w2 H := by
  simp only [k_P_mem, List.mem_append]
  exact ⟨fun h => ⟨fun q hq => h q (Or.inl hq), fun q hq => h q (Or.inr hq)⟩, fun h q hq => hq.elim (h.1 q) (h.2 q)⟩
theorem k_D_iff {A : Nat → Prop} {ws : va_W} : va_D A ws ↔ (ws.map (fun q => q.1)).Nodup ∧ ∀ q ∈ ws, A q.1 := by
  constructor
  · intro h
    refine ⟨?_, fun q hq => ?_⟩
    · refine List.pairwise_iff_getElem.mpr fun i j hi hj hij he => ?_
      rw [List.length_map] at hi hj
      rw [List.getElem_map, List.getElem_map] at he
      have := h.1 i j _ _ (List.getElem?_eq_getElem hi) (List.getElem?_eq_getElem hj) he
      omega
    · obtain ⟨k, hk⟩ := List.mem_iff_getElem?.mp hq
      exact h.2 k q hk
  · intro h
    refine ⟨fun i j p q hp hq he => ?_, fun k q hq => h.2 q (List.mem_of_getElem? hq)⟩
    have hn := List.pairwise_iff_getElem.mp h.1
    obtain ⟨hi, hi2⟩ := List.getElem?_eq_some_iff.mp hp
    obtain ⟨hj, hj2⟩ := List.getElem?_eq_some_iff.mp hq
    rcases Nat.lt_trichotomy i j with hij | hij | hij
    · exact absurd (by rw [List.getElem_map, List.getElem_map, hi2, hj2]; exact he) (hn i j (by rw [List.length_map]; exact hi) (by rw [List.length_map]; exact hj) hij)
    · exact hij
    · exact absurd (by rw [List.getElem_map, List.getElem_map, hi2, hj2]; exact he.symm) (hn j i (by rw [List.length_map]; exact hj) (by rw [List.length_map]; exact hi) hij)
theorem k_D_perm {A : Nat → Prop} {ws w2 : va_W} (hp : ws.Perm w2) (h : va_D A ws) : va_D A w2 := by
  rw [k_D_iff] at h ⊢
  exact ⟨(hp.map _).nodup_iff.mp h.1, fun q hq => h.2 q (hp.mem_iff.mpr hq)⟩
theorem k_D_left {A : Nat → Prop} {w1 w2 : va_W} (h : va_D A (w1 ++ w2)) : va_D A w1 := by
  rw [k_D_iff] at h ⊢
  rw [List.map_append, List.nodup_append] at h
  exact ⟨h.1.1, fun q hq => h.2 q (List.mem_append_left _ hq)⟩
theorem k_A_mem {ws : va_W} {sz q : Nat} : va_A ws sz q ↔ (∃ x ∈ ws, x.1 = q) ∨ sz ≤ q := by
  constructor
  · rintro (⟨k, e, h⟩ | h)
    · exact Or.inl ⟨_, List.mem_of_getElem? h, rfl⟩
    · exact Or.inr h
  · rintro (⟨x, hx, rfl⟩ | h)
    · obtain ⟨k, hk⟩ := List.mem_iff_getElem?.mp hx
      exact Or.inl ⟨k, x.2, hk⟩
    · exact Or.inr h
/-- behind a call: the callee's cells and the rest, which is unchanged -/
theorem k_pall (w : va_W) : w.Perm (w ++ []) := by rw [List.append_nil]
theorem k_join {A : Nat → Prop} {D : va_G} {cl : List vw_C} {ws w0 wr w1 ws1 : va_W} {H0 H H1 : Heap} {locs : List Loc} (hP : va_P D cl ws H) (hD : va_D A ws) (hS : va_S A H0 H locs) (hA : ∀ q : Nat, H0.size ≤ q → A q) (hp : ws.Perm (w0 ++ wr)) (hq : (w1 ++ wr).Perm ws1)
    (hk : ∀ q : Nat, q < H.size → ¬ va_A w0 H.size q → H1[q]? = H[q]?) (hP1 : va_P D cl w1 H1) (hD1 : va_D (va_A w0 H.size) w1) : va_P D cl ws1 H1 ∧ va_D A ws1 := by
  have hP2 := k_P_perm hp hP
  have hD2 := k_D_perm hp hD
  have hPr := (k_P_app.mp hP2).2
  have hlt : ∀ q ∈ wr, q.1 < H.size := fun q hq => (k_P_mem.mp hPr q hq).lt
  have hD2' := k_D_iff.mp hD2
  rw [List.map_append, List.nodup_append] at hD2'
  have hnot : ∀ q ∈ wr, ¬ va_A w0 H.size q.1 := by
    intro q hq hz
    rcases k_A_mem.mp hz with ⟨x, hx, he⟩ | h
    · exact hD2'.1.2.2 _ (List.mem_map_of_mem hx) _ (List.mem_map_of_mem hq) he
    · exact absurd (hlt q hq) (Nat.not_lt.mpr h)
  refine ⟨k_P_perm hq (k_P_app.mpr ⟨hP1, k_P_mem.mpr fun q hq => (k_P_mem.mp hPr q hq).kept (hk q.1 (hlt q hq) (hnot q hq))⟩), k_D_perm hq ?_⟩
  rw [k_D_iff, List.map_append, List.nodup_append]
  have hD1' := k_D_iff.mp hD1
  refine ⟨⟨hD1'.1, hD2'.1.2.1, ?_⟩, fun q hq => ?_⟩
  · intro a ha b hb he
    obtain ⟨x, hx, rfl⟩ := List.mem_map.mp ha
    obtain ⟨z, hz, rfl⟩ := List.mem_map.mp hb
    exact hnot z hz (he ▸ hD1'.2 x hx)
  · rcases List.mem_append.mp hq with h | h
    · rcases k_A_mem.mp (hD1'.2 q h) with ⟨x, hx, he⟩ | h2
      · rw [← he]; exact hD2'.2 x (List.mem_append_left _ hx)
      · exact hA _ (Nat.le_trans hS.1 h2)
    · exact hD2'.2 q (List.mem_append_right _ h)
theorem k_free {A : Nat → Prop} {ws w0 wr : va_W} {H0 H : Heap} {locs : List Loc} (hD : va_D A ws) (hS : va_S A H0 H locs) (hA : ∀ q : Nat, H0.size ≤ q → A q) (hp : ws.Perm (w0 ++ wr)) : ∀ q, va_A w0 H.size q → A q := by
  intro q hq
  rcases k_A_mem.mp hq with ⟨x, hx, he⟩ | h
  · rw [← he]; exact (k_D_iff.mp (k_D_perm hp hD)).2 x (List.mem_append_left _ hx)
  · exact hA _ (Nat.le_trans hS.1 h)
theorem k_at_ext {D : va_G} {cl : List vw_C} {q n : Nat} {cA : ClassId} {f f2 : Nat → Int32} {H : Heap} (hf : ∀ k, k < n → f k = f2 k) (h : va_at D cl (q, .inl (cA, n, .inl f)) H) : va_at D cl (q, .inl (cA, n, .inl f2)) H := by
  have e : arrV cA n (fun j => .int (f j)) = arrV cA n (fun j => .int (f2 j)) := by
    have h9 : (fun j : Fin n => (fun j => Value.int (f j)) j.val) = (fun j : Fin n => (fun j => Value.int (f2 j)) j.val) := funext fun j => congrArg Value.int (hf j.val j.isLt)
    exact congrArg (fun z => ({ cls := cA, slots := Array.ofFn z, vm := .none } : Cell)) h9
  show H[q]? = some (arrV cA n (fun j => .int (f2 j)))
  rw [← e]
  exact h
section KR
variable {p : Program} {l : Launch} {e : Env} {R : Room} {s : State} {m : MethodId} {args : Array Value} {below : List Frame} {meth : Method} {c : Code} {H : Heap} {locs : List Loc} {cells slots : Nat} {Q : State → Prop}
variable {cc : ByteArray} {pc : Nat} {ls : Array Slot} {rest st0 : List Value} {g : kG} {A : Nat → Prop} {a : Nat} {ws wr w0 w1 ws1 : va_W}
theorem k_top {x y : Int32} (h : x = y) (k : W p l e R s m args below meth c H locs cells slots Q (F0 m pc ls (.int y :: rest))) : W p l e R s m args below meth c H locs cells slots Q (F0 m pc ls (.int x :: rest)) := by rw [h]; exact k
theorem k_topl {x y : Int64} (h : x = y) (k : W p l e R s m args below meth c H locs cells slots Q (F0 m pc ls (.long y :: rest))) : W p l e R s m args below meth c H locs cells slots Q (F0 m pc ls (.long x :: rest)) := by rw [h]; exact k
theorem k_meet {x : Value} {pj : Nat} (f : W p l e R s m args below meth c H locs cells slots Q (F0 m pj ls (x :: rest)) → W p l e R s m args below meth c H locs cells slots Q (F0 m pc ls st0)) (k : W p l e R s m args below meth c H locs cells slots Q (F0 m pj ls (x :: rest))) : W p l e R s m args below meth c H locs cells slots Q (F0 m pc ls st0) := f k
theorem k_ifeqB {P : Prop} [Decidable P] (hx : p.tables.exec = Jvm.exec) (hb : c.code = cc) {off : Int} {tgt : Nat} (hdg : decode cc pc = .ok (.ifCond .eq off, 3)) (ht : (pc : Int) + off = (tgt : Int)) (kt : ¬ P → W p l e R s m args below meth c H locs cells slots Q (F0 m tgt ls rest)) (kf : P → W p l e R s m args below meth c H locs cells slots Q (F0 m (pc + 3) ls rest)) : W p l e R s m args below meth c H locs cells slots Q (F0 m pc ls (.int (bI P) :: rest)) :=
  lv_if_eq hx hb hdg ht (fun h => kt (bI_eq.mp h)) (fun h => kf (bI_ne.mp h))
theorem k_ifneB {P : Prop} [Decidable P] (hx : p.tables.exec = Jvm.exec) (hb : c.code = cc) {off : Int} {tgt : Nat} (hdg : decode cc pc = .ok (.ifCond .ne off, 3)) (ht : (pc : Int) + off = (tgt : Int)) (kt : P → W p l e R s m args below meth c H locs cells slots Q (F0 m tgt ls rest)) (kf : ¬ P → W p l e R s m args below meth c H locs cells slots Q (F0 m (pc + 3) ls rest)) : W p l e R s m args below meth c H locs cells slots Q (F0 m pc ls (.int (bI P) :: rest)) :=
  lv_if_ne hx hb hdg ht (fun h => kt (bI_ne.mp h)) (fun h => kf (bI_eq.mp h))
theorem k_geN (hx : p.tables.exec = Jvm.exec) (hb : c.code = cc) {x y : Nat} (bx : x < 2 ^ 31) (by_ : y < 2 ^ 31) {off : Int} {tgt : Nat} (hdg : decode cc pc = .ok (.if_icmp .ge off, 3)) (ht : (pc : Int) + off = (tgt : Int)) (kt : y ≤ x → W p l e R s m args below meth c H locs cells slots Q (F0 m tgt ls rest)) (kf : x < y → W p l e R s m args below meth c H locs cells slots Q (F0 m (pc + 3) ls rest)) : W p l e R s m args below meth c H locs cells slots Q (F0 m pc ls (.int (nI y) :: .int (nI x) :: rest)) :=
  lv_icmp_ge hx hb hdg ht (fun h => kt ((nI_leI by_ bx).mp h)) (fun h => kf (Nat.lt_of_not_le fun z => h ((nI_leI by_ bx).mpr z)))
theorem k_ltN (hx : p.tables.exec = Jvm.exec) (hb : c.code = cc) {x y : Nat} (bx : x < 2 ^ 31) (by_ : y < 2 ^ 31) {off : Int} {tgt : Nat} (hdg : decode cc pc = .ok (.if_icmp .lt off, 3)) (ht : (pc : Int) + off = (tgt : Int)) (kt : x < y → W p l e R s m args below meth c H locs cells slots Q (F0 m tgt ls rest)) (kf : y ≤ x → W p l e R s m args below meth c H locs cells slots Q (F0 m (pc + 3) ls rest)) : W p l e R s m args below meth c H locs cells slots Q (F0 m pc ls (.int (nI y) :: .int (nI x) :: rest)) :=
  lv_icmp_lt hx hb hdg ht (fun h => kt ((nI_ltI bx by_).mp h)) (fun h => kf (Nat.le_of_not_lt fun z => h ((nI_ltI bx by_).mpr z)))
theorem k_gtN (hx : p.tables.exec = Jvm.exec) (hb : c.code = cc) {x y : Nat} (bx : x < 2 ^ 31) (by_ : y < 2 ^ 31) {off : Int} {tgt : Nat} (hdg : decode cc pc = .ok (.if_icmp .gt off, 3)) (ht : (pc : Int) + off = (tgt : Int)) (kt : y < x → W p l e R s m args below meth c H locs cells slots Q (F0 m tgt ls rest)) (kf : x ≤ y → W p l e R s m args below meth c H locs cells slots Q (F0 m (pc + 3) ls rest)) : W p l e R s m args below meth c H locs cells slots Q (F0 m pc ls (.int (nI y) :: .int (nI x) :: rest)) :=
  lv_icmp_gt hx hb hdg ht (fun h => kt ((nI_ltI by_ bx).mp h)) (fun h => kf (Nat.le_of_not_lt fun z => h ((nI_ltI by_ bx).mpr z)))
theorem k_leN (hx : p.tables.exec = Jvm.exec) (hb : c.code = cc) {x y : Nat} (bx : x < 2 ^ 31) (by_ : y < 2 ^ 31) {off : Int} {tgt : Nat} (hdg : decode cc pc = .ok (.if_icmp .le off, 3)) (ht : (pc : Int) + off = (tgt : Int)) (kt : x ≤ y → W p l e R s m args below meth c H locs cells slots Q (F0 m tgt ls rest)) (kf : y < x → W p l e R s m args below meth c H locs cells slots Q (F0 m (pc + 3) ls rest)) : W p l e R s m args below meth c H locs cells slots Q (F0 m pc ls (.int (nI y) :: .int (nI x) :: rest)) :=
  lv_icmp_le hx hb hdg ht (fun h => kt ((nI_leI bx by_).mp h)) (fun h => kf (Nat.lt_of_not_le fun z => h ((nI_leI bx by_).mpr z)))
theorem k_eqN (hx : p.tables.exec = Jvm.exec) (hb : c.code = cc) {x y : Nat} (bx : x < 2 ^ 31) (by_ : y < 2 ^ 31) {off : Int} {tgt : Nat} (hdg : decode cc pc = .ok (.if_icmp .eq off, 3)) (ht : (pc : Int) + off = (tgt : Int)) (kt : x = y → W p l e R s m args below meth c H locs cells slots Q (F0 m tgt ls rest)) (kf : ¬ x = y → W p l e R s m args below meth c H locs cells slots Q (F0 m (pc + 3) ls rest)) : W p l e R s m args below meth c H locs cells slots Q (F0 m pc ls (.int (nI y) :: .int (nI x) :: rest)) :=
  lv_icmp_eq hx hb hdg ht (fun h => kt ((nI_eq bx by_).mp h)) (fun h => kf (fun z => h ((nI_eq bx by_).mpr z)))
theorem k_neN (hx : p.tables.exec = Jvm.exec) (hb : c.code = cc) {x y : Nat} (bx : x < 2 ^ 31) (by_ : y < 2 ^ 31) {off : Int} {tgt : Nat} (hdg : decode cc pc = .ok (.if_icmp .ne off, 3)) (ht : (pc : Int) + off = (tgt : Int)) (kt : ¬ x = y → W p l e R s m args below meth c H locs cells slots Q (F0 m tgt ls rest)) (kf : x = y → W p l e R s m args below meth c H locs cells slots Q (F0 m (pc + 3) ls rest)) : W p l e R s m args below meth c H locs cells slots Q (F0 m pc ls (.int (nI y) :: .int (nI x) :: rest)) :=
  lv_icmp_ne hx hb hdg ht (fun h => kt (fun z => h ((nI_eq bx by_).mpr z))) (fun h => kf ((nI_eq bx by_).mp h))
theorem k_if0 (hx : p.tables.exec = Jvm.exec) (hb : c.code = cc) {x : Nat} (bx : x < 2 ^ 31) {off : Int} {tgt : Nat} (hdg : decode cc pc = .ok (.ifCond .eq off, 3)) (ht : (pc : Int) + off = (tgt : Int)) (kt : x = 0 → W p l e R s m args below meth c H locs cells slots Q (F0 m tgt ls rest)) (kf : ¬ x = 0 → W p l e R s m args below meth c H locs cells slots Q (F0 m (pc + 3) ls rest)) : W p l e R s m args below meth c H locs cells slots Q (F0 m pc ls (.int (nI x) :: rest)) :=
  lv_if_eq hx hb hdg ht (fun h => kt ((nI_eq bx (by decide)).mp (h.trans nI_0.symm))) (fun h => kf (fun z => h (by rw [z]; exact nI_0)))
theorem k_ifn0 (hx : p.tables.exec = Jvm.exec) (hb : c.code = cc) {x : Nat} (bx : x < 2 ^ 31) {off : Int} {tgt : Nat} (hdg : decode cc pc = .ok (.ifCond .ne off, 3)) (ht : (pc : Int) + off = (tgt : Int)) (kt : ¬ x = 0 → W p l e R s m args below meth c H locs cells slots Q (F0 m tgt ls rest)) (kf : x = 0 → W p l e R s m args below meth c H locs cells slots Q (F0 m (pc + 3) ls rest)) : W p l e R s m args below meth c H locs cells slots Q (F0 m pc ls (.int (nI x) :: rest)) :=
  lv_if_ne hx hb hdg ht (fun h => kt (fun z => h (by rw [z]; exact nI_0))) (fun h => kf ((nI_eq bx (by decide)).mp (h.trans nI_0.symm)))
theorem k_iald (hexec : p.tables.exec = Jvm.exec) (hb : c.code = cc) (hE : kE g s) (hP : va_P g.1 vwCl ws H) (q0 : Nat) {n : Nat} {f : Nat → Int32} (ha : ws[q0]? = some (a, .inl (g.2.1, n, .inl f))) {i : Int32} (k : Nat) (hi : i = nI k) (hk : k < n) (hn : n < 2 ^ 31) (hdg : decode cc pc = .ok (.iaload, 1)) (kk : W p l e R s m args below meth c H locs cells slots Q (F0 m (pc + 1) ls (.int (f k) :: rest))) : W p l e R s m args below meth c H locs cells slots Q (F0 m pc ls (.int i :: .ref a :: rest)) := by
  subst hi
  refine va_iald hexec hb hE.1 hP q0 0 ha rfl (vp_in_nI hk hn) hdg ?_
  rw [nI_clamp (Nat.lt_trans hk hn)]
  exact kk
theorem k_cald (hexec : p.tables.exec = Jvm.exec) (hb : c.code = cc) (hE : kE g s) (hP : va_P g.1 vwCl ws H) (q0 : Nat) {n : Nat} {f : Nat → Int32} (ha : ws[q0]? = some (a, .inl (g.2.2.1, n, .inl f))) {i : Int32} (k : Nat) (hi : i = nI k) (hk : k < n) (hn : n < 2 ^ 31) (hdg : decode cc pc = .ok (.caload, 1)) (kk : W p l e R s m args below meth c H locs cells slots Q (F0 m (pc + 1) ls (.int (f k) :: rest))) : W p l e R s m args below meth c H locs cells slots Q (F0 m pc ls (.int i :: .ref a :: rest)) := by
  subst hi
  refine va_cald hexec hb hE.1 hP q0 1 ha rfl (vp_in_nI hk hn) hdg ?_
  rw [nI_clamp (Nat.lt_trans hk hn)]
  exact kk
theorem k_aald (hexec : p.tables.exec = Jvm.exec) (hb : c.code = cc) (hE : kE g s) (hP : va_P g.1 vwCl ws H) (q0 : Nat) {n : Nat} {f : Nat → Nat} (ha : ws[q0]? = some (a, .inl (g.2.2.2.1, n, .inr (.inr (.inr (.inr (fun i => some (f i)))))))) {i : Int32} (k : Nat) (hi : i = nI k) (hk : k < n) (hn : n < 2 ^ 31) (hdg : decode cc pc = .ok (.aaload, 1)) (kk : W p l e R s m args below meth c H locs cells slots Q (F0 m (pc + 1) ls (.ref (f k) :: rest))) : W p l e R s m args below meth c H locs cells slots Q (F0 m pc ls (.int i :: .ref a :: rest)) := by
  subst hi
  refine va_aldq hexec hb hE.1 hP q0 2 ha rfl (vp_in_nI hk hn) hdg ?_
  rw [nI_clamp (Nat.lt_trans hk hn)]
  exact kk
/-- a loop that counts up to N -/
theorem k_loop {N : Nat} {Inv : Nat → Heap → List Loc → Array Slot → Prop} (i0 : Nat) (h0 : i0 ≤ N) (hs : Inv i0 H locs ls)
    (step : ∀ i : Nat, i ≤ N → (∀ (H : Heap) (locs : List Loc) (ls : Array Slot), i < N → Inv (i + 1) H locs ls → W p l e R s m args below meth c H locs cells slots Q (F0 m pc ls st0)) → ∀ (H : Heap) (locs : List Loc) (ls : Array Slot), Inv i H locs ls → W p l e R s m args below meth c H locs cells slots Q (F0 m pc ls st0)) :
    W p l e R s m args below meth c H locs cells slots Q (F0 m pc ls st0) := by
  have K : ∀ (n i : Nat), i + n = N → ∀ (H : Heap) (locs : List Loc) (ls : Array Slot), Inv i H locs ls → W p l e R s m args below meth c H locs cells slots Q (F0 m pc ls st0) := by
    intro n
    induction n with
    | zero => exact fun i hi H locs ls h => step i (by omega) (fun _ _ _ hlt => absurd hlt (by omega)) H locs ls h
    | succ n ih => exact fun i hi H locs ls h => step i (by omega) (fun H1 locs1 ls1 _ h1 => ih (i + 1) (by omega) H1 locs1 ls1 h1) H locs ls h
  exact K (N - i0) i0 (by omega) H locs ls hs
theorem k_iast (hexec : p.tables.exec = Jvm.exec) (hb : c.code = cc) (hE : kE g s) (hP : va_P g.1 vwCl ws H) (hD : va_D A ws) (hS : va_S A s.heap H locs) (q0 : Nat) {n : Nat} {f : Nat → Int32} (ha : ws[q0]? = some (a, .inl (g.2.1, n, .inl f))) {i x : Int32} (k : Nat) (hi : i = nI k) (hk : k < n) (hn : n < 2 ^ 31) (hw : ws.set q0 (a, .inl (g.2.1, n, .inl (upd f k x))) = ws1) (hdg : decode cc pc = .ok (.iastore, 1)) (kk : ∀ (H1 : Heap) (locs1 : List Loc), va_P g.1 vwCl ws1 H1 → va_D A ws1 → va_S A s.heap H1 locs1 → W p l e R s m args below meth c H1 locs1 cells slots Q (F0 m (pc + 1) ls rest)) : W p l e R s m args below meth c H locs cells slots Q (F0 m pc ls (.int x :: .int i :: .ref a :: rest)) := by
  subst hi
  refine va_iast hexec hb hE.1 hP hD hS q0 0 ha rfl (vp_in_nI hk hn) hdg ?_
  rw [nI_clamp (Nat.lt_trans hk hn), hw]
  exact kk
theorem k_cast (hexec : p.tables.exec = Jvm.exec) (hb : c.code = cc) (hE : kE g s) (hP : va_P g.1 vwCl ws H) (hD : va_D A ws) (hS : va_S A s.heap H locs) (q0 : Nat) {n : Nat} {f : Nat → Int32} (ha : ws[q0]? = some (a, .inl (g.2.2.1, n, .inl f))) {i x : Int32} (k : Nat) (hi : i = nI k) (hk : k < n) (hn : n < 2 ^ 31) (hx : vp_nar .char x = x) (hw : ws.set q0 (a, .inl (g.2.2.1, n, .inl (upd f k x))) = ws1) (hdg : decode cc pc = .ok (.castore, 1)) (kk : ∀ (H1 : Heap) (locs1 : List Loc), va_P g.1 vwCl ws1 H1 → va_D A ws1 → va_S A s.heap H1 locs1 → W p l e R s m args below meth c H1 locs1 cells slots Q (F0 m (pc + 1) ls rest)) : W p l e R s m args below meth c H locs cells slots Q (F0 m pc ls (.int x :: .int i :: .ref a :: rest)) := by
  subst hi
  refine va_cast hexec hb hE.1 hP hD hS q0 1 ha rfl (vp_in_nI hk hn) hdg ?_
  rw [nI_clamp (Nat.lt_trans hk hn), hx, hw]
  exact kk
theorem k_iret {av : Array Value} {r v : Int32} {mc mz : Nat} (hx : p.tables.exec = Jvm.exec) (hb : c.code = cc) {ty : FieldType} (hr : meth.sig.returnType = some ty) (hlocks : meth.locks = false) (hn : narrow ty (.int v) = .int v) (hv : v = r) (hP : va_P g.1 vwCl w1 H) (hD : va_D A w1) (hS : va_S A s.heap H locs) (hc : cells ≤ mc) (hs : slots ≤ mz) (hdg : decode cc pc = .ok (.ireturn, 1)) : W p l e R s m av below meth c H locs cells slots (MQ below (kQi g r w1 A) av s mc mz A) (F0 m pc ls [.int v]) := by
  refine W.widen hc hs ?_
  refine W.zret hx hb hr hn (fun t ht hW => ⟨⟨v, (), rfl, hv, by rw [ht]; exact hP, hD⟩, hS.F ht⟩) hS.2.2 hdg hlocks
theorem k_lret {av : Array Value} {r v : Int64} {mc mz : Nat} (hx : p.tables.exec = Jvm.exec) (hb : c.code = cc) (hr : meth.sig.returnType = some .long) (hlocks : meth.locks = false) (hv : v = r) (hP : va_P g.1 vwCl w1 H) (hD : va_D A w1) (hS : va_S A s.heap H locs) (hc : cells ≤ mc) (hs : slots ≤ mz) (hdg : decode cc pc = .ok (.lreturn, 1)) : W p l e R s m av below meth c H locs cells slots (MQ below (kQl g r w1 A) av s mc mz A) (F0 m pc ls [.long v]) := by
  refine W.widen hc hs ?_
  refine W.lret hx hb hr (fun t ht hW => ⟨⟨v, (), rfl, hv, by rw [ht]; exact hP, hD⟩, hS.F ht⟩) hS.2.2 hdg hlocks
theorem k_dret {av : Array Value} {r v : UInt64} {mc mz : Nat} (hx : p.tables.exec = Jvm.exec) (hb : c.code = cc) (hr : meth.sig.returnType = some .double) (hlocks : meth.locks = false) (hv : v = r) (hP : va_P g.1 vwCl w1 H) (hD : va_D A w1) (hS : va_S A s.heap H locs) (hc : cells ≤ mc) (hs : slots ≤ mz) (hdg : decode cc pc = .ok (.dreturn, 1)) : W p l e R s m av below meth c H locs cells slots (MQ below (kQd g r w1 A) av s mc mz A) (F0 m pc ls [.double v]) := by
  refine W.widen hc hs ?_
  refine W.dret hx hb hr (fun t ht hW => ⟨⟨v, (), rfl, hv, by rw [ht]; exact hP, hD⟩, hS.F ht⟩) hS.2.2 hdg hlocks
theorem k_vret {av : Array Value} {mc mz : Nat} (hx : p.tables.exec = Jvm.exec) (hb : c.code = cc) (hr : meth.sig.returnType = none) (hlocks : meth.locks = false) (hP : va_P g.1 vwCl w1 H) (hD : va_D A w1) (hS : va_S A s.heap H locs) (hc : cells ≤ mc) (hs : slots ≤ mz) (hdg : decode cc pc = .ok (.return_, 1)) : W p l e R s m av below meth c H locs cells slots (MQ below (kQv g w1 A) av s mc mz A) (F0 m pc ls []) := by
  refine W.widen hc hs ?_
  refine W.vret hx hb hr (fun t ht hW => ⟨⟨(), rfl, trivial, by rw [ht]; exact hP, hD⟩, hS.F ht⟩) hS.2.2 hdg hlocks
theorem k_nret {av : Array Value} {S : Type} {ok : S → Prop} {w1 : S → va_W} (u : S) {mc mz : Nat} (hx : p.tables.exec = Jvm.exec) (hb : c.code = cc) (hr : meth.sig.returnType = none) (hlocks : meth.locks = false) (hok : ok u) (hP : va_P g.1 vwCl (w1 u) H) (hD : va_D A (w1 u)) (hS : va_S A s.heap H locs) (hc : cells ≤ mc) (hs : slots ≤ mz) (hdg : decode cc pc = .ok (.return_, 1)) : W p l e R s m av below meth c H locs cells slots (MQ below (kQn g ok w1 A) av s mc mz A) (F0 m pc ls []) := by
  refine W.widen hc hs ?_
  refine W.vret hx hb hr (fun t ht hW => ⟨⟨u, rfl, hok, by rw [ht]; exact hP, hD⟩, hS.F ht⟩) hS.2.2 hdg hlocks
/-- the start of a callee -/
theorem k_pre {av : List Value} {U : State} (hE : kE g s) (hP : va_P g.1 vwCl ws H) (hD : va_D A ws) (hp : ws.Perm (w0 ++ wr)) (hU : U.heap = H) (hW : s.WarmedH U.vm) : kPre g av w0 H.size av.toArray U :=
  ⟨rfl, by rw [hU], by rw [hU]; exact (k_P_app.mp (k_P_perm hp hP)).1, (k_D_left (k_D_perm hp hD)).weaken (fun _ _ _ _ => trivial), kE.warm hW hE⟩
theorem k_Vi {own C : String} {y : MethodName} {bytes : ByteArray} {maxL nL mc mz n index b : Nat} {ret : Option FieldType} {wsy Ts : List Cond} {rm : Room} {As : List Value} {r : Int32} (S : CallFix p m c cc nL s args Ts own) (hM : KI l y wsy rm g (Value.ref b :: As) w0 r w1 mc mz) (cw : CallW R s args own C index y bytes maxL ret wsy rm mc mz n) (hE : kE g s) (hP : va_P g.1 vwCl ws H) (hD : va_D A ws) (hS : va_S A s.heap H locs) (hA : ∀ q : Nat, s.heap.size ≤ q → A q) (hp : ws.Perm (w0 ++ wr)) (hq : (w1 ++ wr).Perm ws1) (q0 : Nat) {ci : Nat} {fs : List Value} {q : vw_C} (he : ws[q0]? = some (b, .inr (ci, fs))) (hc : vwCl[ci]? = some q) (hC : q.1 = C) (hn : As.length = n) (hls : ls.size = nL) (hst : st0 = As.reverse ++ .ref b :: rest) (hW : (rest.map fun v => v.category).sum ≤ 8) (hdg : decode cc pc = .ok (.invokevirtual index, 3)) (hf : cells + mc ≤ R.cells ∧ slots + mz ≤ R.slots) (kk : ∀ (H1 : Heap) (locs1 : List Loc), va_P g.1 vwCl ws1 H1 → va_D A ws1 → va_S A s.heap H1 locs1 → W p l e R s m args below meth c H1 locs1 (cells + mc) (slots + mz) Q (F0 m (pc + 3) ls (.int r :: rest))) : W p l e R s m args below meth c H locs cells slots Q (F0 m pc ls st0) := by
  subst hst
  have hrc := va_recv hE.1 hP hc he
  rw [hC] at hrc
  refine va_calli (va_runV (As := As) (rest := rest) S (hM H.size) cw ⟨kPre.blind, hrc, fun U hU hW => k_pre hE hP hD hp hU hW⟩ rfl hn hls rfl (lv_room hW) hdg hf) hS (fun q _ h => k_free hD hS hA hp q h) (k_free hD hS hA hp) (fun r' u t H1 locs1 ht hvm hw hB hz1 hk1 hS1 => ?_)
  subst hw
  obtain ⟨hP1, hD1⟩ := hB
  rw [ht] at hP1
  have hj := k_join hP hD hS hA hp hq hk1 hP1 hD1
  exact kk H1 locs1 hj.1 hj.2 hS1
theorem k_Vl {own C : String} {y : MethodName} {bytes : ByteArray} {maxL nL mc mz n index b : Nat} {ret : Option FieldType} {wsy Ts : List Cond} {rm : Room} {As : List Value} {r : Int64} (S : CallFix p m c cc nL s args Ts own) (hM : KL l y wsy rm g (Value.ref b :: As) w0 r w1 mc mz) (cw : CallW R s args own C index y bytes maxL ret wsy rm mc mz n) (hE : kE g s) (hP : va_P g.1 vwCl ws H) (hD : va_D A ws) (hS : va_S A s.heap H locs) (hA : ∀ q : Nat, s.heap.size ≤ q → A q) (hp : ws.Perm (w0 ++ wr)) (hq : (w1 ++ wr).Perm ws1) (q0 : Nat) {ci : Nat} {fs : List Value} {q : vw_C} (he : ws[q0]? = some (b, .inr (ci, fs))) (hc : vwCl[ci]? = some q) (hC : q.1 = C) (hn : As.length = n) (hls : ls.size = nL) (hst : st0 = As.reverse ++ .ref b :: rest) (hW : (rest.map fun v => v.category).sum ≤ 8) (hdg : decode cc pc = .ok (.invokevirtual index, 3)) (hf : cells + mc ≤ R.cells ∧ slots + mz ≤ R.slots) (kk : ∀ (H1 : Heap) (locs1 : List Loc), va_P g.1 vwCl ws1 H1 → va_D A ws1 → va_S A s.heap H1 locs1 → W p l e R s m args below meth c H1 locs1 (cells + mc) (slots + mz) Q (F0 m (pc + 3) ls (.long r :: rest))) : W p l e R s m args below meth c H locs cells slots Q (F0 m pc ls st0) := by
  subst hst
  have hrc := va_recv hE.1 hP hc he
  rw [hC] at hrc
  refine va_calll (va_runV (As := As) (rest := rest) S (hM H.size) cw ⟨kPre.blind, hrc, fun U hU hW => k_pre hE hP hD hp hU hW⟩ rfl hn hls rfl (lv_room hW) hdg hf) hS (fun q _ h => k_free hD hS hA hp q h) (k_free hD hS hA hp) (fun r' u t H1 locs1 ht hvm hw hB hz1 hk1 hS1 => ?_)
  subst hw
  obtain ⟨hP1, hD1⟩ := hB
  rw [ht] at hP1
  have hj := k_join hP hD hS hA hp hq hk1 hP1 hD1
  exact kk H1 locs1 hj.1 hj.2 hS1
theorem k_Vd {own C : String} {y : MethodName} {bytes : ByteArray} {maxL nL mc mz n index b : Nat} {ret : Option FieldType} {wsy Ts : List Cond} {rm : Room} {As : List Value} {r : UInt64} (S : CallFix p m c cc nL s args Ts own) (hM : KD l y wsy rm g (Value.ref b :: As) w0 r w1 mc mz) (cw : CallW R s args own C index y bytes maxL ret wsy rm mc mz n) (hE : kE g s) (hP : va_P g.1 vwCl ws H) (hD : va_D A ws) (hS : va_S A s.heap H locs) (hA : ∀ q : Nat, s.heap.size ≤ q → A q) (hp : ws.Perm (w0 ++ wr)) (hq : (w1 ++ wr).Perm ws1) (q0 : Nat) {ci : Nat} {fs : List Value} {q : vw_C} (he : ws[q0]? = some (b, .inr (ci, fs))) (hc : vwCl[ci]? = some q) (hC : q.1 = C) (hn : As.length = n) (hls : ls.size = nL) (hst : st0 = As.reverse ++ .ref b :: rest) (hW : (rest.map fun v => v.category).sum ≤ 8) (hdg : decode cc pc = .ok (.invokevirtual index, 3)) (hf : cells + mc ≤ R.cells ∧ slots + mz ≤ R.slots) (kk : ∀ (H1 : Heap) (locs1 : List Loc), va_P g.1 vwCl ws1 H1 → va_D A ws1 → va_S A s.heap H1 locs1 → W p l e R s m args below meth c H1 locs1 (cells + mc) (slots + mz) Q (F0 m (pc + 3) ls (.double r :: rest))) : W p l e R s m args below meth c H locs cells slots Q (F0 m pc ls st0) := by
  subst hst
  have hrc := va_recv hE.1 hP hc he
  rw [hC] at hrc
  refine va_calld (va_runV (As := As) (rest := rest) S (hM H.size) cw ⟨kPre.blind, hrc, fun U hU hW => k_pre hE hP hD hp hU hW⟩ rfl hn hls rfl (lv_room hW) hdg hf) hS (fun q _ h => k_free hD hS hA hp q h) (k_free hD hS hA hp) (fun r' u t H1 locs1 ht hvm hw hB hz1 hk1 hS1 => ?_)
  subst hw
  obtain ⟨hP1, hD1⟩ := hB
  rw [ht] at hP1
  have hj := k_join hP hD hS hA hp hq hk1 hP1 hD1
  exact kk H1 locs1 hj.1 hj.2 hS1
theorem k_Vv {own C : String} {y : MethodName} {bytes : ByteArray} {maxL nL mc mz n index b : Nat} {ret : Option FieldType} {wsy Ts : List Cond} {rm : Room} {As : List Value} (S : CallFix p m c cc nL s args Ts own) (hM : KV l y wsy rm g (Value.ref b :: As) w0 w1 mc mz) (cw : CallW R s args own C index y bytes maxL ret wsy rm mc mz n) (hE : kE g s) (hP : va_P g.1 vwCl ws H) (hD : va_D A ws) (hS : va_S A s.heap H locs) (hA : ∀ q : Nat, s.heap.size ≤ q → A q) (hp : ws.Perm (w0 ++ wr)) (hq : (w1 ++ wr).Perm ws1) (q0 : Nat) {ci : Nat} {fs : List Value} {q : vw_C} (he : ws[q0]? = some (b, .inr (ci, fs))) (hc : vwCl[ci]? = some q) (hC : q.1 = C) (hn : As.length = n) (hls : ls.size = nL) (hst : st0 = As.reverse ++ .ref b :: rest) (hW : (rest.map fun v => v.category).sum ≤ 8) (hdg : decode cc pc = .ok (.invokevirtual index, 3)) (hf : cells + mc ≤ R.cells ∧ slots + mz ≤ R.slots) (kk : ∀ (H1 : Heap) (locs1 : List Loc), va_P g.1 vwCl ws1 H1 → va_D A ws1 → va_S A s.heap H1 locs1 → W p l e R s m args below meth c H1 locs1 (cells + mc) (slots + mz) Q (F0 m (pc + 3) ls (rest))) : W p l e R s m args below meth c H locs cells slots Q (F0 m pc ls st0) := by
  subst hst
  have hrc := va_recv hE.1 hP hc he
  rw [hC] at hrc
  refine va_callv (va_runV (As := As) (rest := rest) S (hM H.size) cw ⟨kPre.blind, hrc, fun U hU hW => k_pre hE hP hD hp hU hW⟩ rfl hn hls rfl (lv_room hW) hdg hf) hS (fun q _ h => k_free hD hS hA hp q h) (k_free hD hS hA hp) (fun u t H1 locs1 ht hvm hw hB hz1 hk1 hS1 => ?_)
  obtain ⟨hP1, hD1⟩ := hB
  rw [ht] at hP1
  have hj := k_join hP hD hS hA hp hq hk1 hP1 hD1
  exact kk H1 locs1 hj.1 hj.2 hS1
theorem k_Si {own : String} {y : MethodName} {bytes : ByteArray} {maxL nL mc mz n index : Nat} {ret : Option FieldType} {wsy Ts : List Cond} {rm : Room} {As : List Value} {r : Int32} (S : CallFix p m c cc nL s args Ts own) (hM : KI l y wsy rm g As w0 r w1 mc mz) (cw : CallB R s args own index y bytes maxL ret wsy rm mc mz n ∧ (Cond.static y).before args s = true) (hE : kE g s) (hP : va_P g.1 vwCl ws H) (hD : va_D A ws) (hS : va_S A s.heap H locs) (hA : ∀ q : Nat, s.heap.size ≤ q → A q) (hp : ws.Perm (w0 ++ wr)) (hq : (w1 ++ wr).Perm ws1) (hn : As.length = n) (hls : ls.size = nL) (hst : st0 = As.reverse ++ rest) (hW : (rest.map fun v => v.category).sum ≤ 8) (hdg : decode cc pc = .ok (.invokestatic index, 3)) (hf : cells + mc ≤ R.cells ∧ slots + mz ≤ R.slots) (kk : ∀ (H1 : Heap) (locs1 : List Loc), va_P g.1 vwCl ws1 H1 → va_D A ws1 → va_S A s.heap H1 locs1 → W p l e R s m args below meth c H1 locs1 (cells + mc) (slots + mz) Q (F0 m (pc + 3) ls (.int r :: rest))) : W p l e R s m args below meth c H locs cells slots Q (F0 m pc ls st0) := by
  subst hst
  refine va_calli (va_runS (As := As) (rest := rest) S (hM H.size) cw ⟨kPre.blind, fun U hU hW => k_pre hE hP hD hp hU hW⟩ rfl hn hls rfl (lv_room hW) hdg hf) hS (fun q _ h => k_free hD hS hA hp q h) (k_free hD hS hA hp) (fun r' u t H1 locs1 ht hvm hw hB hz1 hk1 hS1 => ?_)
  subst hw
  obtain ⟨hP1, hD1⟩ := hB
  rw [ht] at hP1
  have hj := k_join hP hD hS hA hp hq hk1 hP1 hD1
  exact kk H1 locs1 hj.1 hj.2 hS1
theorem k_Sl {own : String} {y : MethodName} {bytes : ByteArray} {maxL nL mc mz n index : Nat} {ret : Option FieldType} {wsy Ts : List Cond} {rm : Room} {As : List Value} {r : Int64} (S : CallFix p m c cc nL s args Ts own) (hM : KL l y wsy rm g As w0 r w1 mc mz) (cw : CallB R s args own index y bytes maxL ret wsy rm mc mz n ∧ (Cond.static y).before args s = true) (hE : kE g s) (hP : va_P g.1 vwCl ws H) (hD : va_D A ws) (hS : va_S A s.heap H locs) (hA : ∀ q : Nat, s.heap.size ≤ q → A q) (hp : ws.Perm (w0 ++ wr)) (hq : (w1 ++ wr).Perm ws1) (hn : As.length = n) (hls : ls.size = nL) (hst : st0 = As.reverse ++ rest) (hW : (rest.map fun v => v.category).sum ≤ 8) (hdg : decode cc pc = .ok (.invokestatic index, 3)) (hf : cells + mc ≤ R.cells ∧ slots + mz ≤ R.slots) (kk : ∀ (H1 : Heap) (locs1 : List Loc), va_P g.1 vwCl ws1 H1 → va_D A ws1 → va_S A s.heap H1 locs1 → W p l e R s m args below meth c H1 locs1 (cells + mc) (slots + mz) Q (F0 m (pc + 3) ls (.long r :: rest))) : W p l e R s m args below meth c H locs cells slots Q (F0 m pc ls st0) := by
  subst hst
  refine va_calll (va_runS (As := As) (rest := rest) S (hM H.size) cw ⟨kPre.blind, fun U hU hW => k_pre hE hP hD hp hU hW⟩ rfl hn hls rfl (lv_room hW) hdg hf) hS (fun q _ h => k_free hD hS hA hp q h) (k_free hD hS hA hp) (fun r' u t H1 locs1 ht hvm hw hB hz1 hk1 hS1 => ?_)
  subst hw
  obtain ⟨hP1, hD1⟩ := hB
  rw [ht] at hP1
  have hj := k_join hP hD hS hA hp hq hk1 hP1 hD1
  exact kk H1 locs1 hj.1 hj.2 hS1
theorem k_Sd {own : String} {y : MethodName} {bytes : ByteArray} {maxL nL mc mz n index : Nat} {ret : Option FieldType} {wsy Ts : List Cond} {rm : Room} {As : List Value} {r : UInt64} (S : CallFix p m c cc nL s args Ts own) (hM : KD l y wsy rm g As w0 r w1 mc mz) (cw : CallB R s args own index y bytes maxL ret wsy rm mc mz n ∧ (Cond.static y).before args s = true) (hE : kE g s) (hP : va_P g.1 vwCl ws H) (hD : va_D A ws) (hS : va_S A s.heap H locs) (hA : ∀ q : Nat, s.heap.size ≤ q → A q) (hp : ws.Perm (w0 ++ wr)) (hq : (w1 ++ wr).Perm ws1) (hn : As.length = n) (hls : ls.size = nL) (hst : st0 = As.reverse ++ rest) (hW : (rest.map fun v => v.category).sum ≤ 8) (hdg : decode cc pc = .ok (.invokestatic index, 3)) (hf : cells + mc ≤ R.cells ∧ slots + mz ≤ R.slots) (kk : ∀ (H1 : Heap) (locs1 : List Loc), va_P g.1 vwCl ws1 H1 → va_D A ws1 → va_S A s.heap H1 locs1 → W p l e R s m args below meth c H1 locs1 (cells + mc) (slots + mz) Q (F0 m (pc + 3) ls (.double r :: rest))) : W p l e R s m args below meth c H locs cells slots Q (F0 m pc ls st0) := by
  subst hst
  refine va_calld (va_runS (As := As) (rest := rest) S (hM H.size) cw ⟨kPre.blind, fun U hU hW => k_pre hE hP hD hp hU hW⟩ rfl hn hls rfl (lv_room hW) hdg hf) hS (fun q _ h => k_free hD hS hA hp q h) (k_free hD hS hA hp) (fun r' u t H1 locs1 ht hvm hw hB hz1 hk1 hS1 => ?_)
  subst hw
  obtain ⟨hP1, hD1⟩ := hB
  rw [ht] at hP1
  have hj := k_join hP hD hS hA hp hq hk1 hP1 hD1
  exact kk H1 locs1 hj.1 hj.2 hS1
theorem k_Sv {own : String} {y : MethodName} {bytes : ByteArray} {maxL nL mc mz n index : Nat} {ret : Option FieldType} {wsy Ts : List Cond} {rm : Room} {As : List Value} (S : CallFix p m c cc nL s args Ts own) (hM : KV l y wsy rm g As w0 w1 mc mz) (cw : CallB R s args own index y bytes maxL ret wsy rm mc mz n ∧ (Cond.static y).before args s = true) (hE : kE g s) (hP : va_P g.1 vwCl ws H) (hD : va_D A ws) (hS : va_S A s.heap H locs) (hA : ∀ q : Nat, s.heap.size ≤ q → A q) (hp : ws.Perm (w0 ++ wr)) (hq : (w1 ++ wr).Perm ws1) (hn : As.length = n) (hls : ls.size = nL) (hst : st0 = As.reverse ++ rest) (hW : (rest.map fun v => v.category).sum ≤ 8) (hdg : decode cc pc = .ok (.invokestatic index, 3)) (hf : cells + mc ≤ R.cells ∧ slots + mz ≤ R.slots) (kk : ∀ (H1 : Heap) (locs1 : List Loc), va_P g.1 vwCl ws1 H1 → va_D A ws1 → va_S A s.heap H1 locs1 → W p l e R s m args below meth c H1 locs1 (cells + mc) (slots + mz) Q (F0 m (pc + 3) ls (rest))) : W p l e R s m args below meth c H locs cells slots Q (F0 m pc ls st0) := by
  subst hst
  refine va_callv (va_runS (As := As) (rest := rest) S (hM H.size) cw ⟨kPre.blind, fun U hU hW => k_pre hE hP hD hp hU hW⟩ rfl hn hls rfl (lv_room hW) hdg hf) hS (fun q _ h => k_free hD hS hA hp q h) (k_free hD hS hA hp) (fun u t H1 locs1 ht hvm hw hB hz1 hk1 hS1 => ?_)
  obtain ⟨hP1, hD1⟩ := hB
  rw [ht] at hP1
  have hj := k_join hP hD hS hA hp hq hk1 hP1 hD1
  exact kk H1 locs1 hj.1 hj.2 hS1
theorem k_SNi {own host : String} {y : MethodName} {bytes : ByteArray} {maxL nL mc mz n index : Nat} {ret : Option FieldType} {wsy Ts : List Cond} {rm : Room} {As : List Value} {r : Int32} (S : CallFix p m c cc nL s args Ts own) (hM : KI l y wsy rm g As w0 r w1 mc mz) (cw : va_CN R s args own index y host bytes maxL ret wsy rm mc mz n ∧ (Cond.static y).before args s = true ∧ True) (hE : kE g s) (hP : va_P g.1 vwCl ws H) (hD : va_D A ws) (hS : va_S A s.heap H locs) (hA : ∀ q : Nat, s.heap.size ≤ q → A q) (hp : ws.Perm (w0 ++ wr)) (hq : (w1 ++ wr).Perm ws1) (hn : As.length = n) (hls : ls.size = nL) (hst : st0 = As.reverse ++ rest) (hW : (rest.map fun v => v.category).sum ≤ 8) (hdg : decode cc pc = .ok (.invokestatic index, 3)) (hf : cells + mc ≤ R.cells ∧ slots + mz ≤ R.slots) (kk : ∀ (H1 : Heap) (locs1 : List Loc), va_P g.1 vwCl ws1 H1 → va_D A ws1 → va_S A s.heap H1 locs1 → W p l e R s m args below meth c H1 locs1 (cells + mc) (slots + mz) Q (F0 m (pc + 3) ls (.int r :: rest))) : W p l e R s m args below meth c H locs cells slots Q (F0 m pc ls st0) := by
  subst hst
  refine va_calli (va_runSN (As := As) (rest := rest) S (hM H.size) cw ⟨kPre.blind, fun U hU hW => k_pre hE hP hD hp hU hW⟩ rfl hn hls rfl (lv_room hW) hdg hf) hS (fun q _ h => k_free hD hS hA hp q h) (k_free hD hS hA hp) (fun r' u t H1 locs1 ht hvm hw hB hz1 hk1 hS1 => ?_)
  subst hw
  obtain ⟨hP1, hD1⟩ := hB
  rw [ht] at hP1
  have hj := k_join hP hD hS hA hp hq hk1 hP1 hD1
  exact kk H1 locs1 hj.1 hj.2 hS1
theorem k_In {own : String} {y : MethodName} {bytes : ByteArray} {maxL nL mc mz n index b : Nat} {wsy Ts : List Cond} {rm : Room} {As : List Value} {S0 : Type} {ok : S0 → Prop} {w1 ws1 : S0 → va_W} (S : CallFix p m c cc nL s args Ts own) (hM : KN l y wsy rm g (Value.ref b :: As) w0 ok w1 mc mz) (cw : CallB R s args own index y bytes maxL none wsy rm mc mz n ∧ y.name = "<init>" ∧ (Cond.instanceMethod y).before args s = true) (hE : kE g s) (hP : va_P g.1 vwCl ws H) (hD : va_D A ws) (hS : va_S A s.heap H locs) (hA : ∀ q : Nat, s.heap.size ≤ q → A q) (hp : ws.Perm (w0 ++ wr)) (hq : ∀ u, (w1 u ++ wr).Perm (ws1 u)) (hn : As.length = n) (hls : ls.size = nL) (hst : st0 = As.reverse ++ .ref b :: rest) (hW : (rest.map fun v => v.category).sum ≤ 8) (hdg : decode cc pc = .ok (.invokespecial index, 3)) (hf : cells + mc ≤ R.cells ∧ slots + mz ≤ R.slots) (kk : ∀ (u : S0) (H1 : Heap) (locs1 : List Loc), ok u → va_P g.1 vwCl (ws1 u) H1 → va_D A (ws1 u) → va_S A s.heap H1 locs1 → W p l e R s m args below meth c H1 locs1 (cells + mc) (slots + mz) Q (F0 m (pc + 3) ls (rest))) : W p l e R s m args below meth c H locs cells slots Q (F0 m pc ls st0) := by
  subst hst
  refine va_callv (va_runI (As := As) (rest := rest) S (hM H.size) cw ⟨kPre.blind, fun U hU hW => k_pre hE hP hD hp hU hW⟩ rfl hn hls rfl (lv_room hW) hdg hf) hS (fun q _ h => k_free hD hS hA hp q h) (k_free hD hS hA hp) (fun u t H1 locs1 ht hvm hw hB hz1 hk1 hS1 => ?_)
  obtain ⟨hP1, hD1⟩ := hB
  rw [ht] at hP1
  have hj := k_join hP hD hS hA hp (hq u) hk1 hP1 hD1
  exact kk u H1 locs1 hw hj.1 hj.2 hS1
theorem k_INn {own host : String} {y : MethodName} {bytes : ByteArray} {maxL nL mc mz n index b : Nat} {wsy Ts : List Cond} {rm : Room} {As : List Value} {S0 : Type} {ok : S0 → Prop} {w1 ws1 : S0 → va_W} (S : CallFix p m c cc nL s args Ts own) (hM : KN l y wsy rm g (Value.ref b :: As) w0 ok w1 mc mz) (cw : va_CN R s args own index y host bytes maxL none wsy rm mc mz n ∧ y.name = "<init>" ∧ (Cond.instanceMethod y).before args s = true) (hE : kE g s) (hP : va_P g.1 vwCl ws H) (hD : va_D A ws) (hS : va_S A s.heap H locs) (hA : ∀ q : Nat, s.heap.size ≤ q → A q) (hp : ws.Perm (w0 ++ wr)) (hq : ∀ u, (w1 u ++ wr).Perm (ws1 u)) (hn : As.length = n) (hls : ls.size = nL) (hst : st0 = As.reverse ++ .ref b :: rest) (hW : (rest.map fun v => v.category).sum ≤ 8) (hdg : decode cc pc = .ok (.invokespecial index, 3)) (hf : cells + mc ≤ R.cells ∧ slots + mz ≤ R.slots) (kk : ∀ (u : S0) (H1 : Heap) (locs1 : List Loc), ok u → va_P g.1 vwCl (ws1 u) H1 → va_D A (ws1 u) → va_S A s.heap H1 locs1 → W p l e R s m args below meth c H1 locs1 (cells + mc) (slots + mz) Q (F0 m (pc + 3) ls (rest))) : W p l e R s m args below meth c H locs cells slots Q (F0 m pc ls st0) := by
  subst hst
  refine va_callv (va_runIN (As := As) (rest := rest) S (hM H.size) cw ⟨kPre.blind, fun U hU hW => k_pre hE hP hD hp hU hW⟩ rfl hn hls rfl (lv_room hW) hdg hf) hS (fun q _ h => k_free hD hS hA hp q h) (k_free hD hS hA hp) (fun u t H1 locs1 ht hvm hw hB hz1 hk1 hS1 => ?_)
  obtain ⟨hP1, hD1⟩ := hB
  rw [ht] at hP1
  have hj := k_join hP hD hS hA hp (hq u) hk1 hP1 hD1
  exact kk u H1 locs1 hw hj.1 hj.2 hS1
end KR
end
section
/-! what the hall's methods do, as functions of its state -/
set_option maxHeartbeats 4000000 in
set_option maxRecDepth 100000 in
theorem c_J6_bitCount_0f7a4 (l : Launch) (g : kG) (x : Int32) : KI l yJ6_bitCount_0f7a4 wsJ6_bitCount_0f7a4 ({ frames := 0, cells := 0, slots := 0, locals := 0 }) g [.int x] [] (bc x) [] 0 0 := by
  refine k_begin (cc := cJ6_bitCount_0f7a4) (maxL := 1) (ret := (some .int)) (Qc := fun A => kQi g (bc x) [] A) (by decide) rfl (Nat.le_of_ble_eq_true rfl) ?_
  intro p e s m below meth c A ls hF hr hlocks hin hE hP hD hS hA hl
  obtain ⟨hx, hb, hml, hown, hts⟩ := id hF
  have hown : s.vm.findClass RJ6 = some m.cls := hown
  have hl : lv_has ls 1 [(0, .int x)] := hl
  have cst265 : (Cond.constant RJ6 265 (1431655765)).before _ s = true := hts _ (List.mem_of_getElem? (i := 1) rfl)
  have cst266 : (Cond.constant RJ6 266 (858993459)).before _ s = true := hts _ (List.mem_of_getElem? (i := 2) rfl)
  have cst267 : (Cond.constant RJ6 267 (252645135)).before _ s = true := hts _ (List.mem_of_getElem? (i := 3) rfl)
  refine lv_iload_n hx hb dJ6_bitCount_0f7a4_0 rfl (lv_at hl 0 rfl) ?_
  refine lv_iload_n hx hb dJ6_bitCount_0f7a4_1 rfl (lv_at hl 0 rfl) ?_
  refine lv_iconst (v := (nI 1)) hx hb dJ6_bitCount_0f7a4_2 (by decide) ?_
  refine lv_iushr (v := ((x).toUInt32 >>> (((nI 1)).toUInt32 &&& Int32.toUInt32 31)).toInt32) hx hb dJ6_bitCount_0f7a4_3 rfl ?_
  refine lv_ldcw hx hb hown cst265 dJ6_bitCount_0f7a4_4 ?_
  refine lv_iand hx hb dJ6_bitCount_0f7a4_7 ?_
  refine lv_isub hx hb dJ6_bitCount_0f7a4_8 ?_
  refine k_top rfl ?_
  refine lv_istore_n (lv' := [(0, .int (bc1 x))]) hx hb dJ6_bitCount_0f7a4_9 rfl hl (by decide) rfl (fun ls hl => ?_)
  refine lv_iload_n hx hb dJ6_bitCount_0f7a4_10 rfl (lv_at hl 0 rfl) ?_
  refine lv_ldcw hx hb hown cst266 dJ6_bitCount_0f7a4_11 ?_
  refine lv_iand hx hb dJ6_bitCount_0f7a4_14 ?_
  refine lv_iload_n hx hb dJ6_bitCount_0f7a4_15 rfl (lv_at hl 0 rfl) ?_
  refine lv_iconst (v := (nI 2)) hx hb dJ6_bitCount_0f7a4_16 (by decide) ?_
  refine lv_iushr (v := (((bc1 x)).toUInt32 >>> (((nI 2)).toUInt32 &&& Int32.toUInt32 31)).toInt32) hx hb dJ6_bitCount_0f7a4_17 rfl ?_
  refine lv_ldcw hx hb hown cst266 dJ6_bitCount_0f7a4_18 ?_
  refine lv_iand hx hb dJ6_bitCount_0f7a4_21 ?_
  refine lv_iadd hx hb dJ6_bitCount_0f7a4_22 ?_
  refine k_top rfl ?_
  refine lv_istore_n (lv' := [(0, .int (bc2 (bc1 x)))]) hx hb dJ6_bitCount_0f7a4_23 rfl hl (by decide) rfl (fun ls hl => ?_)
  refine lv_iload_n hx hb dJ6_bitCount_0f7a4_24 rfl (lv_at hl 0 rfl) ?_
  refine lv_iload_n hx hb dJ6_bitCount_0f7a4_25 rfl (lv_at hl 0 rfl) ?_
  refine lv_iconst (v := (nI 4)) hx hb dJ6_bitCount_0f7a4_26 (by decide) ?_
  refine lv_iushr (v := (((bc2 (bc1 x))).toUInt32 >>> (((nI 4)).toUInt32 &&& Int32.toUInt32 31)).toInt32) hx hb dJ6_bitCount_0f7a4_27 rfl ?_
  refine lv_iadd hx hb dJ6_bitCount_0f7a4_28 ?_
  refine lv_ldcw hx hb hown cst267 dJ6_bitCount_0f7a4_29 ?_
  refine lv_iand hx hb dJ6_bitCount_0f7a4_32 ?_
  refine k_top rfl ?_
  refine lv_istore_n (lv' := [(0, .int (bc3 (bc2 (bc1 x))))]) hx hb dJ6_bitCount_0f7a4_33 rfl hl (by decide) rfl (fun ls hl => ?_)
  refine lv_iload_n hx hb dJ6_bitCount_0f7a4_34 rfl (lv_at hl 0 rfl) ?_
  refine lv_iload_n hx hb dJ6_bitCount_0f7a4_35 rfl (lv_at hl 0 rfl) ?_
  refine lv_bipush (v := (nI 8)) hx hb dJ6_bitCount_0f7a4_36 (by decide) ?_
  refine lv_iushr (v := (((bc3 (bc2 (bc1 x)))).toUInt32 >>> (((nI 8)).toUInt32 &&& Int32.toUInt32 31)).toInt32) hx hb dJ6_bitCount_0f7a4_38 rfl ?_
  refine lv_iadd hx hb dJ6_bitCount_0f7a4_39 ?_
  refine k_top rfl ?_
  refine lv_istore_n (lv' := [(0, .int (bc4 (bc3 (bc2 (bc1 x)))))]) hx hb dJ6_bitCount_0f7a4_40 rfl hl (by decide) rfl (fun ls hl => ?_)
  refine lv_iload_n hx hb dJ6_bitCount_0f7a4_41 rfl (lv_at hl 0 rfl) ?_
  refine lv_iload_n hx hb dJ6_bitCount_0f7a4_42 rfl (lv_at hl 0 rfl) ?_
  refine lv_bipush (v := (nI 16)) hx hb dJ6_bitCount_0f7a4_43 (by decide) ?_
  refine lv_iushr (v := (((bc4 (bc3 (bc2 (bc1 x))))).toUInt32 >>> (((nI 16)).toUInt32 &&& Int32.toUInt32 31)).toInt32) hx hb dJ6_bitCount_0f7a4_45 rfl ?_
  refine lv_iadd hx hb dJ6_bitCount_0f7a4_46 ?_
  refine k_top rfl ?_
  refine lv_istore_n (lv' := [(0, .int (bc5 (bc4 (bc3 (bc2 (bc1 x))))))]) hx hb dJ6_bitCount_0f7a4_47 rfl hl (by decide) rfl (fun ls hl => ?_)
  refine lv_iload_n hx hb dJ6_bitCount_0f7a4_48 rfl (lv_at hl 0 rfl) ?_
  refine lv_bipush (v := (nI 63)) hx hb dJ6_bitCount_0f7a4_49 (by decide) ?_
  refine lv_iand hx hb dJ6_bitCount_0f7a4_51 ?_
  have hP : va_P g.1 vwCl [] _ := hP
  have hD : va_D A [] := hD
  exact k_iret hx hb hr hlocks rfl (by first | rfl | (simp only [bc, bc1, bc2, bc3, bc4, bc5, bI]; done) | (simp only [bc, bc1, bc2, bc3, bc4, bc5, bI]; rfl) | (simp [bc, bc1, bc2, bc3, bc4, bc5, bI]; done)) hP hD hS (Nat.le_of_ble_eq_true rfl) (Nat.le_of_ble_eq_true rfl) dJ6_bitCount_0f7a4_52
set_option maxHeartbeats 4000000 in
set_option maxRecDepth 100000 in
theorem c_X3_placeOf (l : Launch) (g : kG) (r9 c9 : Nat) : KI l yX3_placeOf wsX3_placeOf ({ frames := 0, cells := 0, slots := 0, locals := 0 }) g [.int (nI r9), .int (nI c9)] [] (nI (r9 * 6 + c9)) [] 0 0 := by
  refine k_begin (cc := cX3_placeOf) (maxL := 2) (ret := (some .int)) (Qc := fun A => kQi g (nI (r9 * 6 + c9)) [] A) (by decide) rfl (Nat.le_of_ble_eq_true rfl) ?_
  intro p e s m below meth c A ls hF hr hlocks hin hE hP hD hS hA hl
  obtain ⟨hx, hb, hml, hown, hts⟩ := id hF
  have hown : s.vm.findClass RX3 = some m.cls := hown
  have hl : lv_has ls 2 [(0, .int (nI r9)), (1, .int (nI c9))] := hl
  refine lv_iload_n hx hb dX3_placeOf_0 rfl (lv_at hl 0 rfl) ?_
  refine lv_bipush (v := (nI 6)) hx hb dX3_placeOf_1 (by decide) ?_
  refine lv_imul hx hb dX3_placeOf_3 ?_
  refine k_top (pk_mul _ _) ?_
  refine lv_iload_n hx hb dX3_placeOf_4 rfl (lv_at hl 1 rfl) ?_
  refine lv_iadd hx hb dX3_placeOf_5 ?_
  refine k_top (nI_add _ _) ?_
  have hP : va_P g.1 vwCl [] _ := hP
  have hD : va_D A [] := hD
  exact k_iret hx hb hr hlocks rfl (by first | rfl | (simp only [bI]; done) | (simp only [bI]; rfl) | (simp [bI]; done)) hP hD hS (Nat.le_of_ble_eq_true rfl) (Nat.le_of_ble_eq_true rfl) dX3_placeOf_6
set_option maxHeartbeats 4000000 in
set_option maxRecDepth 100000 in
theorem c_X1_hasRoom (l : Launch) (g : kG) (a : Nat → Nat) (h : HSt) (k : Nat) (hk : k < 48) : KI l yX1_hasRoom wsX1_hasRoom ({ frames := 0, cells := 0, slots := 0, locals := 0 }) g [.ref (a 0), .int (nI k)] (wH g a h) (bI (¬ nI 9 ≤ (hL h) k)) (wH g a h) 0 0 := by
  refine k_begin (cc := cX1_hasRoom) (maxL := 2) (ret := (some .boolean)) (Qc := fun A => kQi g (bI (¬ nI 9 ≤ (hL h) k)) (wH g a h) A) (by decide) rfl (Nat.le_of_ble_eq_true rfl) ?_
  intro p e s m below meth c A ls hF hr hlocks hin hE hP hD hS hA hl
  obtain ⟨hx, hb, hml, hown, hts⟩ := id hF
  have hown : s.vm.findClass RX1 = some m.cls := hown
  have hl : lv_has ls 2 [(0, .ref (a 0)), (1, .int (nI k))] := hl
  have hiX1 : ∀ w ∈ wsX10, w ∈ wsX1_hasRoom := fun _ h => List.mem_cons_of_mem _ (List.mem_append_right _ (h))
  have f9 : (Cond.fieldLink RX1 9 "ConcertUsher$Hall" "listeners" "[I").before _ s = true := hts _ (List.mem_of_getElem? (i := 1) rfl)
  refine lv_aload_n hx hb dX1_hasRoom_0 rfl (lv_at hl 0 rfl) ?_
  refine va_get (D := g.1) (ci := 1) (v := .ref (a 1)) (C := RX1) (T := TX1) (N := 12) hx hb hts hiX1 hown hE.1 hP 0 rfl rfl 0 (by decide) f9 (fun _ h9 => h9) rfl dX1_hasRoom_1 ?_
  refine lv_iload_n hx hb dX1_hasRoom_4 rfl (lv_at hl 1 rfl) ?_
  refine k_iald (f := (hL h)) hx hb hE hP 1 rfl k rfl (by omega) (by decide) dX1_hasRoom_5 ?_
  refine lv_bipush (v := (nI 9)) hx hb dX1_hasRoom_6 (by decide) ?_
  refine lv_icmp_ge (tgt := 15) hx hb dX1_hasRoom_8 (by decide) (fun c1 => ?_) (fun c1 => ?_)
  ·
    refine lv_iconst (v := (nI 0)) hx hb dX1_hasRoom_15 (by decide) ?_
    have hP : va_P g.1 vwCl (wH g a h) _ := hP
    have hD : va_D A (wH g a h) := hD
    exact k_iret hx hb hr hlocks rfl (by first | (simp only [bI, if_pos c1, if_neg (not_not_intro c1)]; done) | (simp only [bI, if_pos c1, if_neg (not_not_intro c1)]; rfl) | rfl | (simp [bI, if_pos c1, if_neg (not_not_intro c1)]; done)) hP hD hS (Nat.le_of_ble_eq_true rfl) (Nat.le_of_ble_eq_true rfl) dX1_hasRoom_16
  ·
    refine lv_iconst (v := (nI 1)) hx hb dX1_hasRoom_11 (by decide) ?_
    refine lv_goto (tgt := 16) hx hb dX1_hasRoom_12 (by decide) ?_
    have hP : va_P g.1 vwCl (wH g a h) _ := hP
    have hD : va_D A (wH g a h) := hD
    exact k_iret hx hb hr hlocks rfl (by first | (simp only [bI, if_neg c1, if_pos c1]; done) | (simp only [bI, if_neg c1, if_pos c1]; rfl) | rfl | (simp [bI, if_neg c1, if_pos c1]; done)) hP hD hS (Nat.le_of_ble_eq_true rfl) (Nat.le_of_ble_eq_true rfl) dX1_hasRoom_16
set_option maxHeartbeats 4000000 in
set_option maxRecDepth 100000 in
theorem c_X1_isWantedAt (l : Launch) (g : kG) (a : Nat → Nat) (h : HSt) (k : Nat) (hk : k < 48) : KI l yX1_isWantedAt wsX1_isWantedAt ({ frames := 0, cells := 0, slots := 0, locals := 0 }) g [.ref (a 0), .int (nI k)] (wH g a h) (bI (¬ (hL h) k ≤ 0)) (wH g a h) 0 0 := by
  refine k_begin (cc := cX1_isWantedAt) (maxL := 2) (ret := (some .boolean)) (Qc := fun A => kQi g (bI (¬ (hL h) k ≤ 0)) (wH g a h) A) (by decide) rfl (Nat.le_of_ble_eq_true rfl) ?_
  intro p e s m below meth c A ls hF hr hlocks hin hE hP hD hS hA hl
  obtain ⟨hx, hb, hml, hown, hts⟩ := id hF
  have hown : s.vm.findClass RX1 = some m.cls := hown
  have hl : lv_has ls 2 [(0, .ref (a 0)), (1, .int (nI k))] := hl
  have hiX1 : ∀ w ∈ wsX10, w ∈ wsX1_isWantedAt := fun _ h => List.mem_cons_of_mem _ (List.mem_append_right _ (h))
  have f9 : (Cond.fieldLink RX1 9 "ConcertUsher$Hall" "listeners" "[I").before _ s = true := hts _ (List.mem_of_getElem? (i := 1) rfl)
  refine lv_aload_n hx hb dX1_isWantedAt_0 rfl (lv_at hl 0 rfl) ?_
  refine va_get (D := g.1) (ci := 1) (v := .ref (a 1)) (C := RX1) (T := TX1) (N := 12) hx hb hts hiX1 hown hE.1 hP 0 rfl rfl 0 (by decide) f9 (fun _ h9 => h9) rfl dX1_isWantedAt_1 ?_
  refine lv_iload_n hx hb dX1_isWantedAt_4 rfl (lv_at hl 1 rfl) ?_
  refine k_iald (f := (hL h)) hx hb hE hP 1 rfl k rfl (by omega) (by decide) dX1_isWantedAt_5 ?_
  refine lv_if_le (tgt := 13) hx hb dX1_isWantedAt_6 (by decide) (fun c1 => ?_) (fun c1 => ?_)
  ·
    refine lv_iconst (v := (nI 0)) hx hb dX1_isWantedAt_13 (by decide) ?_
    have hP : va_P g.1 vwCl (wH g a h) _ := hP
    have hD : va_D A (wH g a h) := hD
    exact k_iret hx hb hr hlocks rfl (by first | (simp only [bI, if_pos c1, if_neg (not_not_intro c1)]; done) | (simp only [bI, if_pos c1, if_neg (not_not_intro c1)]; rfl) | rfl | (simp [bI, if_pos c1, if_neg (not_not_intro c1)]; done)) hP hD hS (Nat.le_of_ble_eq_true rfl) (Nat.le_of_ble_eq_true rfl) dX1_isWantedAt_14
  ·
    refine lv_iconst (v := (nI 1)) hx hb dX1_isWantedAt_9 (by decide) ?_
    refine lv_goto (tgt := 14) hx hb dX1_isWantedAt_10 (by decide) ?_
    have hP : va_P g.1 vwCl (wH g a h) _ := hP
    have hD : va_D A (wH g a h) := hD
    exact k_iret hx hb hr hlocks rfl (by first | (simp only [bI, if_neg c1, if_pos c1]; done) | (simp only [bI, if_neg c1, if_pos c1]; rfl) | rfl | (simp [bI, if_neg c1, if_pos c1]; done)) hP hD hS (Nat.le_of_ble_eq_true rfl) (Nat.le_of_ble_eq_true rfl) dX1_isWantedAt_14
set_option maxHeartbeats 4000000 in
set_option maxRecDepth 100000 in
theorem c_X1_hearCall (l : Launch) (g : kG) (a : Nat → Nat) (h : HSt) (k : Nat) (hk : k < 48) : KV l yX1_hearCall wsX1_hearCall ({ frames := 0, cells := 0, slots := 0, locals := 0 }) g [.ref (a 0), .int (nI k)] (wH g a h) (wH g a (Hhear k h)) 0 0 := by
  refine k_begin (cc := cX1_hearCall) (maxL := 2) (ret := none) (Qc := fun A => kQv g (wH g a (Hhear k h)) A) (by decide) rfl (Nat.le_of_ble_eq_true rfl) ?_
  intro p e s m below meth c A ls hF hr hlocks hin hE hP hD hS hA hl
  obtain ⟨hx, hb, hml, hown, hts⟩ := id hF
  have hown : s.vm.findClass RX1 = some m.cls := hown
  have hl : lv_has ls 2 [(0, .ref (a 0)), (1, .int (nI k))] := hl
  have hiX1 : ∀ w ∈ wsX10, w ∈ wsX1_hearCall := fun _ h => List.mem_cons_of_mem _ (List.mem_append_right _ (h))
  have f9 : (Cond.fieldLink RX1 9 "ConcertUsher$Hall" "listeners" "[I").before _ s = true := hts _ (List.mem_of_getElem? (i := 1) rfl)
  have f15 : (Cond.fieldLink RX1 15 "ConcertUsher$Hall" "rests" "[I").before _ s = true := hts _ (List.mem_of_getElem? (i := 2) rfl)
  have f35 : (Cond.fieldLink RX1 35 "ConcertUsher$Hall" "fading" "I").before _ s = true := hts _ (List.mem_of_getElem? (i := 3) rfl)
  have f18 : (Cond.fieldLink RX1 18 "ConcertUsher$Hall" "counts" "[I").before _ s = true := hts _ (List.mem_of_getElem? (i := 4) rfl)
  refine lv_aload_n hx hb dX1_hearCall_0 rfl (lv_at hl 0 rfl) ?_
  refine va_get (D := g.1) (ci := 1) (v := .ref (a 1)) (C := RX1) (T := TX1) (N := 12) hx hb hts hiX1 hown hE.1 hP 0 rfl rfl 0 (by decide) f9 (fun _ h9 => h9) rfl dX1_hearCall_1 ?_
  refine lv_iload_n hx hb dX1_hearCall_4 rfl (lv_at hl 1 rfl) ?_
  refine k_iald (f := (hL h)) hx hb hE hP 1 rfl k rfl (by omega) (by decide) dX1_hearCall_5 ?_
  refine lv_if_le (tgt := 29) hx hb dX1_hearCall_6 (by decide) (fun c1 => ?_) (fun c1 => ?_)
  ·
    have e2 : (Hhear k h) = h := (by first | (simp only [Hhear, Hcall, if_pos c1, if_neg (not_not_intro c1)]; done) | (simp only [Hhear, Hcall, if_pos c1, if_neg (not_not_intro c1)]; rfl) | rfl | (simp [Hhear, Hcall, if_pos c1, if_neg (not_not_intro c1)]; done))
    have hP : va_P g.1 vwCl (wH g a (Hhear k h)) s.heap := by rw [e2]; exact hP
    have hD : va_D A (wH g a (Hhear k h)) := by rw [e2]; exact hD
    exact k_vret hx hb hr hlocks hP hD hS (Nat.le_of_ble_eq_true rfl) (Nat.le_of_ble_eq_true rfl) dX1_hearCall_29
  ·
    refine lv_aload_n hx hb dX1_hearCall_9 rfl (lv_at hl 0 rfl) ?_
    refine va_get (D := g.1) (ci := 1) (v := .ref (a 2)) (C := RX1) (T := TX1) (N := 12) hx hb hts hiX1 hown hE.1 hP 0 rfl rfl 1 (by decide) f15 (fun _ h9 => h9) rfl dX1_hearCall_10 ?_
    refine lv_iload_n hx hb dX1_hearCall_13 rfl (lv_at hl 1 rfl) ?_
    refine lv_aload_n hx hb dX1_hearCall_14 rfl (lv_at hl 0 rfl) ?_
    refine va_get (D := g.1) (ci := 1) (v := .int (hfd h)) (C := RX1) (T := TX1) (N := 12) hx hb hts hiX1 hown hE.1 hP 0 rfl rfl 7 (by decide) f35 (fun _ h9 => h9) rfl dX1_hearCall_15 ?_
    refine k_iast (f := (hR h)) (ws1 := (wH g a (sHR h (upd (hR h) k (hfd h))))) hx hb hE hP hD hS 2 rfl k rfl (by omega) (by decide) rfl dX1_hearCall_18 (fun H locs hP hD hS => ?_)
    refine lv_aload_n hx hb dX1_hearCall_19 rfl (lv_at hl 0 rfl) ?_
    refine va_get (D := g.1) (ci := 1) (v := .ref (a 3)) (C := RX1) (T := TX1) (N := 12) hx hb hts hiX1 hown hE.1 hP 0 rfl rfl 2 (by decide) f18 (fun _ h9 => h9) rfl dX1_hearCall_20 ?_
    refine lv_iconst (v := (nI 5)) hx hb dX1_hearCall_23 (by decide) ?_
    refine lv_dup2_11 hx hb dX1_hearCall_24 rfl rfl ?_
    refine k_iald (f := (hC h)) hx hb hE hP 3 rfl 5 rfl (by decide) (by decide) dX1_hearCall_25 ?_
    refine lv_iconst (v := (nI 1)) hx hb dX1_hearCall_26 (by decide) ?_
    refine lv_iadd hx hb dX1_hearCall_27 ?_
    refine k_iast (f := (hC h)) (ws1 := (wH g a (sHC (sHR h (upd (hR h) k (hfd h))) (upd (hC h) 5 (((hC h) 5) + (nI 1)))))) hx hb hE hP hD hS 3 rfl 5 rfl (by decide) (by decide) rfl dX1_hearCall_28 (fun H locs hP hD hS => ?_)
    have e3 : (Hhear k h) = (sHC (sHR h (upd (hR h) k (hfd h))) (upd (hC h) 5 (((hC h) 5) + (nI 1)))) := (by first | (simp only [Hhear, Hcall, if_neg c1, if_pos c1]; done) | (simp only [Hhear, Hcall, if_neg c1, if_pos c1]; rfl) | rfl | (simp [Hhear, Hcall, if_neg c1, if_pos c1]; done))
    have hP : va_P g.1 vwCl (wH g a (Hhear k h)) H := by rw [e3]; exact hP
    have hD : va_D A (wH g a (Hhear k h)) := by rw [e3]; exact hD
    exact k_vret hx hb hr hlocks hP hD hS (Nat.le_of_ble_eq_true rfl) (Nat.le_of_ble_eq_true rfl) dX1_hearCall_29
set_option maxHeartbeats 4000000 in
set_option maxRecDepth 100000 in
theorem c_X1_seat (l : Launch) (g : kG) (a : Nat → Nat) (h : HSt) (k : Nat) (hk : k < 48) : KV l yX1_seat wsX1_seat ({ frames := 1, cells := 0, slots := 0, locals := 21 }) g [.ref (a 0), .int (nI k)] (wH g a h) (wH g a (Hseat k h)) 0 0 := by
  refine k_begin (cc := cX1_seat) (maxL := 2) (ret := none) (Qc := fun A => kQv g (wH g a (Hseat k h)) A) (by decide) rfl (Nat.le_of_ble_eq_true rfl) ?_
  intro p e s m below meth c A ls hF hr hlocks hin hE hP hD hS hA hl
  obtain ⟨hx, hb, hml, hown, hts⟩ := id hF
  have hown : s.vm.findClass RX1 = some m.cls := hown
  have hl : lv_has ls 2 [(0, .ref (a 0)), (1, .int (nI k))] := hl
  have hiX1 : ∀ w ∈ wsX10, w ∈ wsX1_seat := fun _ h => List.mem_cons_of_mem _ (List.mem_append_right _ (h))
  have f9 : (Cond.fieldLink RX1 9 "ConcertUsher$Hall" "listeners" "[I").before _ s = true := hts _ (List.mem_of_getElem? (i := 1) rfl)
  refine lv_aload_n hx hb dX1_seat_0 rfl (lv_at hl 0 rfl) ?_
  refine va_get (D := g.1) (ci := 1) (v := .ref (a 1)) (C := RX1) (T := TX1) (N := 12) hx hb hts hiX1 hown hE.1 hP 0 rfl rfl 0 (by decide) f9 (fun _ h9 => h9) rfl dX1_seat_1 ?_
  refine lv_iload_n hx hb dX1_seat_4 rfl (lv_at hl 1 rfl) ?_
  refine lv_dup2_11 hx hb dX1_seat_5 rfl rfl ?_
  refine k_iald (f := (hL h)) hx hb hE hP 1 rfl k rfl (by omega) (by decide) dX1_seat_6 ?_
  refine lv_iconst (v := (nI 1)) hx hb dX1_seat_7 (by decide) ?_
  refine lv_iadd hx hb dX1_seat_8 ?_
  refine k_iast (f := (hL h)) (ws1 := (wH g a (sHL h (upd (hL h) k (((hL h) k) + (nI 1)))))) hx hb hE hP hD hS 1 rfl k rfl (by omega) (by decide) rfl dX1_seat_9 (fun H locs hP hD hS => ?_)
  refine lv_aload_n hx hb dX1_seat_10 rfl (lv_at hl 0 rfl) ?_
  refine lv_iload_n hx hb dX1_seat_11 rfl (lv_at hl 1 rfl) ?_
  refine k_Vv (As := [.int (nI k)]) hF (c_X1_hearCall l g a (sHL h (upd (hL h) k (((hL h) k) + (nI 1)))) k (by omega)) (cwV 1 hts gX1_seat_X1_hearCall rfl rfl rfl (by decide +kernel) ⟨Nat.le_of_ble_eq_true rfl, Nat.le_of_ble_eq_true rfl⟩) hE hP hD hS hA (k_pall _) ((k_pall _).symm) 0 rfl rfl rfl rfl hl.1 rfl (Nat.le_of_ble_eq_true rfl) dX1_seat_12 ⟨Nat.le_of_ble_eq_true rfl, Nat.le_of_ble_eq_true rfl⟩ (fun H locs hP hD hS => ?_)
  have hP : va_P g.1 vwCl (wH g a (Hhear k (sHL h (upd (hL h) k (((hL h) k) + (nI 1)))))) _ := hP
  have hD : va_D A (wH g a (Hhear k (sHL h (upd (hL h) k (((hL h) k) + (nI 1)))))) := hD
  obtain ⟨z1, ez1⟩ : ∃ x : HSt, (Hhear k (sHL h (upd (hL h) k (((hL h) k) + (nI 1))))) = x := ⟨_, rfl⟩
  rw [ez1] at hP hD
  have e2 : (Hseat k h) = z1 := (by subst ez1; first | rfl | (simp only [Hseat]; done) | (simp only [Hseat]; rfl) | (simp [Hseat]; done))
  have hP : va_P g.1 vwCl (wH g a (Hseat k h)) H := by rw [e2]; exact hP
  have hD : va_D A (wH g a (Hseat k h)) := by rw [e2]; exact hD
  exact k_vret hx hb hr hlocks hP hD hS (Nat.le_of_ble_eq_true rfl) (Nat.le_of_ble_eq_true rfl) dX1_seat_15
set_option maxHeartbeats 4000000 in
set_option maxRecDepth 100000 in
theorem c_X1_hearFarewell (l : Launch) (g : kG) (a : Nat → Nat) (h : HSt) (k : Nat) (hk : k < 48) : KV l yX1_hearFarewell wsX1_hearFarewell ({ frames := 1, cells := 0, slots := 0, locals := 21 }) g [.ref (a 0), .int (nI k)] (wH g a h) (wH g a (Hfare k h)) 0 0 := by
  refine k_begin (cc := cX1_hearFarewell) (maxL := 2) (ret := none) (Qc := fun A => kQv g (wH g a (Hfare k h)) A) (by decide) rfl (Nat.le_of_ble_eq_true rfl) ?_
  intro p e s m below meth c A ls hF hr hlocks hin hE hP hD hS hA hl
  obtain ⟨hx, hb, hml, hown, hts⟩ := id hF
  have hown : s.vm.findClass RX1 = some m.cls := hown
  have hl : lv_has ls 2 [(0, .ref (a 0)), (1, .int (nI k))] := hl
  have hiX1 : ∀ w ∈ wsX10, w ∈ wsX1_hearFarewell := fun _ h => List.mem_cons_of_mem _ (List.mem_append_right _ (h))
  have f25 : (Cond.fieldLink RX1 25 "ConcertUsher$Hall" "isQuick" "Z").before _ s = true := hts _ (List.mem_of_getElem? (i := 1) rfl)
  have f15 : (Cond.fieldLink RX1 15 "ConcertUsher$Hall" "rests" "[I").before _ s = true := hts _ (List.mem_of_getElem? (i := 2) rfl)
  have f38 : (Cond.fieldLink RX1 38 "ConcertUsher$Hall" "patience" "I").before _ s = true := hts _ (List.mem_of_getElem? (i := 3) rfl)
  have f18 : (Cond.fieldLink RX1 18 "ConcertUsher$Hall" "counts" "[I").before _ s = true := hts _ (List.mem_of_getElem? (i := 4) rfl)
  refine lv_aload_n hx hb dX1_hearFarewell_0 rfl (lv_at hl 0 rfl) ?_
  refine va_get (D := g.1) (ci := 1) (v := .int (hqk h)) (C := RX1) (T := TX1) (N := 12) hx hb hts hiX1 hown hE.1 hP 0 rfl rfl 4 (by decide) f25 (fun _ h9 => h9) rfl dX1_hearFarewell_1 ?_
  refine lv_if_eq (tgt := 25) hx hb dX1_hearFarewell_4 (by decide) (fun c1 => ?_) (fun c1 => ?_)
  ·
    refine lv_aload_n hx hb dX1_hearFarewell_25 rfl (lv_at hl 0 rfl) ?_
    refine va_get (D := g.1) (ci := 1) (v := .ref (a 2)) (C := RX1) (T := TX1) (N := 12) hx hb hts hiX1 hown hE.1 hP 0 rfl rfl 1 (by decide) f15 (fun _ h9 => h9) rfl dX1_hearFarewell_26 ?_
    refine lv_iload_n hx hb dX1_hearFarewell_29 rfl (lv_at hl 1 rfl) ?_
    refine k_iald (f := (hR h)) hx hb hE hP 2 rfl k rfl (by omega) (by decide) dX1_hearFarewell_30 ?_
    refine lv_aload_n hx hb dX1_hearFarewell_31 rfl (lv_at hl 0 rfl) ?_
    refine va_get (D := g.1) (ci := 1) (v := .int (hpt h)) (C := RX1) (T := TX1) (N := 12) hx hb hts hiX1 hown hE.1 hP 0 rfl rfl 8 (by decide) f38 (fun _ h9 => h9) rfl dX1_hearFarewell_32 ?_
    refine lv_icmp_le (tgt := 63) hx hb dX1_hearFarewell_35 (by decide) (fun c2 => ?_) (fun c2 => ?_)
    ·
      have e3 : (Hfare k h) = h := (by first | (simp only [Hfare, Hfare2, Hask_hear, if_pos c1, if_neg (not_not_intro c1), if_pos c2, if_neg (not_not_intro c2)]; done) | (simp only [Hfare, Hfare2, Hask_hear, if_pos c1, if_neg (not_not_intro c1), if_pos c2, if_neg (not_not_intro c2)]; rfl) | rfl | (simp [Hfare, Hfare2, Hask_hear, if_pos c1, if_neg (not_not_intro c1), if_pos c2, if_neg (not_not_intro c2)]; done))
      have hP : va_P g.1 vwCl (wH g a (Hfare k h)) s.heap := by rw [e3]; exact hP
      have hD : va_D A (wH g a (Hfare k h)) := by rw [e3]; exact hD
      exact k_vret hx hb hr hlocks hP hD hS (Nat.le_of_ble_eq_true rfl) (Nat.le_of_ble_eq_true rfl) dX1_hearFarewell_63
    ·
      refine lv_aload_n hx hb dX1_hearFarewell_38 rfl (lv_at hl 0 rfl) ?_
      refine va_get (D := g.1) (ci := 1) (v := .ref (a 2)) (C := RX1) (T := TX1) (N := 12) hx hb hts hiX1 hown hE.1 hP 0 rfl rfl 1 (by decide) f15 (fun _ h9 => h9) rfl dX1_hearFarewell_39 ?_
      refine lv_iload_n hx hb dX1_hearFarewell_42 rfl (lv_at hl 1 rfl) ?_
      refine lv_aload_n hx hb dX1_hearFarewell_43 rfl (lv_at hl 0 rfl) ?_
      refine va_get (D := g.1) (ci := 1) (v := .int (hpt h)) (C := RX1) (T := TX1) (N := 12) hx hb hts hiX1 hown hE.1 hP 0 rfl rfl 8 (by decide) f38 (fun _ h9 => h9) rfl dX1_hearFarewell_44 ?_
      refine k_iast (f := (hR h)) (ws1 := (wH g a (sHR h (upd (hR h) k (hpt h))))) hx hb hE hP hD hS 2 rfl k rfl (by omega) (by decide) rfl dX1_hearFarewell_47 (fun H locs hP hD hS => ?_)
      refine lv_aload_n hx hb dX1_hearFarewell_48 rfl (lv_at hl 0 rfl) ?_
      refine va_get (D := g.1) (ci := 1) (v := .ref (a 3)) (C := RX1) (T := TX1) (N := 12) hx hb hts hiX1 hown hE.1 hP 0 rfl rfl 2 (by decide) f18 (fun _ h9 => h9) rfl dX1_hearFarewell_49 ?_
      refine lv_iconst (v := (nI 4)) hx hb dX1_hearFarewell_52 (by decide) ?_
      refine lv_dup2_11 hx hb dX1_hearFarewell_53 rfl rfl ?_
      refine k_iald (f := (hC h)) hx hb hE hP 3 rfl 4 rfl (by decide) (by decide) dX1_hearFarewell_54 ?_
      refine lv_iconst (v := (nI 1)) hx hb dX1_hearFarewell_55 (by decide) ?_
      refine lv_iadd hx hb dX1_hearFarewell_56 ?_
      refine k_iast (f := (hC h)) (ws1 := (wH g a (sHC (sHR h (upd (hR h) k (hpt h))) (upd (hC h) 4 (((hC h) 4) + (nI 1)))))) hx hb hE hP hD hS 3 rfl 4 rfl (by decide) (by decide) rfl dX1_hearFarewell_57 (fun H locs hP hD hS => ?_)
      refine lv_aload_n hx hb dX1_hearFarewell_58 rfl (lv_at hl 0 rfl) ?_
      refine lv_iload_n hx hb dX1_hearFarewell_59 rfl (lv_at hl 1 rfl) ?_
      refine k_Vv (As := [.int (nI k)]) hF (c_X1_hearCall l g a (sHC (sHR h (upd (hR h) k (hpt h))) (upd (hC h) 4 (((hC h) 4) + (nI 1)))) k (by omega)) (cwV 1 hts gX1_hearFarewell_X1_hearCall rfl rfl rfl (by decide +kernel) ⟨Nat.le_of_ble_eq_true rfl, Nat.le_of_ble_eq_true rfl⟩) hE hP hD hS hA (k_pall _) ((k_pall _).symm) 0 rfl rfl rfl rfl hl.1 rfl (Nat.le_of_ble_eq_true rfl) dX1_hearFarewell_60 ⟨Nat.le_of_ble_eq_true rfl, Nat.le_of_ble_eq_true rfl⟩ (fun H locs hP hD hS => ?_)
      have hP : va_P g.1 vwCl (wH g a (Hhear k (sHC (sHR h (upd (hR h) k (hpt h))) (upd (hC h) 4 (((hC h) 4) + (nI 1)))))) _ := hP
      have hD : va_D A (wH g a (Hhear k (sHC (sHR h (upd (hR h) k (hpt h))) (upd (hC h) 4 (((hC h) 4) + (nI 1)))))) := hD
      obtain ⟨z4, ez4⟩ : ∃ x : HSt, (Hhear k (sHC (sHR h (upd (hR h) k (hpt h))) (upd (hC h) 4 (((hC h) 4) + (nI 1))))) = x := ⟨_, rfl⟩
      rw [ez4] at hP hD
      have e5 : (Hfare k h) = z4 := (by subst ez4; first | (simp only [Hfare, Hfare2, Hask_hear, if_pos c1, if_neg (not_not_intro c1), if_neg c2, if_pos c2]; done) | (simp only [Hfare, Hfare2, Hask_hear, if_pos c1, if_neg (not_not_intro c1), if_neg c2, if_pos c2]; rfl) | rfl | (simp [Hfare, Hfare2, Hask_hear, if_pos c1, if_neg (not_not_intro c1), if_neg c2, if_pos c2]; done))
      have hP : va_P g.1 vwCl (wH g a (Hfare k h)) H := by rw [e5]; exact hP
      have hD : va_D A (wH g a (Hfare k h)) := by rw [e5]; exact hD
      exact k_vret hx hb hr hlocks hP hD hS (Nat.le_of_ble_eq_true rfl) (Nat.le_of_ble_eq_true rfl) dX1_hearFarewell_63
  ·
    refine lv_aload_n hx hb dX1_hearFarewell_7 rfl (lv_at hl 0 rfl) ?_
    refine lv_iload_n hx hb dX1_hearFarewell_8 rfl (lv_at hl 1 rfl) ?_
    refine k_Vi (As := [.int (nI k)]) (r := (bI (¬ ((hL h) k) ≤ 0))) hF (c_X1_isWantedAt l g a h k (by omega)) (cwV 1 hts gX1_hearFarewell_X1_isWantedAt rfl rfl rfl (by decide +kernel) ⟨Nat.le_of_ble_eq_true rfl, Nat.le_of_ble_eq_true rfl⟩) hE hP hD hS hA (k_pall _) ((k_pall _).symm) 0 rfl rfl rfl rfl hl.1 rfl (Nat.le_of_ble_eq_true rfl) dX1_hearFarewell_9 ⟨Nat.le_of_ble_eq_true rfl, Nat.le_of_ble_eq_true rfl⟩ (fun H locs hP hD hS => ?_)
    have hP : va_P g.1 vwCl (wH g a h) _ := hP
    have hD : va_D A (wH g a h) := hD
    refine k_ifneB (tgt := 25) hx hb dX1_hearFarewell_12 (by decide) (fun c6 => ?_) (fun c6 => ?_)
    ·
      refine lv_aload_n hx hb dX1_hearFarewell_25 rfl (lv_at hl 0 rfl) ?_
      refine va_get (D := g.1) (ci := 1) (v := .ref (a 2)) (C := RX1) (T := TX1) (N := 12) hx hb hts hiX1 hown hE.1 hP 0 rfl rfl 1 (by decide) f15 (fun _ h9 => h9) rfl dX1_hearFarewell_26 ?_
      refine lv_iload_n hx hb dX1_hearFarewell_29 rfl (lv_at hl 1 rfl) ?_
      refine k_iald (f := (hR h)) hx hb hE hP 2 rfl k rfl (by omega) (by decide) dX1_hearFarewell_30 ?_
      refine lv_aload_n hx hb dX1_hearFarewell_31 rfl (lv_at hl 0 rfl) ?_
      refine va_get (D := g.1) (ci := 1) (v := .int (hpt h)) (C := RX1) (T := TX1) (N := 12) hx hb hts hiX1 hown hE.1 hP 0 rfl rfl 8 (by decide) f38 (fun _ h9 => h9) rfl dX1_hearFarewell_32 ?_
      refine lv_icmp_le (tgt := 63) hx hb dX1_hearFarewell_35 (by decide) (fun c7 => ?_) (fun c7 => ?_)
      ·
        have e8 : (Hfare k h) = h := (by first | (simp only [Hfare, Hfare2, Hask_hear, if_neg c1, if_pos c1, if_pos c6, if_neg (not_not_intro c6), if_pos c7, if_neg (not_not_intro c7)]; done) | (simp only [Hfare, Hfare2, Hask_hear, if_neg c1, if_pos c1, if_pos c6, if_neg (not_not_intro c6), if_pos c7, if_neg (not_not_intro c7)]; rfl) | rfl | (simp [Hfare, Hfare2, Hask_hear, if_neg c1, if_pos c1, if_pos c6, if_neg (not_not_intro c6), if_pos c7, if_neg (not_not_intro c7)]; done))
        have hP : va_P g.1 vwCl (wH g a (Hfare k h)) H := by rw [e8]; exact hP
        have hD : va_D A (wH g a (Hfare k h)) := by rw [e8]; exact hD
        exact k_vret hx hb hr hlocks hP hD hS (Nat.le_of_ble_eq_true rfl) (Nat.le_of_ble_eq_true rfl) dX1_hearFarewell_63
      ·
        refine lv_aload_n hx hb dX1_hearFarewell_38 rfl (lv_at hl 0 rfl) ?_
        refine va_get (D := g.1) (ci := 1) (v := .ref (a 2)) (C := RX1) (T := TX1) (N := 12) hx hb hts hiX1 hown hE.1 hP 0 rfl rfl 1 (by decide) f15 (fun _ h9 => h9) rfl dX1_hearFarewell_39 ?_
        refine lv_iload_n hx hb dX1_hearFarewell_42 rfl (lv_at hl 1 rfl) ?_
        refine lv_aload_n hx hb dX1_hearFarewell_43 rfl (lv_at hl 0 rfl) ?_
        refine va_get (D := g.1) (ci := 1) (v := .int (hpt h)) (C := RX1) (T := TX1) (N := 12) hx hb hts hiX1 hown hE.1 hP 0 rfl rfl 8 (by decide) f38 (fun _ h9 => h9) rfl dX1_hearFarewell_44 ?_
        refine k_iast (f := (hR h)) (ws1 := (wH g a (sHR h (upd (hR h) k (hpt h))))) hx hb hE hP hD hS 2 rfl k rfl (by omega) (by decide) rfl dX1_hearFarewell_47 (fun H locs hP hD hS => ?_)
        refine lv_aload_n hx hb dX1_hearFarewell_48 rfl (lv_at hl 0 rfl) ?_
        refine va_get (D := g.1) (ci := 1) (v := .ref (a 3)) (C := RX1) (T := TX1) (N := 12) hx hb hts hiX1 hown hE.1 hP 0 rfl rfl 2 (by decide) f18 (fun _ h9 => h9) rfl dX1_hearFarewell_49 ?_
        refine lv_iconst (v := (nI 4)) hx hb dX1_hearFarewell_52 (by decide) ?_
        refine lv_dup2_11 hx hb dX1_hearFarewell_53 rfl rfl ?_
        refine k_iald (f := (hC h)) hx hb hE hP 3 rfl 4 rfl (by decide) (by decide) dX1_hearFarewell_54 ?_
        refine lv_iconst (v := (nI 1)) hx hb dX1_hearFarewell_55 (by decide) ?_
        refine lv_iadd hx hb dX1_hearFarewell_56 ?_
        refine k_iast (f := (hC h)) (ws1 := (wH g a (sHC (sHR h (upd (hR h) k (hpt h))) (upd (hC h) 4 (((hC h) 4) + (nI 1)))))) hx hb hE hP hD hS 3 rfl 4 rfl (by decide) (by decide) rfl dX1_hearFarewell_57 (fun H locs hP hD hS => ?_)
        refine lv_aload_n hx hb dX1_hearFarewell_58 rfl (lv_at hl 0 rfl) ?_
        refine lv_iload_n hx hb dX1_hearFarewell_59 rfl (lv_at hl 1 rfl) ?_
        refine k_Vv (As := [.int (nI k)]) hF (c_X1_hearCall l g a (sHC (sHR h (upd (hR h) k (hpt h))) (upd (hC h) 4 (((hC h) 4) + (nI 1)))) k (by omega)) (cwV 1 hts gX1_hearFarewell_X1_hearCall rfl rfl rfl (by decide +kernel) ⟨Nat.le_of_ble_eq_true rfl, Nat.le_of_ble_eq_true rfl⟩) hE hP hD hS hA (k_pall _) ((k_pall _).symm) 0 rfl rfl rfl rfl hl.1 rfl (Nat.le_of_ble_eq_true rfl) dX1_hearFarewell_60 ⟨Nat.le_of_ble_eq_true rfl, Nat.le_of_ble_eq_true rfl⟩ (fun H locs hP hD hS => ?_)
        have hP : va_P g.1 vwCl (wH g a (Hhear k (sHC (sHR h (upd (hR h) k (hpt h))) (upd (hC h) 4 (((hC h) 4) + (nI 1)))))) _ := hP
        have hD : va_D A (wH g a (Hhear k (sHC (sHR h (upd (hR h) k (hpt h))) (upd (hC h) 4 (((hC h) 4) + (nI 1)))))) := hD
        obtain ⟨z9, ez9⟩ : ∃ x : HSt, (Hhear k (sHC (sHR h (upd (hR h) k (hpt h))) (upd (hC h) 4 (((hC h) 4) + (nI 1))))) = x := ⟨_, rfl⟩
        rw [ez9] at hP hD
        have e10 : (Hfare k h) = z9 := (by subst ez9; first | (simp only [Hfare, Hfare2, Hask_hear, if_neg c1, if_pos c1, if_pos c6, if_neg (not_not_intro c6), if_neg c7, if_pos c7]; done) | (simp only [Hfare, Hfare2, Hask_hear, if_neg c1, if_pos c1, if_pos c6, if_neg (not_not_intro c6), if_neg c7, if_pos c7]; rfl) | rfl | (simp [Hfare, Hfare2, Hask_hear, if_neg c1, if_pos c1, if_pos c6, if_neg (not_not_intro c6), if_neg c7, if_pos c7]; done))
        have hP : va_P g.1 vwCl (wH g a (Hfare k h)) H := by rw [e10]; exact hP
        have hD : va_D A (wH g a (Hfare k h)) := by rw [e10]; exact hD
        exact k_vret hx hb hr hlocks hP hD hS (Nat.le_of_ble_eq_true rfl) (Nat.le_of_ble_eq_true rfl) dX1_hearFarewell_63
    ·
      refine lv_aload_n hx hb dX1_hearFarewell_15 rfl (lv_at hl 0 rfl) ?_
      refine va_get (D := g.1) (ci := 1) (v := .ref (a 2)) (C := RX1) (T := TX1) (N := 12) hx hb hts hiX1 hown hE.1 hP 0 rfl rfl 1 (by decide) f15 (fun _ h9 => h9) rfl dX1_hearFarewell_16 ?_
      refine lv_iload_n hx hb dX1_hearFarewell_19 rfl (lv_at hl 1 rfl) ?_
      refine lv_iconst (v := (nI 0)) hx hb dX1_hearFarewell_20 (by decide) ?_
      refine k_iast (f := (hR h)) (ws1 := (wH g a (sHR h (upd (hR h) k (nI 0))))) hx hb hE hP hD hS 2 rfl k rfl (by omega) (by decide) rfl dX1_hearFarewell_21 (fun H locs hP hD hS => ?_)
      refine lv_goto (tgt := 63) hx hb dX1_hearFarewell_22 (by decide) ?_
      have e11 : (Hfare k h) = (sHR h (upd (hR h) k (nI 0))) := (by first | (simp only [Hfare, Hfare2, Hask_hear, if_neg c1, if_pos c1, if_neg c6, if_pos c6]; done) | (simp only [Hfare, Hfare2, Hask_hear, if_neg c1, if_pos c1, if_neg c6, if_pos c6]; rfl) | rfl | (simp [Hfare, Hfare2, Hask_hear, if_neg c1, if_pos c1, if_neg c6, if_pos c6]; done))
      have hP : va_P g.1 vwCl (wH g a (Hfare k h)) H := by rw [e11]; exact hP
      have hD : va_D A (wH g a (Hfare k h)) := by rw [e11]; exact hD
      exact k_vret hx hb hr hlocks hP hD hS (Nat.le_of_ble_eq_true rfl) (Nat.le_of_ble_eq_true rfl) dX1_hearFarewell_63
set_option maxHeartbeats 4000000 in
set_option maxRecDepth 100000 in
theorem c_X1_unseat (l : Launch) (g : kG) (a : Nat → Nat) (h : HSt) (k : Nat) (hk : k < 48) (b : Nat) (hb2 : b < 2) : KV l yX1_unseat wsX1_unseat ({ frames := 2, cells := 0, slots := 0, locals := 42 }) g [.ref (a 0), .int (nI k), .int (nI b)] (wH g a h) (wH g a (Hunseat k b h)) 0 0 := by
  refine k_begin (cc := cX1_unseat) (maxL := 3) (ret := none) (Qc := fun A => kQv g (wH g a (Hunseat k b h)) A) (by decide) rfl (Nat.le_of_ble_eq_true rfl) ?_
  intro p e s m below meth c A ls hF hr hlocks hin hE hP hD hS hA hl
  obtain ⟨hx, hb, hml, hown, hts⟩ := id hF
  have hown : s.vm.findClass RX1 = some m.cls := hown
  have hl : lv_has ls 3 [(0, .ref (a 0)), (1, .int (nI k)), (2, .int (nI b))] := hl
  have hiX1 : ∀ w ∈ wsX10, w ∈ wsX1_unseat := fun _ h => List.mem_cons_of_mem _ (List.mem_append_right _ (h))
  have f9 : (Cond.fieldLink RX1 9 "ConcertUsher$Hall" "listeners" "[I").before _ s = true := hts _ (List.mem_of_getElem? (i := 1) rfl)
  refine lv_aload_n hx hb dX1_unseat_0 rfl (lv_at hl 0 rfl) ?_
  refine va_get (D := g.1) (ci := 1) (v := .ref (a 1)) (C := RX1) (T := TX1) (N := 12) hx hb hts hiX1 hown hE.1 hP 0 rfl rfl 0 (by decide) f9 (fun _ h9 => h9) rfl dX1_unseat_1 ?_
  refine lv_iload_n hx hb dX1_unseat_4 rfl (lv_at hl 1 rfl) ?_
  refine lv_dup2_11 hx hb dX1_unseat_5 rfl rfl ?_
  refine k_iald (f := (hL h)) hx hb hE hP 1 rfl k rfl (by omega) (by decide) dX1_unseat_6 ?_
  refine lv_iconst (v := (nI 1)) hx hb dX1_unseat_7 (by decide) ?_
  refine lv_isub hx hb dX1_unseat_8 ?_
  refine k_iast (f := (hL h)) (ws1 := (wH g a (sHL h (upd (hL h) k (((hL h) k) - (nI 1)))))) hx hb hE hP hD hS 1 rfl k rfl (by omega) (by decide) rfl dX1_unseat_9 (fun H locs hP hD hS => ?_)
  refine lv_iload_n hx hb dX1_unseat_10 rfl (lv_at hl 2 rfl) ?_
  refine k_if0 (tgt := 19) hx hb (by omega) dX1_unseat_11 (by decide) (fun c1 => ?_) (fun c1 => ?_)
  ·
    have e2 : (Hunseat k b h) = (sHL h (upd (hL h) k (((hL h) k) - (nI 1)))) := (by first | (simp only [Hunseat, if_pos c1, if_neg (not_not_intro c1)]; done) | (simp only [Hunseat, if_pos c1, if_neg (not_not_intro c1)]; rfl) | rfl | (simp [Hunseat, if_pos c1, if_neg (not_not_intro c1)]; done))
    have hP : va_P g.1 vwCl (wH g a (Hunseat k b h)) H := by rw [e2]; exact hP
    have hD : va_D A (wH g a (Hunseat k b h)) := by rw [e2]; exact hD
    exact k_vret hx hb hr hlocks hP hD hS (Nat.le_of_ble_eq_true rfl) (Nat.le_of_ble_eq_true rfl) dX1_unseat_19
  ·
    refine lv_aload_n hx hb dX1_unseat_14 rfl (lv_at hl 0 rfl) ?_
    refine lv_iload_n hx hb dX1_unseat_15 rfl (lv_at hl 1 rfl) ?_
    refine k_Vv (As := [.int (nI k)]) hF (c_X1_hearFarewell l g a (sHL h (upd (hL h) k (((hL h) k) - (nI 1)))) k (by omega)) (cwV 1 hts gX1_unseat_X1_hearFarewell rfl rfl rfl (by decide +kernel) ⟨Nat.le_of_ble_eq_true rfl, Nat.le_of_ble_eq_true rfl⟩) hE hP hD hS hA (k_pall _) ((k_pall _).symm) 0 rfl rfl rfl rfl hl.1 rfl (Nat.le_of_ble_eq_true rfl) dX1_unseat_16 ⟨Nat.le_of_ble_eq_true rfl, Nat.le_of_ble_eq_true rfl⟩ (fun H locs hP hD hS => ?_)
    have hP : va_P g.1 vwCl (wH g a (Hfare k (sHL h (upd (hL h) k (((hL h) k) - (nI 1)))))) _ := hP
    have hD : va_D A (wH g a (Hfare k (sHL h (upd (hL h) k (((hL h) k) - (nI 1)))))) := hD
    obtain ⟨z3, ez3⟩ : ∃ x : HSt, (Hfare k (sHL h (upd (hL h) k (((hL h) k) - (nI 1))))) = x := ⟨_, rfl⟩
    rw [ez3] at hP hD
    have e4 : (Hunseat k b h) = z3 := (by subst ez3; first | (simp only [Hunseat, if_neg c1, if_pos c1]; done) | (simp only [Hunseat, if_neg c1, if_pos c1]; rfl) | rfl | (simp [Hunseat, if_neg c1, if_pos c1]; done))
    have hP : va_P g.1 vwCl (wH g a (Hunseat k b h)) H := by rw [e4]; exact hP
    have hD : va_D A (wH g a (Hunseat k b h)) := by rw [e4]; exact hD
    exact k_vret hx hb hr hlocks hP hD hS (Nat.le_of_ble_eq_true rfl) (Nat.le_of_ble_eq_true rfl) dX1_unseat_19
end
section
set_option maxHeartbeats 4000000 in
set_option maxRecDepth 100000 in
theorem c_X1_askAllRows (l : Launch) (g : kG) (a : Nat → Nat) (h : HSt) : KV l yX1_askAllRows wsX1_askAllRows ({ frames := 1, cells := 0, slots := 0, locals := 21 }) g [.ref (a 0)] (wH g a h) (wH g a (HaskAll h)) 0 0 := by
  refine k_begin (cc := cX1_askAllRows) (maxL := 2) (ret := none) (Qc := fun A => kQv g (wH g a (HaskAll h)) A) (by decide) rfl (Nat.le_of_ble_eq_true rfl) ?_
  intro p e s m below meth c A ls hF hr hlocks hin hE hP hD hS hA hl
  obtain ⟨hx, hb, hml, hown, hts⟩ := id hF
  have hown : s.vm.findClass RX1 = some m.cls := hown
  have hl : lv_has ls 2 [(0, .ref (a 0))] := hl
  have hiX1 : ∀ w ∈ wsX10, w ∈ wsX1_askAllRows := fun _ h => List.mem_cons_of_mem _ (List.mem_append_right _ (h))
  have f18 : (Cond.fieldLink RX1 18 "ConcertUsher$Hall" "counts" "[I").before _ s = true := hts _ (List.mem_of_getElem? (i := 1) rfl)
  refine lv_aload_n hx hb dX1_askAllRows_0 rfl (lv_at hl 0 rfl) ?_
  refine va_get (D := g.1) (ci := 1) (v := .ref (a 3)) (C := RX1) (T := TX1) (N := 12) hx hb hts hiX1 hown hE.1 hP 0 rfl rfl 2 (by decide) f18 (fun _ h9 => h9) rfl dX1_askAllRows_1 ?_
  refine lv_iconst (v := (nI 3)) hx hb dX1_askAllRows_4 (by decide) ?_
  refine lv_dup2_11 hx hb dX1_askAllRows_5 rfl rfl ?_
  refine k_iald (f := (hC h)) hx hb hE hP 3 rfl 3 rfl (by decide) (by decide) dX1_askAllRows_6 ?_
  refine lv_iconst (v := (nI 1)) hx hb dX1_askAllRows_7 (by decide) ?_
  refine lv_iadd hx hb dX1_askAllRows_8 ?_
  refine k_iast (f := (hC h)) (ws1 := (wH g a (sHC h (upd (hC h) 3 (((hC h) 3) + (nI 1)))))) hx hb hE hP hD hS 3 rfl 3 rfl (by decide) (by decide) rfl dX1_askAllRows_9 (fun H locs hP hD hS => ?_)
  refine lv_iconst (v := (nI 0)) hx hb dX1_askAllRows_10 (by decide) ?_
  refine lv_istore_n (lv' := [(1, .int (nI 0)), (0, .ref (a 0))]) hx hb dX1_askAllRows_11 rfl hl (by decide) rfl (fun ls hl => ?_)
  refine k_loop (N := 48) (Inv := fun (i : Nat) (H : Heap) (locs : List Loc) (ls : Array Slot) => va_P g.1 vwCl (wH g a (HaskN (Hcnt 3 h) i)) H ∧ va_D A (wH g a (HaskN (Hcnt 3 h) i)) ∧ va_S A s.heap H locs ∧ lv_has ls 2 [(1, .int (nI i)), (0, .ref (a 0))]) 0 (Nat.zero_le _) ⟨hP, hD, hS, lv_sub hl [0, 1] rfl⟩ (fun i hle2 ih1 H locs ls hinv => ?_)
  obtain ⟨hP, hD, hS, hl⟩ := hinv
  obtain ⟨z3, ez3⟩ : ∃ x : HSt, (HaskN (Hcnt 3 h) i) = x := ⟨_, rfl⟩
  rw [ez3] at hP hD
  refine lv_iload_n hx hb dX1_askAllRows_12 rfl (lv_at hl 0 rfl) ?_
  refine lv_bipush (v := (nI 48)) hx hb dX1_askAllRows_13 (by decide) ?_
  refine k_geN (tgt := 29) hx hb (by omega) (by decide) dX1_askAllRows_15 (by decide) (fun c4 => ?_) (fun c4 => ?_)
  ·
    obtain rfl : 48 = i := by omega
    have e5 : (HaskAll h) = z3 := (by subst ez3; first | (simp only [HaskAll, if_pos c4, if_neg (not_not_intro c4)]; done) | (simp only [HaskAll, if_pos c4, if_neg (not_not_intro c4)]; rfl) | rfl | (simp [HaskAll, if_pos c4, if_neg (not_not_intro c4)]; done))
    have hP : va_P g.1 vwCl (wH g a (HaskAll h)) H := by rw [e5]; exact hP
    have hD : va_D A (wH g a (HaskAll h)) := by rw [e5]; exact hD
    exact k_vret hx hb hr hlocks hP hD hS (Nat.le_of_ble_eq_true rfl) (Nat.le_of_ble_eq_true rfl) dX1_askAllRows_29
  ·
    refine lv_aload_n hx hb dX1_askAllRows_18 rfl (lv_at hl 1 rfl) ?_
    refine lv_iload_n hx hb dX1_askAllRows_19 rfl (lv_at hl 0 rfl) ?_
    refine k_Vv (As := [.int (nI i)]) hF (c_X1_hearCall l g a z3 i (by omega)) (cwV 1 hts gX1_askAllRows_X1_hearCall rfl rfl rfl (by decide +kernel) ⟨Nat.le_of_ble_eq_true rfl, Nat.le_of_ble_eq_true rfl⟩) hE hP hD hS hA (k_pall _) ((k_pall _).symm) 0 rfl rfl rfl rfl hl.1 rfl (Nat.le_of_ble_eq_true rfl) dX1_askAllRows_20 ⟨Nat.le_of_ble_eq_true rfl, Nat.le_of_ble_eq_true rfl⟩ (fun H locs hP hD hS => ?_)
    have hP : va_P g.1 vwCl (wH g a (Hhear i z3)) _ := hP
    have hD : va_D A (wH g a (Hhear i z3)) := hD
    obtain ⟨z6, ez6⟩ : ∃ x : HSt, (Hhear i z3) = x := ⟨_, rfl⟩
    rw [ez6] at hP hD
    refine lv_iinc (v := (nI (i + 1))) (lv' := [(1, .int (nI (i + 1))), (0, .ref (a 0))]) hx hb dX1_askAllRows_23 hl (k := 0) rfl (k_inc1 _) (by decide) rfl (fun ls hl => ?_)
    refine lv_goto (tgt := 12) hx hb dX1_askAllRows_26 (by decide) ?_
    have e7 : (HaskN (Hcnt 3 h) (i + 1)) = z6 := (by subst ez6; subst ez3; rfl)
    exact ih1 _ _ _ (by omega) ⟨(by rw [e7]; exact hP), (by rw [e7]; exact hD), hS, lv_sub hl [0, 1] rfl⟩
set_option maxHeartbeats 4000000 in
set_option maxRecDepth 100000 in
theorem c_X1_isRowOpen (l : Launch) (g : kG) (a : Nat → Nat) (h : HSt) (r : Nat) (hr8 : r < 8) : KI l yX1_isRowOpen wsX1_isRowOpen ({ frames := 0, cells := 0, slots := 0, locals := 0 }) g [.ref (a 0), .int (nI r)] (wH g a h) (bI (Hopen h r)) (wH g a h) 0 0 := by
  refine k_begin (cc := cX1_isRowOpen) (maxL := 2) (ret := (some .boolean)) (Qc := fun A => kQi g (bI (Hopen h r)) (wH g a h) A) (by decide) rfl (Nat.le_of_ble_eq_true rfl) ?_
  intro p e s m below meth c A ls hF hr hlocks hin hE hP hD hS hA hl
  obtain ⟨hx, hb, hml, hown, hts⟩ := id hF
  have hown : s.vm.findClass RX1 = some m.cls := hown
  have hl : lv_has ls 2 [(0, .ref (a 0)), (1, .int (nI r))] := hl
  have hiX1 : ∀ w ∈ wsX10, w ∈ wsX1_isRowOpen := fun _ h => List.mem_cons_of_mem _ (List.mem_append_right _ (h))
  have f21 : (Cond.fieldLink RX1 21 "ConcertUsher$Hall" "openRows" "I").before _ s = true := hts _ (List.mem_of_getElem? (i := 1) rfl)
  refine lv_aload_n hx hb dX1_isRowOpen_0 rfl (lv_at hl 0 rfl) ?_
  refine va_get (D := g.1) (ci := 1) (v := .int (hop h)) (C := RX1) (T := TX1) (N := 12) hx hb hts hiX1 hown hE.1 hP 0 rfl rfl 3 (by decide) f21 (fun _ h9 => h9) rfl dX1_isRowOpen_1 ?_
  refine lv_iload_n hx hb dX1_isRowOpen_4 rfl (lv_at hl 1 rfl) ?_
  refine lv_ishr hx hb dX1_isRowOpen_5 ?_
  refine lv_iconst (v := (nI 1)) hx hb dX1_isRowOpen_6 (by decide) ?_
  refine lv_iand hx hb dX1_isRowOpen_7 ?_
  refine lv_iconst (v := (nI 1)) hx hb dX1_isRowOpen_8 (by decide) ?_
  refine lv_icmp_ne (tgt := 16) hx hb dX1_isRowOpen_9 (by decide) (fun c1 => ?_) (fun c1 => ?_)
  ·
    refine lv_iconst (v := (nI 0)) hx hb dX1_isRowOpen_16 (by decide) ?_
    have hP : va_P g.1 vwCl (wH g a h) _ := hP
    have hD : va_D A (wH g a h) := hD
    exact k_iret hx hb hr hlocks rfl (by first | (simp only [bI, if_neg c1, if_pos c1]; done) | (simp only [bI, if_neg c1, if_pos c1]; rfl) | rfl | (simp [bI, if_neg c1, if_pos c1]; done)) hP hD hS (Nat.le_of_ble_eq_true rfl) (Nat.le_of_ble_eq_true rfl) dX1_isRowOpen_17
  ·
    refine lv_iconst (v := (nI 1)) hx hb dX1_isRowOpen_12 (by decide) ?_
    refine lv_goto (tgt := 17) hx hb dX1_isRowOpen_13 (by decide) ?_
    have hP : va_P g.1 vwCl (wH g a h) _ := hP
    have hD : va_D A (wH g a h) := hD
    exact k_iret hx hb hr hlocks rfl (by first | (simp only [bI, if_pos c1, if_neg (not_not_intro c1)]; done) | (simp only [bI, if_pos c1, if_neg (not_not_intro c1)]; rfl) | rfl | (simp [bI, if_pos c1, if_neg (not_not_intro c1)]; done)) hP hD hS (Nat.le_of_ble_eq_true rfl) (Nat.le_of_ble_eq_true rfl) dX1_isRowOpen_17
set_option maxHeartbeats 4000000 in
set_option maxRecDepth 100000 in
theorem c_X1_turnRow (l : Launch) (g : kG) (a : Nat → Nat) (h : HSt) (r : Nat) (hr8 : r < 8) : KV l yX1_turnRow wsX1_turnRow ({ frames := 0, cells := 0, slots := 0, locals := 0 }) g [.ref (a 0), .int (nI r)] (wH g a h) (wH g a (Hturn r h)) 0 0 := by
  refine k_begin (cc := cX1_turnRow) (maxL := 2) (ret := none) (Qc := fun A => kQv g (wH g a (Hturn r h)) A) (by decide) rfl (Nat.le_of_ble_eq_true rfl) ?_
  intro p e s m below meth c A ls hF hr hlocks hin hE hP hD hS hA hl
  obtain ⟨hx, hb, hml, hown, hts⟩ := id hF
  have hown : s.vm.findClass RX1 = some m.cls := hown
  have hl : lv_has ls 2 [(0, .ref (a 0)), (1, .int (nI r))] := hl
  have hiX1 : ∀ w ∈ wsX10, w ∈ wsX1_turnRow := fun _ h => List.mem_cons_of_mem _ (List.mem_append_right _ (h))
  have f21 : (Cond.fieldLink RX1 21 "ConcertUsher$Hall" "openRows" "I").before _ s = true := hts _ (List.mem_of_getElem? (i := 1) rfl)
  refine lv_aload_n hx hb dX1_turnRow_0 rfl (lv_at hl 0 rfl) ?_
  refine lv_dup hx hb dX1_turnRow_1 rfl ?_
  refine va_get (D := g.1) (ci := 1) (v := .int (hop h)) (C := RX1) (T := TX1) (N := 12) hx hb hts hiX1 hown hE.1 hP 0 rfl rfl 3 (by decide) f21 (fun _ h9 => h9) rfl dX1_turnRow_2 ?_
  refine lv_iconst (v := (nI 1)) hx hb dX1_turnRow_5 (by decide) ?_
  refine lv_iload_n hx hb dX1_turnRow_6 rfl (lv_at hl 1 rfl) ?_
  refine lv_ishl hx hb dX1_turnRow_7 ?_
  refine lv_ixor hx hb dX1_turnRow_8 ?_
  refine va_put (D := g.1) (ci := 1) (v := .int ((hop h) ^^^ ((nI 1) <<< ((nI r) &&& 31)))) (ty := .int) (C := RX1) (T := TX1) (N := 12) hx hb hts hiX1 tyX1 tyX1_ok nmX1 hown hE.1 hP hD hS 0 rfl rfl 3 (by decide) f21 (fun _ h9 => h9) rfl (tyX1_ok 3 (by decide)) rfl rfl (Nat.le_of_ble_eq_true rfl) dX1_turnRow_9 (fun H locs hP hD hS => ?_)
  have hP : va_P g.1 vwCl (wH g a (sHop h ((hop h) ^^^ ((nI 1) <<< ((nI r) &&& 31))))) _ := hP
  have hD : va_D A (wH g a (sHop h ((hop h) ^^^ ((nI 1) <<< ((nI r) &&& 31))))) := hD
  have hP : va_P g.1 vwCl (wH g a (Hturn r h)) _ := hP
  have hD : va_D A (wH g a (Hturn r h)) := hD
  exact k_vret hx hb hr hlocks hP hD hS (Nat.le_of_ble_eq_true rfl) (Nat.le_of_ble_eq_true rfl) dX1_turnRow_12
set_option maxHeartbeats 4000000 in
set_option maxRecDepth 100000 in
theorem c_X1_chiefAsker (l : Launch) (g : kG) (a : Nat → Nat) (h : HSt) : KI l yX1_chiefAsker wsX1_chiefAsker ({ frames := 0, cells := 0, slots := 0, locals := 0 }) g [.ref (a 0)] (wH g a h) (Hchief h) (wH g a h) 0 0 := by
  refine k_begin (cc := cX1_chiefAsker) (maxL := 1) (ret := (some .int)) (Qc := fun A => kQi g (Hchief h) (wH g a h) A) (by decide) rfl (Nat.le_of_ble_eq_true rfl) ?_
  intro p e s m below meth c A ls hF hr hlocks hin hE hP hD hS hA hl
  obtain ⟨hx, hb, hml, hown, hts⟩ := id hF
  have hown : s.vm.findClass RX1 = some m.cls := hown
  have hl : lv_has ls 1 [(0, .ref (a 0))] := hl
  have hiX1 : ∀ w ∈ wsX10, w ∈ wsX1_chiefAsker := fun _ h => List.mem_cons_of_mem _ (List.mem_append_right _ (h))
  have f32 : (Cond.fieldLink RX1 32 "ConcertUsher$Hall" "isSecondPresent" "Z").before _ s = true := hts _ (List.mem_of_getElem? (i := 1) rfl)
  have f29 : (Cond.fieldLink RX1 29 "ConcertUsher$Hall" "isFirstPresent" "Z").before _ s = true := hts _ (List.mem_of_getElem? (i := 2) rfl)
  refine lv_aload_n hx hb dX1_chiefAsker_0 rfl (lv_at hl 0 rfl) ?_
  refine va_get (D := g.1) (ci := 1) (v := .int (hf2 h)) (C := RX1) (T := TX1) (N := 12) hx hb hts hiX1 hown hE.1 hP 0 rfl rfl 6 (by decide) f32 (fun _ h9 => h9) rfl dX1_chiefAsker_1 ?_
  refine lv_if_eq (tgt := 9) hx hb dX1_chiefAsker_4 (by decide) (fun c1 => ?_) (fun c1 => ?_)
  ·
    refine lv_aload_n hx hb dX1_chiefAsker_9 rfl (lv_at hl 0 rfl) ?_
    refine va_get (D := g.1) (ci := 1) (v := .int (hf1 h)) (C := RX1) (T := TX1) (N := 12) hx hb hts hiX1 hown hE.1 hP 0 rfl rfl 5 (by decide) f29 (fun _ h9 => h9) rfl dX1_chiefAsker_10 ?_
    refine lv_if_eq (tgt := 20) hx hb dX1_chiefAsker_13 (by decide) (fun c2 => ?_) (fun c2 => ?_)
    ·
      refine lv_iconst (v := (nI 0)) hx hb dX1_chiefAsker_20 (by decide) ?_
      have hP : va_P g.1 vwCl (wH g a h) _ := hP
      have hD : va_D A (wH g a h) := hD
      exact k_iret hx hb hr hlocks rfl (by first | (simp only [Hchief, bI, if_pos c1, if_neg (not_not_intro c1), if_pos c2, if_neg (not_not_intro c2)]; done) | (simp only [Hchief, bI, if_pos c1, if_neg (not_not_intro c1), if_pos c2, if_neg (not_not_intro c2)]; rfl) | rfl | (simp [Hchief, bI, if_pos c1, if_neg (not_not_intro c1), if_pos c2, if_neg (not_not_intro c2)]; done)) hP hD hS (Nat.le_of_ble_eq_true rfl) (Nat.le_of_ble_eq_true rfl) dX1_chiefAsker_21
    ·
      refine lv_iconst (v := (nI 1)) hx hb dX1_chiefAsker_16 (by decide) ?_
      refine lv_goto (tgt := 21) hx hb dX1_chiefAsker_17 (by decide) ?_
      have hP : va_P g.1 vwCl (wH g a h) _ := hP
      have hD : va_D A (wH g a h) := hD
      exact k_iret hx hb hr hlocks rfl (by first | (simp only [Hchief, bI, if_pos c1, if_neg (not_not_intro c1), if_neg c2, if_pos c2]; done) | (simp only [Hchief, bI, if_pos c1, if_neg (not_not_intro c1), if_neg c2, if_pos c2]; rfl) | rfl | (simp [Hchief, bI, if_pos c1, if_neg (not_not_intro c1), if_neg c2, if_pos c2]; done)) hP hD hS (Nat.le_of_ble_eq_true rfl) (Nat.le_of_ble_eq_true rfl) dX1_chiefAsker_21
  ·
    refine lv_iconst (v := (nI 2)) hx hb dX1_chiefAsker_7 (by decide) ?_
    have hP : va_P g.1 vwCl (wH g a h) _ := hP
    have hD : va_D A (wH g a h) := hD
    exact k_iret hx hb hr hlocks rfl (by first | (simp only [Hchief, bI, if_neg c1, if_pos c1]; done) | (simp only [Hchief, bI, if_neg c1, if_pos c1]; rfl) | rfl | (simp [Hchief, bI, if_neg c1, if_pos c1]; done)) hP hD hS (Nat.le_of_ble_eq_true rfl) (Nat.le_of_ble_eq_true rfl) dX1_chiefAsker_8
set_option maxHeartbeats 4000000 in
set_option maxRecDepth 100000 in
theorem c_X1_entriesInAll (l : Launch) (g : kG) (a : Nat → Nat) (h : HSt) : KI l yX1_entriesInAll wsX1_entriesInAll ({ frames := 0, cells := 0, slots := 0, locals := 0 }) g [.ref (a 0)] (wH g a h) (nI (Hent (hR h) 48)) (wH g a h) 0 0 := by
  refine k_begin (cc := cX1_entriesInAll) (maxL := 3) (ret := (some .int)) (Qc := fun A => kQi g (nI (Hent (hR h) 48)) (wH g a h) A) (by decide) rfl (Nat.le_of_ble_eq_true rfl) ?_
  intro p e s m below meth c A ls hF hr hlocks hin hE hP hD hS hA hl
  obtain ⟨hx, hb, hml, hown, hts⟩ := id hF
  have hown : s.vm.findClass RX1 = some m.cls := hown
  have hl : lv_has ls 3 [(0, .ref (a 0))] := hl
  have hiX1 : ∀ w ∈ wsX10, w ∈ wsX1_entriesInAll := fun _ h => List.mem_cons_of_mem _ (List.mem_append_right _ (h))
  have f15 : (Cond.fieldLink RX1 15 "ConcertUsher$Hall" "rests" "[I").before _ s = true := hts _ (List.mem_of_getElem? (i := 1) rfl)
  refine lv_iconst (v := (nI 0)) hx hb dX1_entriesInAll_0 (by decide) ?_
  refine lv_istore_n (lv' := [(1, .int (nI 0)), (0, .ref (a 0))]) hx hb dX1_entriesInAll_1 rfl hl (by decide) rfl (fun ls hl => ?_)
  refine lv_iconst (v := (nI 0)) hx hb dX1_entriesInAll_2 (by decide) ?_
  refine lv_istore_n (lv' := [(2, .int (nI 0)), (1, .int (nI 0)), (0, .ref (a 0))]) hx hb dX1_entriesInAll_3 rfl hl (by decide) rfl (fun ls hl => ?_)
  refine k_loop (N := 48) (Inv := fun (i : Nat) (H : Heap) (locs : List Loc) (ls : Array Slot) => va_P g.1 vwCl (wH g a h) H ∧ va_D A (wH g a h) ∧ va_S A s.heap H locs ∧ lv_has ls 3 [(2, .int (nI i)), (1, .int (nI (Hent (hR h) i))), (0, .ref (a 0))]) 0 (Nat.zero_le _) ⟨hP, hD, hS, lv_sub hl [0, 1, 2] rfl⟩ (fun i hle2 ih1 H locs ls hinv => ?_)
  obtain ⟨hP, hD, hS, hl⟩ := hinv
  refine lv_iload_n hx hb dX1_entriesInAll_4 rfl (lv_at hl 0 rfl) ?_
  refine lv_bipush (v := (nI 48)) hx hb dX1_entriesInAll_5 (by decide) ?_
  refine k_geN (tgt := 28) hx hb (by omega) (by decide) dX1_entriesInAll_7 (by decide) (fun c3 => ?_) (fun c3 => ?_)
  ·
    obtain rfl : 48 = i := by omega
    refine lv_iload_n hx hb dX1_entriesInAll_28 rfl (lv_at hl 1 rfl) ?_
    have hP : va_P g.1 vwCl (wH g a h) _ := hP
    have hD : va_D A (wH g a h) := hD
    exact k_iret hx hb hr hlocks rfl rfl hP hD hS (Nat.le_of_ble_eq_true rfl) (Nat.le_of_ble_eq_true rfl) dX1_entriesInAll_29
  ·
    refine lv_aload_n hx hb dX1_entriesInAll_10 rfl (lv_at hl 2 rfl) ?_
    refine va_get (D := g.1) (ci := 1) (v := .ref (a 2)) (C := RX1) (T := TX1) (N := 12) hx hb hts hiX1 hown hE.1 hP 0 rfl rfl 1 (by decide) f15 (fun _ h9 => h9) rfl dX1_entriesInAll_11 ?_
    refine lv_iload_n hx hb dX1_entriesInAll_14 rfl (lv_at hl 0 rfl) ?_
    refine k_iald (f := (hR h)) hx hb hE hP 2 rfl i rfl (by omega) (by decide) dX1_entriesInAll_15 ?_
    refine lv_if_le (tgt := 22) hx hb dX1_entriesInAll_16 (by decide) (fun c4 => ?_) (fun c4 => ?_)
    ·
      refine lv_iinc (v := (nI (i + 1))) (lv' := [(2, .int (nI (i + 1))), (1, .int (nI (Hent (hR h) i))), (0, .ref (a 0))]) hx hb dX1_entriesInAll_22 hl (k := 0) rfl (k_inc1 _) (by decide) rfl (fun ls hl => ?_)
      refine lv_goto (tgt := 4) hx hb dX1_entriesInAll_25 (by decide) ?_
      have e5 : (nI (Hent (hR h) (i + 1))) = (nI (Hent (hR h) i)) := (by first | (simp only [Hent, bI, if_neg (Nat.not_le.mpr c3), if_pos (Nat.not_le.mpr c3), if_pos c4, if_neg (not_not_intro c4)]; done) | (simp only [Hent, bI, if_neg (Nat.not_le.mpr c3), if_pos (Nat.not_le.mpr c3), if_pos c4, if_neg (not_not_intro c4)]; rfl) | rfl | (simp [Hent, bI, if_neg (Nat.not_le.mpr c3), if_pos (Nat.not_le.mpr c3), if_pos c4, if_neg (not_not_intro c4)]; done))
      exact ih1 _ _ _ (by omega) ⟨hP, hD, hS, (by rw [e5]; exact lv_sub hl [0, 1, 2] rfl)⟩
    ·
      refine lv_iinc (v := (nI ((Hent (hR h) i) + 1))) (lv' := [(1, .int (nI ((Hent (hR h) i) + 1))), (2, .int (nI i)), (0, .ref (a 0))]) hx hb dX1_entriesInAll_19 hl (k := 1) rfl (k_inc1 _) (by decide) rfl (fun ls hl => ?_)
      refine lv_iinc (v := (nI (i + 1))) (lv' := [(2, .int (nI (i + 1))), (1, .int (nI ((Hent (hR h) i) + 1))), (0, .ref (a 0))]) hx hb dX1_entriesInAll_22 hl (k := 1) rfl (k_inc1 _) (by decide) rfl (fun ls hl => ?_)
      refine lv_goto (tgt := 4) hx hb dX1_entriesInAll_25 (by decide) ?_
      have e6 : (nI (Hent (hR h) (i + 1))) = (nI ((Hent (hR h) i) + 1)) := (by first | (simp only [Hent, bI, if_neg (Nat.not_le.mpr c3), if_pos (Nat.not_le.mpr c3), if_neg c4, if_pos c4]; done) | (simp only [Hent, bI, if_neg (Nat.not_le.mpr c3), if_pos (Nat.not_le.mpr c3), if_neg c4, if_pos c4]; rfl) | rfl | (simp [Hent, bI, if_neg (Nat.not_le.mpr c3), if_pos (Nat.not_le.mpr c3), if_neg c4, if_pos c4]; done))
      exact ih1 _ _ _ (by omega) ⟨hP, hD, hS, (by rw [e6]; exact lv_sub hl [0, 1, 2] rfl)⟩
set_option maxHeartbeats 4000000 in
set_option maxRecDepth 100000 in
theorem c_X1_rowsThatGet (l : Launch) (g : kG) (a : Nat → Nat) (h : HSt) (c0 : Nat) (hc0 : c0 < 6) : KI l yX1_rowsThatGet wsX1_rowsThatGet ({ frames := 1, cells := 0, slots := 0, locals := 21 }) g [.ref (a 0), .int (nI c0)] (wH g a h) (Hget h c0 8) (wH g a h) 0 0 := by
  refine k_begin (cc := cX1_rowsThatGet) (maxL := 4) (ret := (some .int)) (Qc := fun A => kQi g (Hget h c0 8) (wH g a h) A) (by decide) rfl (Nat.le_of_ble_eq_true rfl) ?_
  intro p e s m below meth c A ls hF hr hlocks hin hE hP hD hS hA hl
  obtain ⟨hx, hb, hml, hown, hts⟩ := id hF
  have hown : s.vm.findClass RX1 = some m.cls := hown
  have hl : lv_has ls 4 [(0, .ref (a 0)), (1, .int (nI c0))] := hl
  have hiX1 : ∀ w ∈ wsX10, w ∈ wsX1_rowsThatGet := fun _ h => List.mem_cons_of_mem _ (List.mem_append_right _ (h))
  have f21 : (Cond.fieldLink RX1 21 "ConcertUsher$Hall" "openRows" "I").before _ s = true := hts _ (List.mem_of_getElem? (i := 1) rfl)
  have f15 : (Cond.fieldLink RX1 15 "ConcertUsher$Hall" "rests" "[I").before _ s = true := hts _ (List.mem_of_getElem? (i := 2) rfl)
  have sta_X3_placeOf : (Cond.static yX3_placeOf).before _ s = true := hts _ (List.mem_of_getElem? (i := 3) rfl)
  have ini_X3 : (Cond.initialized RX3).before _ s = true := hts _ (List.mem_of_getElem? (i := 4) rfl)
  refine lv_aload_n hx hb dX1_rowsThatGet_0 rfl (lv_at hl 0 rfl) ?_
  refine va_get (D := g.1) (ci := 1) (v := .int (hop h)) (C := RX1) (T := TX1) (N := 12) hx hb hts hiX1 hown hE.1 hP 0 rfl rfl 3 (by decide) f21 (fun _ h9 => h9) rfl dX1_rowsThatGet_1 ?_
  refine lv_istore_n (lv' := [(2, .int (hop h)), (0, .ref (a 0)), (1, .int (nI c0))]) hx hb dX1_rowsThatGet_4 rfl hl (by decide) rfl (fun ls hl => ?_)
  refine lv_iconst (v := (nI 0)) hx hb dX1_rowsThatGet_5 (by decide) ?_
  refine lv_istore_n (lv' := [(3, .int (nI 0)), (2, .int (hop h)), (0, .ref (a 0)), (1, .int (nI c0))]) hx hb dX1_rowsThatGet_6 rfl hl (by decide) rfl (fun ls hl => ?_)
  refine k_loop (N := 8) (Inv := fun (i : Nat) (H : Heap) (locs : List Loc) (ls : Array Slot) => va_P g.1 vwCl (wH g a h) H ∧ va_D A (wH g a h) ∧ va_S A s.heap H locs ∧ lv_has ls 4 [(3, .int (nI i)), (2, .int (Hget h c0 i)), (0, .ref (a 0)), (1, .int (nI c0))]) 0 (Nat.zero_le _) ⟨hP, hD, hS, lv_sub hl [0, 1, 2, 3] rfl⟩ (fun i hle2 ih1 H locs ls hinv => ?_)
  obtain ⟨hP, hD, hS, hl⟩ := hinv
  refine lv_iload_n hx hb dX1_rowsThatGet_7 rfl (lv_at hl 0 rfl) ?_
  refine lv_bipush (v := (nI 8)) hx hb dX1_rowsThatGet_8 (by decide) ?_
  refine k_geN (tgt := 38) hx hb (by omega) (by decide) dX1_rowsThatGet_10 (by decide) (fun c3 => ?_) (fun c3 => ?_)
  ·
    obtain rfl : 8 = i := by omega
    refine lv_iload_n hx hb dX1_rowsThatGet_38 rfl (lv_at hl 1 rfl) ?_
    have hP : va_P g.1 vwCl (wH g a h) _ := hP
    have hD : va_D A (wH g a h) := hD
    exact k_iret hx hb hr hlocks rfl rfl hP hD hS (Nat.le_of_ble_eq_true rfl) (Nat.le_of_ble_eq_true rfl) dX1_rowsThatGet_39
  ·
    refine lv_aload_n hx hb dX1_rowsThatGet_13 rfl (lv_at hl 2 rfl) ?_
    refine va_get (D := g.1) (ci := 1) (v := .ref (a 2)) (C := RX1) (T := TX1) (N := 12) hx hb hts hiX1 hown hE.1 hP 0 rfl rfl 1 (by decide) f15 (fun _ h9 => h9) rfl dX1_rowsThatGet_14 ?_
    refine lv_iload_n hx hb dX1_rowsThatGet_17 rfl (lv_at hl 0 rfl) ?_
    refine lv_iload_n hx hb dX1_rowsThatGet_18 rfl (lv_at hl 3 rfl) ?_
    refine k_SNi (w0 := []) (w1 := []) (As := [.int (nI i), .int (nI c0)]) (r := (nI (i * 6 + c0))) hF (c_X3_placeOf l g i c0) ⟨va_cnB 2 hts gX1_rowsThatGet_X3_placeOf_n67 rfl rfl rfl hE.2.1.1 ini_X3 (by decide +kernel) ⟨Nat.le_of_ble_eq_true rfl, Nat.le_of_ble_eq_true rfl⟩, sta_X3_placeOf, trivial⟩ hE hP hD hS hA (List.Perm.refl _) (List.Perm.refl _) rfl hl.1 rfl (Nat.le_of_ble_eq_true rfl) dX1_rowsThatGet_19 ⟨Nat.le_of_ble_eq_true rfl, Nat.le_of_ble_eq_true rfl⟩ (fun H locs hP hD hS => ?_)
    have hP : va_P g.1 vwCl (wH g a h) _ := hP
    have hD : va_D A (wH g a h) := hD
    refine k_iald (f := (hR h)) hx hb hE hP 2 rfl (i * 6 + c0) rfl (by omega) (by decide) dX1_rowsThatGet_22 ?_
    refine lv_if_le (tgt := 32) hx hb dX1_rowsThatGet_23 (by decide) (fun c4 => ?_) (fun c4 => ?_)
    ·
      refine lv_iinc (v := (nI (i + 1))) (lv' := [(3, .int (nI (i + 1))), (2, .int (Hget h c0 i)), (0, .ref (a 0)), (1, .int (nI c0))]) hx hb dX1_rowsThatGet_32 hl (k := 0) rfl (k_inc1 _) (by decide) rfl (fun ls hl => ?_)
      refine lv_goto (tgt := 7) hx hb dX1_rowsThatGet_35 (by decide) ?_
      have e5 : (Hget h c0 (i + 1)) = (Hget h c0 i) := (by first | (simp only [Hget, bI, if_neg (Nat.not_le.mpr c3), if_pos (Nat.not_le.mpr c3), if_pos c4, if_neg (not_not_intro c4)]; done) | (simp only [Hget, bI, if_neg (Nat.not_le.mpr c3), if_pos (Nat.not_le.mpr c3), if_pos c4, if_neg (not_not_intro c4)]; rfl) | rfl | (simp [Hget, bI, if_neg (Nat.not_le.mpr c3), if_pos (Nat.not_le.mpr c3), if_pos c4, if_neg (not_not_intro c4)]; done))
      exact ih1 _ _ _ (by omega) ⟨hP, hD, hS, (by rw [e5]; exact lv_sub hl [0, 1, 2, 3] rfl)⟩
    ·
      refine lv_iload_n hx hb dX1_rowsThatGet_26 rfl (lv_at hl 1 rfl) ?_
      refine lv_iconst (v := (nI 1)) hx hb dX1_rowsThatGet_27 (by decide) ?_
      refine lv_iload_n hx hb dX1_rowsThatGet_28 rfl (lv_at hl 0 rfl) ?_
      refine lv_ishl hx hb dX1_rowsThatGet_29 ?_
      refine lv_ior hx hb dX1_rowsThatGet_30 ?_
      refine lv_istore_n (lv' := [(2, .int ((Hget h c0 i) ||| ((nI 1) <<< ((nI i) &&& 31)))), (3, .int (nI i)), (0, .ref (a 0)), (1, .int (nI c0))]) hx hb dX1_rowsThatGet_31 rfl hl (by decide) rfl (fun ls hl => ?_)
      refine lv_iinc (v := (nI (i + 1))) (lv' := [(3, .int (nI (i + 1))), (2, .int ((Hget h c0 i) ||| ((nI 1) <<< ((nI i) &&& 31)))), (0, .ref (a 0)), (1, .int (nI c0))]) hx hb dX1_rowsThatGet_32 hl (k := 1) rfl (k_inc1 _) (by decide) rfl (fun ls hl => ?_)
      refine lv_goto (tgt := 7) hx hb dX1_rowsThatGet_35 (by decide) ?_
      have e6 : (Hget h c0 (i + 1)) = ((Hget h c0 i) ||| ((nI 1) <<< ((nI i) &&& 31))) := (by first | (simp only [Hget, bI, if_neg (Nat.not_le.mpr c3), if_pos (Nat.not_le.mpr c3), if_neg c4, if_pos c4]; done) | (simp only [Hget, bI, if_neg (Nat.not_le.mpr c3), if_pos (Nat.not_le.mpr c3), if_neg c4, if_pos c4]; rfl) | rfl | (simp [Hget, bI, if_neg (Nat.not_le.mpr c3), if_pos (Nat.not_le.mpr c3), if_neg c4, if_pos c4]; done))
      exact ih1 _ _ _ (by omega) ⟨hP, hD, hS, (by rw [e6]; exact lv_sub hl [0, 1, 2, 3] rfl)⟩
set_option maxHeartbeats 4000000 in
set_option maxRecDepth 100000 in
theorem c_X1_rowsThatWant (l : Launch) (g : kG) (a : Nat → Nat) (h : HSt) (c0 : Nat) (hc0 : c0 < 6) : KI l yX1_rowsThatWant wsX1_rowsThatWant ({ frames := 1, cells := 0, slots := 0, locals := 21 }) g [.ref (a 0), .int (nI c0)] (wH g a h) (Hwant h c0 8) (wH g a h) 0 0 := by
  refine k_begin (cc := cX1_rowsThatWant) (maxL := 4) (ret := (some .int)) (Qc := fun A => kQi g (Hwant h c0 8) (wH g a h) A) (by decide) rfl (Nat.le_of_ble_eq_true rfl) ?_
  intro p e s m below meth c A ls hF hr hlocks hin hE hP hD hS hA hl
  obtain ⟨hx, hb, hml, hown, hts⟩ := id hF
  have hown : s.vm.findClass RX1 = some m.cls := hown
  have hl : lv_has ls 4 [(0, .ref (a 0)), (1, .int (nI c0))] := hl
  have sta_X3_placeOf : (Cond.static yX3_placeOf).before _ s = true := hts _ (List.mem_of_getElem? (i := 1) rfl)
  have ini_X3 : (Cond.initialized RX3).before _ s = true := hts _ (List.mem_of_getElem? (i := 2) rfl)
  refine lv_iconst (v := (nI 0)) hx hb dX1_rowsThatWant_0 (by decide) ?_
  refine lv_istore_n (lv' := [(2, .int (nI 0)), (0, .ref (a 0)), (1, .int (nI c0))]) hx hb dX1_rowsThatWant_1 rfl hl (by decide) rfl (fun ls hl => ?_)
  refine lv_iconst (v := (nI 0)) hx hb dX1_rowsThatWant_2 (by decide) ?_
  refine lv_istore_n (lv' := [(3, .int (nI 0)), (2, .int (nI 0)), (0, .ref (a 0)), (1, .int (nI c0))]) hx hb dX1_rowsThatWant_3 rfl hl (by decide) rfl (fun ls hl => ?_)
  refine k_loop (N := 8) (Inv := fun (i : Nat) (H : Heap) (locs : List Loc) (ls : Array Slot) => va_P g.1 vwCl (wH g a h) H ∧ va_D A (wH g a h) ∧ va_S A s.heap H locs ∧ lv_has ls 4 [(3, .int (nI i)), (2, .int (Hwant h c0 i)), (0, .ref (a 0)), (1, .int (nI c0))]) 0 (Nat.zero_le _) ⟨hP, hD, hS, lv_sub hl [0, 1, 2, 3] rfl⟩ (fun i hle2 ih1 H locs ls hinv => ?_)
  obtain ⟨hP, hD, hS, hl⟩ := hinv
  refine lv_iload_n hx hb dX1_rowsThatWant_4 rfl (lv_at hl 0 rfl) ?_
  refine lv_bipush (v := (nI 8)) hx hb dX1_rowsThatWant_5 (by decide) ?_
  refine k_geN (tgt := 34) hx hb (by omega) (by decide) dX1_rowsThatWant_7 (by decide) (fun c3 => ?_) (fun c3 => ?_)
  ·
    obtain rfl : 8 = i := by omega
    refine lv_iload_n hx hb dX1_rowsThatWant_34 rfl (lv_at hl 1 rfl) ?_
    have hP : va_P g.1 vwCl (wH g a h) _ := hP
    have hD : va_D A (wH g a h) := hD
    exact k_iret hx hb hr hlocks rfl rfl hP hD hS (Nat.le_of_ble_eq_true rfl) (Nat.le_of_ble_eq_true rfl) dX1_rowsThatWant_35
  ·
    refine lv_aload_n hx hb dX1_rowsThatWant_10 rfl (lv_at hl 2 rfl) ?_
    refine lv_iload_n hx hb dX1_rowsThatWant_11 rfl (lv_at hl 0 rfl) ?_
    refine lv_iload_n hx hb dX1_rowsThatWant_12 rfl (lv_at hl 3 rfl) ?_
    refine k_SNi (w0 := []) (w1 := []) (As := [.int (nI i), .int (nI c0)]) (r := (nI (i * 6 + c0))) hF (c_X3_placeOf l g i c0) ⟨va_cnB 2 hts gX1_rowsThatWant_X3_placeOf_n67 rfl rfl rfl hE.2.1.1 ini_X3 (by decide +kernel) ⟨Nat.le_of_ble_eq_true rfl, Nat.le_of_ble_eq_true rfl⟩, sta_X3_placeOf, trivial⟩ hE hP hD hS hA (List.Perm.refl _) (List.Perm.refl _) rfl hl.1 rfl (Nat.le_of_ble_eq_true rfl) dX1_rowsThatWant_13 ⟨Nat.le_of_ble_eq_true rfl, Nat.le_of_ble_eq_true rfl⟩ (fun H locs hP hD hS => ?_)
    have hP : va_P g.1 vwCl (wH g a h) _ := hP
    have hD : va_D A (wH g a h) := hD
    refine k_Vi (As := [.int (nI (i * 6 + c0))]) (r := (bI (¬ ((hL h) (i * 6 + c0)) ≤ 0))) hF (c_X1_isWantedAt l g a h (i * 6 + c0) (by omega)) (cwV 1 hts gX1_rowsThatWant_X1_isWantedAt rfl rfl rfl (by decide +kernel) ⟨Nat.le_of_ble_eq_true rfl, Nat.le_of_ble_eq_true rfl⟩) hE hP hD hS hA (k_pall _) ((k_pall _).symm) 0 rfl rfl rfl rfl hl.1 rfl (Nat.le_of_ble_eq_true rfl) dX1_rowsThatWant_16 ⟨Nat.le_of_ble_eq_true rfl, Nat.le_of_ble_eq_true rfl⟩ (fun H locs hP hD hS => ?_)
    have hP : va_P g.1 vwCl (wH g a h) _ := hP
    have hD : va_D A (wH g a h) := hD
    refine k_ifeqB (tgt := 28) hx hb dX1_rowsThatWant_19 (by decide) (fun c4 => ?_) (fun c4 => ?_)
    ·
      refine lv_iinc (v := (nI (i + 1))) (lv' := [(3, .int (nI (i + 1))), (2, .int (Hwant h c0 i)), (0, .ref (a 0)), (1, .int (nI c0))]) hx hb dX1_rowsThatWant_28 hl (k := 0) rfl (k_inc1 _) (by decide) rfl (fun ls hl => ?_)
      refine lv_goto (tgt := 4) hx hb dX1_rowsThatWant_31 (by decide) ?_
      have e5 : (Hwant h c0 (i + 1)) = (Hwant h c0 i) := (by first | (simp only [Hwant, bI, if_neg (Nat.not_le.mpr c3), if_pos (Nat.not_le.mpr c3), if_neg c4, if_pos c4]; done) | (simp only [Hwant, bI, if_neg (Nat.not_le.mpr c3), if_pos (Nat.not_le.mpr c3), if_neg c4, if_pos c4]; rfl) | rfl | (simp [Hwant, bI, if_neg (Nat.not_le.mpr c3), if_pos (Nat.not_le.mpr c3), if_neg c4, if_pos c4]; done))
      exact ih1 _ _ _ (by omega) ⟨hP, hD, hS, (by rw [e5]; exact lv_sub hl [0, 1, 2, 3] rfl)⟩
    ·
      refine lv_iload_n hx hb dX1_rowsThatWant_22 rfl (lv_at hl 1 rfl) ?_
      refine lv_iconst (v := (nI 1)) hx hb dX1_rowsThatWant_23 (by decide) ?_
      refine lv_iload_n hx hb dX1_rowsThatWant_24 rfl (lv_at hl 0 rfl) ?_
      refine lv_ishl hx hb dX1_rowsThatWant_25 ?_
      refine lv_ior hx hb dX1_rowsThatWant_26 ?_
      refine lv_istore_n (lv' := [(2, .int ((Hwant h c0 i) ||| ((nI 1) <<< ((nI i) &&& 31)))), (3, .int (nI i)), (0, .ref (a 0)), (1, .int (nI c0))]) hx hb dX1_rowsThatWant_27 rfl hl (by decide) rfl (fun ls hl => ?_)
      refine lv_iinc (v := (nI (i + 1))) (lv' := [(3, .int (nI (i + 1))), (2, .int ((Hwant h c0 i) ||| ((nI 1) <<< ((nI i) &&& 31)))), (0, .ref (a 0)), (1, .int (nI c0))]) hx hb dX1_rowsThatWant_28 hl (k := 1) rfl (k_inc1 _) (by decide) rfl (fun ls hl => ?_)
      refine lv_goto (tgt := 4) hx hb dX1_rowsThatWant_31 (by decide) ?_
      have e6 : (Hwant h c0 (i + 1)) = ((Hwant h c0 i) ||| ((nI 1) <<< ((nI i) &&& 31))) := (by first | (simp only [Hwant, bI, if_neg (Nat.not_le.mpr c3), if_pos (Nat.not_le.mpr c3), if_pos c4, if_neg (not_not_intro c4)]; done) | (simp only [Hwant, bI, if_neg (Nat.not_le.mpr c3), if_pos (Nat.not_le.mpr c3), if_pos c4, if_neg (not_not_intro c4)]; rfl) | rfl | (simp [Hwant, bI, if_neg (Nat.not_le.mpr c3), if_pos (Nat.not_le.mpr c3), if_pos c4, if_neg (not_not_intro c4)]; done))
      exact ih1 _ _ _ (by omega) ⟨hP, hD, hS, (by rw [e6]; exact lv_sub hl [0, 1, 2, 3] rfl)⟩
set_option maxHeartbeats 4000000 in
set_option maxRecDepth 100000 in
theorem c_X1_fadeEntries (l : Launch) (g : kG) (a : Nat → Nat) (h : HSt) : KV l yX1_fadeEntries wsX1_fadeEntries ({ frames := 0, cells := 0, slots := 0, locals := 0 }) g [.ref (a 0)] (wH g a h) (wH g a (Hfade h)) 0 0 := by
  refine k_begin (cc := cX1_fadeEntries) (maxL := 2) (ret := none) (Qc := fun A => kQv g (wH g a (Hfade h)) A) (by decide) rfl (Nat.le_of_ble_eq_true rfl) ?_
  intro p e s m below meth c A ls hF hr hlocks hin hE hP hD hS hA hl
  obtain ⟨hx, hb, hml, hown, hts⟩ := id hF
  have hown : s.vm.findClass RX1 = some m.cls := hown
  have hl : lv_has ls 2 [(0, .ref (a 0))] := hl
  have hiX1 : ∀ w ∈ wsX10, w ∈ wsX1_fadeEntries := fun _ h => List.mem_cons_of_mem _ (List.mem_append_right _ (h))
  have f15 : (Cond.fieldLink RX1 15 "ConcertUsher$Hall" "rests" "[I").before _ s = true := hts _ (List.mem_of_getElem? (i := 1) rfl)
  refine lv_iconst (v := (nI 0)) hx hb dX1_fadeEntries_0 (by decide) ?_
  refine lv_istore_n (lv' := [(1, .int (nI 0)), (0, .ref (a 0))]) hx hb dX1_fadeEntries_1 rfl hl (by decide) rfl (fun ls hl => ?_)
  refine k_loop (N := 48) (Inv := fun (i : Nat) (H : Heap) (locs : List Loc) (ls : Array Slot) => va_P g.1 vwCl (wH g a (sHR h (HfadeN (hR h) i))) H ∧ va_D A (wH g a (sHR h (HfadeN (hR h) i))) ∧ va_S A s.heap H locs ∧ lv_has ls 2 [(1, .int (nI i)), (0, .ref (a 0))]) 0 (Nat.zero_le _) ⟨hP, hD, hS, lv_sub hl [0, 1] rfl⟩ (fun i hle2 ih1 H locs ls hinv => ?_)
  obtain ⟨hP, hD, hS, hl⟩ := hinv
  refine lv_iload_n hx hb dX1_fadeEntries_2 rfl (lv_at hl 0 rfl) ?_
  refine lv_bipush (v := (nI 48)) hx hb dX1_fadeEntries_3 (by decide) ?_
  refine k_geN (tgt := 33) hx hb (by omega) (by decide) dX1_fadeEntries_5 (by decide) (fun c3 => ?_) (fun c3 => ?_)
  ·
    obtain rfl : 48 = i := by omega
    have e4 : (Hfade h) = (sHR h (HfadeN (hR h) 48)) := (by first | (simp only [Hfade, if_pos c3, if_neg (not_not_intro c3)]; done) | (simp only [Hfade, if_pos c3, if_neg (not_not_intro c3)]; rfl) | rfl | (simp [Hfade, if_pos c3, if_neg (not_not_intro c3)]; done))
    have hP : va_P g.1 vwCl (wH g a (Hfade h)) H := by rw [e4]; exact hP
    have hD : va_D A (wH g a (Hfade h)) := by rw [e4]; exact hD
    exact k_vret hx hb hr hlocks hP hD hS (Nat.le_of_ble_eq_true rfl) (Nat.le_of_ble_eq_true rfl) dX1_fadeEntries_33
  ·
    refine lv_aload_n hx hb dX1_fadeEntries_8 rfl (lv_at hl 1 rfl) ?_
    refine va_get (D := g.1) (ci := 1) (v := .ref (a 2)) (C := RX1) (T := TX1) (N := 12) hx hb hts hiX1 hown hE.1 hP 0 rfl rfl 1 (by decide) f15 (fun _ h9 => h9) rfl dX1_fadeEntries_9 ?_
    refine lv_iload_n hx hb dX1_fadeEntries_12 rfl (lv_at hl 0 rfl) ?_
    refine k_iald (f := (HfadeN (hR h) i)) hx hb hE hP 2 rfl i rfl (by omega) (by decide) dX1_fadeEntries_13 ?_
    refine lv_if_le (tgt := 27) hx hb dX1_fadeEntries_14 (by decide) (fun c5 => ?_) (fun c5 => ?_)
    ·
      refine lv_iinc (v := (nI (i + 1))) (lv' := [(1, .int (nI (i + 1))), (0, .ref (a 0))]) hx hb dX1_fadeEntries_27 hl (k := 0) rfl (k_inc1 _) (by decide) rfl (fun ls hl => ?_)
      refine lv_goto (tgt := 2) hx hb dX1_fadeEntries_30 (by decide) ?_
      have e6 : (sHR h (HfadeN (hR h) (i + 1))) = (sHR h (HfadeN (hR h) i)) := (by first | (simp only [Hfade, HfadeN, if_neg (Nat.not_le.mpr c3), if_pos (Nat.not_le.mpr c3), if_pos c5, if_neg (not_not_intro c5)]; done) | (simp only [Hfade, HfadeN, if_neg (Nat.not_le.mpr c3), if_pos (Nat.not_le.mpr c3), if_pos c5, if_neg (not_not_intro c5)]; rfl) | rfl | (simp [Hfade, HfadeN, if_neg (Nat.not_le.mpr c3), if_pos (Nat.not_le.mpr c3), if_pos c5, if_neg (not_not_intro c5)]; done))
      exact ih1 _ _ _ (by omega) ⟨(by rw [e6]; exact hP), (by rw [e6]; exact hD), hS, lv_sub hl [0, 1] rfl⟩
    ·
      refine lv_aload_n hx hb dX1_fadeEntries_17 rfl (lv_at hl 1 rfl) ?_
      refine va_get (D := g.1) (ci := 1) (v := .ref (a 2)) (C := RX1) (T := TX1) (N := 12) hx hb hts hiX1 hown hE.1 hP 0 rfl rfl 1 (by decide) f15 (fun _ h9 => h9) rfl dX1_fadeEntries_18 ?_
      refine lv_iload_n hx hb dX1_fadeEntries_21 rfl (lv_at hl 0 rfl) ?_
      refine lv_dup2_11 hx hb dX1_fadeEntries_22 rfl rfl ?_
      refine k_iald (f := (HfadeN (hR h) i)) hx hb hE hP 2 rfl i rfl (by omega) (by decide) dX1_fadeEntries_23 ?_
      refine lv_iconst (v := (nI 1)) hx hb dX1_fadeEntries_24 (by decide) ?_
      refine lv_isub hx hb dX1_fadeEntries_25 ?_
      refine k_iast (f := (HfadeN (hR h) i)) (ws1 := (wH g a (sHR h (upd (HfadeN (hR h) i) i (((HfadeN (hR h) i) i) - (nI 1)))))) hx hb hE hP hD hS 2 rfl i rfl (by omega) (by decide) rfl dX1_fadeEntries_26 (fun H locs hP hD hS => ?_)
      refine lv_iinc (v := (nI (i + 1))) (lv' := [(1, .int (nI (i + 1))), (0, .ref (a 0))]) hx hb dX1_fadeEntries_27 hl (k := 0) rfl (k_inc1 _) (by decide) rfl (fun ls hl => ?_)
      refine lv_goto (tgt := 2) hx hb dX1_fadeEntries_30 (by decide) ?_
      have e7 : (sHR h (HfadeN (hR h) (i + 1))) = (sHR h (upd (HfadeN (hR h) i) i (((HfadeN (hR h) i) i) - (nI 1)))) := (by first | (simp only [Hfade, HfadeN, if_neg (Nat.not_le.mpr c3), if_pos (Nat.not_le.mpr c3), if_neg c5, if_pos c5]; done) | (simp only [Hfade, HfadeN, if_neg (Nat.not_le.mpr c3), if_pos (Nat.not_le.mpr c3), if_neg c5, if_pos c5]; rfl) | rfl | (simp [Hfade, HfadeN, if_neg (Nat.not_le.mpr c3), if_pos (Nat.not_le.mpr c3), if_neg c5, if_pos c5]; done))
      exact ih1 _ _ _ (by omega) ⟨(by rw [e7]; exact hP), (by rw [e7]; exact hD), hS, lv_sub hl [0, 1] rfl⟩
set_option maxHeartbeats 4000000 in
set_option maxRecDepth 100000 in
theorem c_X1_timeBetweenQuestions (l : Launch) (g : kG) (a : Nat → Nat) (h : HSt) : KI l yX1_timeBetweenQuestions wsX1_timeBetweenQuestions ({ frames := 1, cells := 0, slots := 0, locals := 20 }) g [.ref (a 0)] (wH g a h) (Htbq h) (wH g a h) 0 0 := by
  refine k_begin (cc := cX1_timeBetweenQuestions) (maxL := 1) (ret := (some .int)) (Qc := fun A => kQi g (Htbq h) (wH g a h) A) (by decide) rfl (Nat.le_of_ble_eq_true rfl) ?_
  intro p e s m below meth c A ls hF hr hlocks hin hE hP hD hS hA hl
  obtain ⟨hx, hb, hml, hown, hts⟩ := id hF
  have hown : s.vm.findClass RX1 = some m.cls := hown
  have hl : lv_has ls 1 [(0, .ref (a 0))] := hl
  have hiX1 : ∀ w ∈ wsX10, w ∈ wsX1_timeBetweenQuestions := fun _ h => List.mem_cons_of_mem _ (List.mem_append_right _ (h))
  have f41 : (Cond.fieldLink RX1 41 "ConcertUsher$Hall" "asking" "I").before _ s = true := hts _ (List.mem_of_getElem? (i := 1) rfl)
  refine lv_aload_n hx hb dX1_timeBetweenQuestions_0 rfl (lv_at hl 0 rfl) ?_
  refine k_Vi (As := []) (r := (Hchief h)) hF (c_X1_chiefAsker l g a h) (cwV 0 hts gX1_timeBetweenQuestions_X1_chiefAsker rfl rfl rfl (by decide +kernel) ⟨Nat.le_of_ble_eq_true rfl, Nat.le_of_ble_eq_true rfl⟩) hE hP hD hS hA (k_pall _) ((k_pall _).symm) 0 rfl rfl rfl rfl hl.1 rfl (Nat.le_of_ble_eq_true rfl) dX1_timeBetweenQuestions_1 ⟨Nat.le_of_ble_eq_true rfl, Nat.le_of_ble_eq_true rfl⟩ (fun H locs hP hD hS => ?_)
  have hP : va_P g.1 vwCl (wH g a h) _ := hP
  have hD : va_D A (wH g a h) := hD
  refine lv_if_ne (tgt := 14) hx hb dX1_timeBetweenQuestions_4 (by decide) (fun c1 => ?_) (fun c1 => ?_)
  ·
    refine lv_iconst (v := (nI 2)) hx hb dX1_timeBetweenQuestions_14 (by decide) ?_
    refine lv_aload_n hx hb dX1_timeBetweenQuestions_15 rfl (lv_at hl 0 rfl) ?_
    refine va_get (D := g.1) (ci := 1) (v := .int (has h)) (C := RX1) (T := TX1) (N := 12) hx hb hts hiX1 hown hE.1 hP 0 rfl rfl 9 (by decide) f41 (fun _ h9 => h9) rfl dX1_timeBetweenQuestions_16 ?_
    refine lv_imul hx hb dX1_timeBetweenQuestions_19 ?_
    have hP : va_P g.1 vwCl (wH g a h) _ := hP
    have hD : va_D A (wH g a h) := hD
    exact k_iret hx hb hr hlocks rfl (by first | (simp only [Htbq, bI, if_neg c1, if_pos c1]; done) | (simp only [Htbq, bI, if_neg c1, if_pos c1]; rfl) | rfl | (simp [Htbq, bI, if_neg c1, if_pos c1]; done)) hP hD hS (Nat.le_of_ble_eq_true rfl) (Nat.le_of_ble_eq_true rfl) dX1_timeBetweenQuestions_20
  ·
    refine lv_aload_n hx hb dX1_timeBetweenQuestions_7 rfl (lv_at hl 0 rfl) ?_
    refine va_get (D := g.1) (ci := 1) (v := .int (has h)) (C := RX1) (T := TX1) (N := 12) hx hb hts hiX1 hown hE.1 hP 0 rfl rfl 9 (by decide) f41 (fun _ h9 => h9) rfl dX1_timeBetweenQuestions_8 ?_
    refine lv_goto (tgt := 20) hx hb dX1_timeBetweenQuestions_11 (by decide) ?_
    have hP : va_P g.1 vwCl (wH g a h) _ := hP
    have hD : va_D A (wH g a h) := hD
    exact k_iret hx hb hr hlocks rfl (by first | (simp only [Htbq, bI, if_pos c1, if_neg (not_not_intro c1)]; done) | (simp only [Htbq, bI, if_pos c1, if_neg (not_not_intro c1)]; rfl) | rfl | (simp [Htbq, bI, if_pos c1, if_neg (not_not_intro c1)]; done)) hP hD hS (Nat.le_of_ble_eq_true rfl) (Nat.le_of_ble_eq_true rfl) dX1_timeBetweenQuestions_20
end
section
set_option maxHeartbeats 4000000 in
set_option maxRecDepth 100000 in
theorem HpassN_lt {h : HSt} {i : Nat} (c : hsn (Htk (HpassN h i)) < Htbq (Htk (HpassN h i))) : HpassN h (i + 1) = Htk (HpassN h i) := if_pos c
theorem HpassN_ge {h : HSt} {i : Nat} (c : ¬ hsn (Htk (HpassN h i)) < Htbq (Htk (HpassN h i))) : HpassN h (i + 1) = HaskAll (sHsn (Htk (HpassN h i)) (nI 0)) := if_neg c
theorem Htk_sn (h : HSt) (v : Int32) : sHsn (Htk h) v = sHsn (Hfade (sHmn h (hmn h + nI 1))) v := by unfold Htk; generalize Hfade (sHmn h (hmn h + nI 1)) = A; rfl
theorem HpassQ_lt {h : HSt} {i : Nat} (c : hsn (Htk (HpassN h i)) < Htbq (Htk (HpassN h i))) : HpassQ h (i + 1) = HpassQ h i := if_pos c
theorem HpassQ_ge {h : HSt} {i : Nat} (c : ¬ hsn (Htk (HpassN h i)) < Htbq (Htk (HpassN h i))) : HpassQ h (i + 1) = HpassQ h i + 1 := if_neg c
set_option maxHeartbeats 4000000 in
set_option maxRecDepth 100000 in
theorem c_X1_letPass (l : Launch) (g : kG) (a : Nat → Nat) (h : HSt) (sp : Nat) (hsp : sp ≤ 60) : KI l yX1_letPass wsX1_letPass ({ frames := 2, cells := 0, slots := 0, locals := 42 }) g [.ref (a 0), .int (nI sp)] (wH g a h) (nI (HpassQ h sp)) (wH g a (HpassN h sp)) 0 0 := by
  refine k_begin (cc := cX1_letPass) (maxL := 4) (ret := (some .int)) (Qc := fun A => kQi g (nI (HpassQ h sp)) (wH g a (HpassN h sp)) A) (by decide) rfl (Nat.le_of_ble_eq_true rfl) ?_
  intro p e s m below meth c A ls hF hr hlocks hin hE hP hD hS hA hl
  obtain ⟨hx, hb, hml, hown, hts⟩ := id hF
  have hown : s.vm.findClass RX1 = some m.cls := hown
  have hl : lv_has ls 4 [(0, .ref (a 0)), (1, .int (nI sp))] := hl
  have hiX1 : ∀ w ∈ wsX10, w ∈ wsX1_letPass := fun _ h => List.mem_cons_of_mem _ (List.mem_append_right _ (h))
  have f44 : (Cond.fieldLink RX1 44 "ConcertUsher$Hall" "minutes" "I").before _ s = true := hts _ (List.mem_of_getElem? (i := 1) rfl)
  have f47 : (Cond.fieldLink RX1 47 "ConcertUsher$Hall" "sinceQuestion" "I").before _ s = true := hts _ (List.mem_of_getElem? (i := 2) rfl)
  refine lv_iconst (v := (nI 0)) hx hb dX1_letPass_0 (by decide) ?_
  refine lv_istore_n (lv' := [(2, .int (nI 0)), (0, .ref (a 0)), (1, .int (nI sp))]) hx hb dX1_letPass_1 rfl hl (by decide) rfl (fun ls hl => ?_)
  refine lv_iconst (v := (nI 0)) hx hb dX1_letPass_2 (by decide) ?_
  refine lv_istore_n (lv' := [(3, .int (nI 0)), (2, .int (nI 0)), (0, .ref (a 0)), (1, .int (nI sp))]) hx hb dX1_letPass_3 rfl hl (by decide) rfl (fun ls hl => ?_)
  refine k_loop (N := sp) (Inv := fun (i : Nat) (H : Heap) (locs : List Loc) (ls : Array Slot) => va_P g.1 vwCl (wH g a (HpassN h i)) H ∧ va_D A (wH g a (HpassN h i)) ∧ va_S A s.heap H locs ∧ lv_has ls 4 [(3, .int (nI i)), (2, .int (nI (HpassQ h i))), (0, .ref (a 0)), (1, .int (nI sp))]) 0 (Nat.zero_le _) ⟨hP, hD, hS, lv_sub hl [0, 1, 2, 3] rfl⟩ (fun i hle2 ih1 H locs ls hinv => ?_)
  obtain ⟨hP, hD, hS, hl⟩ := hinv
  obtain ⟨z3, ez3⟩ : ∃ x : HSt, (HpassN h i) = x := ⟨_, rfl⟩
  rw [ez3] at hP hD
  refine lv_iload_n hx hb dX1_letPass_4 rfl (lv_at hl 0 rfl) ?_
  refine lv_iload_n hx hb dX1_letPass_5 rfl (lv_at hl 3 rfl) ?_
  refine k_geN (tgt := 62) hx hb (by omega) (by omega) dX1_letPass_6 (by decide) (fun c4 => ?_) (fun c4 => ?_)
  ·
    obtain rfl : sp = i := by omega
    refine lv_iload_n hx hb dX1_letPass_62 rfl (lv_at hl 1 rfl) ?_
    have e5 : (HpassN h sp) = z3 := (by subst ez3; first | (simp only [if_pos c4, if_neg (not_not_intro c4)]; done) | (simp only [if_pos c4, if_neg (not_not_intro c4)]; rfl) | rfl | (simp [if_pos c4, if_neg (not_not_intro c4)]; done))
    have hP : va_P g.1 vwCl (wH g a (HpassN h sp)) H := by rw [e5]; exact hP
    have hD : va_D A (wH g a (HpassN h sp)) := by rw [e5]; exact hD
    exact k_iret hx hb hr hlocks rfl (by subst ez3; first | (simp only [bI, if_pos c4, if_neg (not_not_intro c4)]; done) | (simp only [bI, if_pos c4, if_neg (not_not_intro c4)]; rfl) | rfl | (simp [bI, if_pos c4, if_neg (not_not_intro c4)]; done)) hP hD hS (Nat.le_of_ble_eq_true rfl) (Nat.le_of_ble_eq_true rfl) dX1_letPass_63
  ·
    refine lv_aload_n hx hb dX1_letPass_9 rfl (lv_at hl 2 rfl) ?_
    refine lv_dup hx hb dX1_letPass_10 rfl ?_
    refine va_get (D := g.1) (ci := 1) (v := .int (hmn z3)) (C := RX1) (T := TX1) (N := 12) hx hb hts hiX1 hown hE.1 hP 0 rfl rfl 10 (by decide) f44 (fun _ h9 => h9) rfl dX1_letPass_11 ?_
    refine lv_iconst (v := (nI 1)) hx hb dX1_letPass_14 (by decide) ?_
    refine lv_iadd hx hb dX1_letPass_15 ?_
    refine va_put (D := g.1) (ci := 1) (v := .int ((hmn z3) + (nI 1))) (ty := .int) (C := RX1) (T := TX1) (N := 12) hx hb hts hiX1 tyX1 tyX1_ok nmX1 hown hE.1 hP hD hS 0 rfl rfl 10 (by decide) f44 (fun _ h9 => h9) rfl (tyX1_ok 10 (by decide)) rfl rfl (Nat.le_of_ble_eq_true rfl) dX1_letPass_16 (fun H locs hP hD hS => ?_)
    have hP : va_P g.1 vwCl (wH g a (sHmn z3 ((hmn z3) + (nI 1)))) _ := hP
    have hD : va_D A (wH g a (sHmn z3 ((hmn z3) + (nI 1)))) := hD
    refine lv_aload_n hx hb dX1_letPass_19 rfl (lv_at hl 2 rfl) ?_
    refine k_Vv (As := []) hF (c_X1_fadeEntries l g a (sHmn z3 ((hmn z3) + (nI 1)))) (cwV 0 hts gX1_letPass_X1_fadeEntries rfl rfl rfl (by decide +kernel) ⟨Nat.le_of_ble_eq_true rfl, Nat.le_of_ble_eq_true rfl⟩) hE hP hD hS hA (k_pall _) ((k_pall _).symm) 0 rfl rfl rfl rfl hl.1 rfl (Nat.le_of_ble_eq_true rfl) dX1_letPass_20 ⟨Nat.le_of_ble_eq_true rfl, Nat.le_of_ble_eq_true rfl⟩ (fun H locs hP hD hS => ?_)
    have hP : va_P g.1 vwCl (wH g a (Hfade (sHmn z3 ((hmn z3) + (nI 1))))) _ := hP
    have hD : va_D A (wH g a (Hfade (sHmn z3 ((hmn z3) + (nI 1))))) := hD
    obtain ⟨z6, ez6⟩ : ∃ x : HSt, (Hfade (sHmn z3 ((hmn z3) + (nI 1)))) = x := ⟨_, rfl⟩
    rw [ez6] at hP hD
    refine lv_aload_n hx hb dX1_letPass_23 rfl (lv_at hl 2 rfl) ?_
    refine lv_dup hx hb dX1_letPass_24 rfl ?_
    refine va_get (D := g.1) (ci := 1) (v := .int (hsn z6)) (C := RX1) (T := TX1) (N := 12) hx hb hts hiX1 hown hE.1 hP 0 rfl rfl 11 (by decide) f47 (fun _ h9 => h9) rfl dX1_letPass_25 ?_
    refine lv_iconst (v := (nI 1)) hx hb dX1_letPass_28 (by decide) ?_
    refine lv_iadd hx hb dX1_letPass_29 ?_
    refine va_put (D := g.1) (ci := 1) (v := .int ((hsn z6) + (nI 1))) (ty := .int) (C := RX1) (T := TX1) (N := 12) hx hb hts hiX1 tyX1 tyX1_ok nmX1 hown hE.1 hP hD hS 0 rfl rfl 11 (by decide) f47 (fun _ h9 => h9) rfl (tyX1_ok 11 (by decide)) rfl rfl (Nat.le_of_ble_eq_true rfl) dX1_letPass_30 (fun H locs hP hD hS => ?_)
    have hP : va_P g.1 vwCl (wH g a (sHsn z6 ((hsn z6) + (nI 1)))) _ := hP
    have hD : va_D A (wH g a (sHsn z6 ((hsn z6) + (nI 1)))) := hD
    refine lv_aload_n hx hb dX1_letPass_33 rfl (lv_at hl 2 rfl) ?_
    refine va_get (D := g.1) (ci := 1) (v := .int ((hsn z6) + (nI 1))) (C := RX1) (T := TX1) (N := 12) hx hb hts hiX1 hown hE.1 hP 0 rfl rfl 11 (by decide) f47 (fun _ h9 => h9) rfl dX1_letPass_34 ?_
    refine lv_aload_n hx hb dX1_letPass_37 rfl (lv_at hl 2 rfl) ?_
    refine k_Vi (As := []) (r := (Htbq (sHsn z6 ((hsn z6) + (nI 1))))) hF (c_X1_timeBetweenQuestions l g a (sHsn z6 ((hsn z6) + (nI 1)))) (cwV 0 hts gX1_letPass_X1_timeBetweenQuestions rfl rfl rfl (by decide +kernel) ⟨Nat.le_of_ble_eq_true rfl, Nat.le_of_ble_eq_true rfl⟩) hE hP hD hS hA (k_pall _) ((k_pall _).symm) 0 rfl rfl rfl rfl hl.1 rfl (Nat.le_of_ble_eq_true rfl) dX1_letPass_38 ⟨Nat.le_of_ble_eq_true rfl, Nat.le_of_ble_eq_true rfl⟩ (fun H locs hP hD hS => ?_)
    have hP : va_P g.1 vwCl (wH g a (sHsn z6 ((hsn z6) + (nI 1)))) _ := hP
    have hD : va_D A (wH g a (sHsn z6 ((hsn z6) + (nI 1)))) := hD
    refine lv_icmp_lt (tgt := 56) hx hb dX1_letPass_41 (by decide) (fun c7 => ?_) (fun c7 => ?_)
    ·
      refine lv_iinc (v := (nI (i + 1))) (lv' := [(3, .int (nI (i + 1))), (2, .int (nI (HpassQ h i))), (0, .ref (a 0)), (1, .int (nI sp))]) hx hb dX1_letPass_56 hl (k := 0) rfl (k_inc1 _) (by decide) rfl (fun ls hl => ?_)
      refine lv_goto (tgt := 4) hx hb dX1_letPass_59 (by decide) ?_
      have e8 : (HpassN h (i + 1)) = (sHsn z6 ((hsn z6) + (nI 1))) := (by subst ez6; subst ez3; exact HpassN_lt c7)
      have e9 : (nI (HpassQ h (i + 1))) = (nI (HpassQ h i)) := (by subst ez6; subst ez3; exact congrArg nI (HpassQ_lt c7))
      exact ih1 _ _ _ (by omega) ⟨(by rw [e8]; exact hP), (by rw [e8]; exact hD), hS, (by rw [e9]; exact lv_sub hl [0, 1, 2, 3] rfl)⟩
    ·
      refine lv_aload_n hx hb dX1_letPass_44 rfl (lv_at hl 2 rfl) ?_
      refine lv_iconst (v := (nI 0)) hx hb dX1_letPass_45 (by decide) ?_
      refine va_put (D := g.1) (ci := 1) (v := .int (nI 0)) (ty := .int) (C := RX1) (T := TX1) (N := 12) hx hb hts hiX1 tyX1 tyX1_ok nmX1 hown hE.1 hP hD hS 0 rfl rfl 11 (by decide) f47 (fun _ h9 => h9) rfl (tyX1_ok 11 (by decide)) rfl rfl (Nat.le_of_ble_eq_true rfl) dX1_letPass_46 (fun H locs hP hD hS => ?_)
      have hP : va_P g.1 vwCl (wH g a (sHsn z6 (nI 0))) _ := hP
      have hD : va_D A (wH g a (sHsn z6 (nI 0))) := hD
      refine lv_aload_n hx hb dX1_letPass_49 rfl (lv_at hl 2 rfl) ?_
      refine k_Vv (As := []) hF (c_X1_askAllRows l g a (sHsn z6 (nI 0))) (cwV 0 hts gX1_letPass_X1_askAllRows rfl rfl rfl (by decide +kernel) ⟨Nat.le_of_ble_eq_true rfl, Nat.le_of_ble_eq_true rfl⟩) hE hP hD hS hA (k_pall _) ((k_pall _).symm) 0 rfl rfl rfl rfl hl.1 rfl (Nat.le_of_ble_eq_true rfl) dX1_letPass_50 ⟨Nat.le_of_ble_eq_true rfl, Nat.le_of_ble_eq_true rfl⟩ (fun H locs hP hD hS => ?_)
      have hP : va_P g.1 vwCl (wH g a (HaskAll (sHsn z6 (nI 0)))) _ := hP
      have hD : va_D A (wH g a (HaskAll (sHsn z6 (nI 0)))) := hD
      obtain ⟨z10, ez10⟩ : ∃ x : HSt, (HaskAll (sHsn z6 (nI 0))) = x := ⟨_, rfl⟩
      rw [ez10] at hP hD
      refine lv_iinc (v := (nI ((HpassQ h i) + 1))) (lv' := [(2, .int (nI ((HpassQ h i) + 1))), (3, .int (nI i)), (0, .ref (a 0)), (1, .int (nI sp))]) hx hb dX1_letPass_53 hl (k := 1) rfl (k_inc1 _) (by decide) rfl (fun ls hl => ?_)
      refine lv_iinc (v := (nI (i + 1))) (lv' := [(3, .int (nI (i + 1))), (2, .int (nI ((HpassQ h i) + 1))), (0, .ref (a 0)), (1, .int (nI sp))]) hx hb dX1_letPass_56 hl (k := 1) rfl (k_inc1 _) (by decide) rfl (fun ls hl => ?_)
      refine lv_goto (tgt := 4) hx hb dX1_letPass_59 (by decide) ?_
      have e11 : (HpassN h (i + 1)) = z10 := (by subst ez10; subst ez6; subst ez3; exact (HpassN_ge c7).trans (congrArg HaskAll (Htk_sn _ _)))
      have e12 : (nI (HpassQ h (i + 1))) = (nI ((HpassQ h i) + 1)) := (by subst ez10; subst ez6; subst ez3; exact congrArg nI (HpassQ_ge c7))
      exact ih1 _ _ _ (by omega) ⟨(by rw [e11]; exact hP), (by rw [e11]; exact hD), hS, (by rw [e12]; exact lv_sub hl [0, 1, 2, 3] rfl)⟩
end
section
set_option maxHeartbeats 4000000 in
set_option maxRecDepth 100000 in
theorem c_X1_perform (l : Launch) (g : kG) (a : Nat → Nat) (h : HSt) (c0 : Nat) (hc0 : c0 < 6) : KI l yX1_perform wsX1_perform ({ frames := 2, cells := 0, slots := 0, locals := 44 }) g [.ref (a 0), .int (nI c0)] (wH g a h) (bc (Hget h c0 8)) (wH g a (Hperf c0 h)) 0 0 := by
  refine k_begin (cc := cX1_perform) (maxL := 4) (ret := (some .int)) (Qc := fun A => kQi g (bc (Hget h c0 8)) (wH g a (Hperf c0 h)) A) (by decide) rfl (Nat.le_of_ble_eq_true rfl) ?_
  intro p e s m below meth c A ls hF hr hlocks hin hE hP hD hS hA hl
  obtain ⟨hx, hb, hml, hown, hts⟩ := id hF
  have hown : s.vm.findClass RX1 = some m.cls := hown
  have hl : lv_has ls 4 [(0, .ref (a 0)), (1, .int (nI c0))] := hl
  have hiX1 : ∀ w ∈ wsX10, w ∈ wsX1_perform := fun _ h => List.mem_cons_of_mem _ (List.mem_append_right _ (h))
  have f18 : (Cond.fieldLink RX1 18 "ConcertUsher$Hall" "counts" "[I").before _ s = true := hts _ (List.mem_of_getElem? (i := 1) rfl)
  refine lv_aload_n hx hb dX1_perform_0 rfl (lv_at hl 0 rfl) ?_
  refine lv_iload_n hx hb dX1_perform_1 rfl (lv_at hl 1 rfl) ?_
  refine k_Vi (As := [.int (nI c0)]) (r := (Hget h c0 8)) hF (c_X1_rowsThatGet l g a h c0 (by omega)) (cwV 1 hts gX1_perform_X1_rowsThatGet rfl rfl rfl (by decide +kernel) ⟨Nat.le_of_ble_eq_true rfl, Nat.le_of_ble_eq_true rfl⟩) hE hP hD hS hA (k_pall _) ((k_pall _).symm) 0 rfl rfl rfl rfl hl.1 rfl (Nat.le_of_ble_eq_true rfl) dX1_perform_2 ⟨Nat.le_of_ble_eq_true rfl, Nat.le_of_ble_eq_true rfl⟩ (fun H locs hP hD hS => ?_)
  have hP : va_P g.1 vwCl (wH g a h) _ := hP
  have hD : va_D A (wH g a h) := hD
  refine lv_istore_n (lv' := [(2, .int (Hget h c0 8)), (0, .ref (a 0)), (1, .int (nI c0))]) hx hb dX1_perform_5 rfl hl (by decide) rfl (fun ls hl => ?_)
  refine lv_aload_n hx hb dX1_perform_6 rfl (lv_at hl 1 rfl) ?_
  refine lv_iload_n hx hb dX1_perform_7 rfl (lv_at hl 2 rfl) ?_
  refine k_Vi (As := [.int (nI c0)]) (r := (Hwant h c0 8)) hF (c_X1_rowsThatWant l g a h c0 (by omega)) (cwV 1 hts gX1_perform_X1_rowsThatWant rfl rfl rfl (by decide +kernel) ⟨Nat.le_of_ble_eq_true rfl, Nat.le_of_ble_eq_true rfl⟩) hE hP hD hS hA (k_pall _) ((k_pall _).symm) 0 rfl rfl rfl rfl hl.1 rfl (Nat.le_of_ble_eq_true rfl) dX1_perform_8 ⟨Nat.le_of_ble_eq_true rfl, Nat.le_of_ble_eq_true rfl⟩ (fun H locs hP hD hS => ?_)
  have hP : va_P g.1 vwCl (wH g a h) _ := hP
  have hD : va_D A (wH g a h) := hD
  refine lv_istore_n (lv' := [(3, .int (Hwant h c0 8)), (2, .int (Hget h c0 8)), (0, .ref (a 0)), (1, .int (nI c0))]) hx hb dX1_perform_11 rfl hl (by decide) rfl (fun ls hl => ?_)
  refine lv_aload_n hx hb dX1_perform_12 rfl (lv_at hl 2 rfl) ?_
  refine va_get (D := g.1) (ci := 1) (v := .ref (a 3)) (C := RX1) (T := TX1) (N := 12) hx hb hts hiX1 hown hE.1 hP 0 rfl rfl 2 (by decide) f18 (fun _ h9 => h9) rfl dX1_perform_13 ?_
  refine lv_iconst (v := (nI 0)) hx hb dX1_perform_16 (by decide) ?_
  refine lv_dup2_11 hx hb dX1_perform_17 rfl rfl ?_
  refine k_iald (f := (hC h)) hx hb hE hP 3 rfl 0 rfl (by decide) (by decide) dX1_perform_18 ?_
  refine lv_iload_n hx hb dX1_perform_19 rfl (lv_at hl 1 rfl) ?_
  refine lv_iload_n hx hb dX1_perform_20 rfl (lv_at hl 0 rfl) ?_
  refine lv_iand hx hb dX1_perform_21 ?_
  refine k_Si (w0 := []) (w1 := []) (As := [.int ((Hget h c0 8) &&& (Hwant h c0 8))]) (r := (bc ((Hget h c0 8) &&& (Hwant h c0 8)))) hF (c_J6_bitCount_0f7a4 l g ((Hget h c0 8) &&& (Hwant h c0 8))) (va_cwS 1 hts gX1_perform_J6_bitCount_0f7a4 rfl rfl rfl (by decide +kernel) ⟨Nat.le_of_ble_eq_true rfl, Nat.le_of_ble_eq_true rfl⟩) hE hP hD hS hA (List.Perm.refl _) (List.Perm.refl _) rfl hl.1 rfl (Nat.le_of_ble_eq_true rfl) dX1_perform_22 ⟨Nat.le_of_ble_eq_true rfl, Nat.le_of_ble_eq_true rfl⟩ (fun H locs hP hD hS => ?_)
  have hP : va_P g.1 vwCl (wH g a h) _ := hP
  have hD : va_D A (wH g a h) := hD
  refine lv_iadd hx hb dX1_perform_25 ?_
  refine k_iast (f := (hC h)) (ws1 := (wH g a (sHC h (upd (hC h) 0 (((hC h) 0) + (bc ((Hget h c0 8) &&& (Hwant h c0 8)))))))) hx hb hE hP hD hS 3 rfl 0 rfl (by decide) (by decide) rfl dX1_perform_26 (fun H locs hP hD hS => ?_)
  refine lv_aload_n hx hb dX1_perform_27 rfl (lv_at hl 2 rfl) ?_
  refine va_get (D := g.1) (ci := 1) (v := .ref (a 3)) (C := RX1) (T := TX1) (N := 12) hx hb hts hiX1 hown hE.1 hP 0 rfl rfl 2 (by decide) f18 (fun _ h9 => h9) rfl dX1_perform_28 ?_
  refine lv_iconst (v := (nI 1)) hx hb dX1_perform_31 (by decide) ?_
  refine lv_dup2_11 hx hb dX1_perform_32 rfl rfl ?_
  refine k_iald (f := (upd (hC h) 0 (((hC h) 0) + (bc ((Hget h c0 8) &&& (Hwant h c0 8)))))) hx hb hE hP 3 rfl 1 rfl (by decide) (by decide) dX1_perform_33 ?_
  refine lv_iload_n hx hb dX1_perform_34 rfl (lv_at hl 1 rfl) ?_
  refine lv_iload_n hx hb dX1_perform_35 rfl (lv_at hl 0 rfl) ?_
  refine lv_iconst (v := (-1)) hx hb dX1_perform_36 (by decide) ?_
  refine lv_ixor hx hb dX1_perform_37 ?_
  refine lv_iand hx hb dX1_perform_38 ?_
  refine k_Si (w0 := []) (w1 := []) (As := [.int ((Hget h c0 8) &&& ((Hwant h c0 8) ^^^ (-1)))]) (r := (bc ((Hget h c0 8) &&& ((Hwant h c0 8) ^^^ (-1))))) hF (c_J6_bitCount_0f7a4 l g ((Hget h c0 8) &&& ((Hwant h c0 8) ^^^ (-1)))) (va_cwS 1 hts gX1_perform_J6_bitCount_0f7a4 rfl rfl rfl (by decide +kernel) ⟨Nat.le_of_ble_eq_true rfl, Nat.le_of_ble_eq_true rfl⟩) hE hP hD hS hA (List.Perm.refl _) (List.Perm.refl _) rfl hl.1 rfl (Nat.le_of_ble_eq_true rfl) dX1_perform_39 ⟨Nat.le_of_ble_eq_true rfl, Nat.le_of_ble_eq_true rfl⟩ (fun H locs hP hD hS => ?_)
  have hP : va_P g.1 vwCl (wH g a (sHC h (upd (hC h) 0 (((hC h) 0) + (bc ((Hget h c0 8) &&& (Hwant h c0 8))))))) _ := hP
  have hD : va_D A (wH g a (sHC h (upd (hC h) 0 (((hC h) 0) + (bc ((Hget h c0 8) &&& (Hwant h c0 8))))))) := hD
  refine lv_iadd hx hb dX1_perform_42 ?_
  refine k_iast (f := (upd (hC h) 0 (((hC h) 0) + (bc ((Hget h c0 8) &&& (Hwant h c0 8)))))) (ws1 := (wH g a (sHC h (upd (upd (hC h) 0 (((hC h) 0) + (bc ((Hget h c0 8) &&& (Hwant h c0 8))))) 1 (((upd (hC h) 0 (((hC h) 0) + (bc ((Hget h c0 8) &&& (Hwant h c0 8))))) 1) + (bc ((Hget h c0 8) &&& ((Hwant h c0 8) ^^^ (-1))))))))) hx hb hE hP hD hS 3 rfl 1 rfl (by decide) (by decide) rfl dX1_perform_43 (fun H locs hP hD hS => ?_)
  refine lv_aload_n hx hb dX1_perform_44 rfl (lv_at hl 2 rfl) ?_
  refine va_get (D := g.1) (ci := 1) (v := .ref (a 3)) (C := RX1) (T := TX1) (N := 12) hx hb hts hiX1 hown hE.1 hP 0 rfl rfl 2 (by decide) f18 (fun _ h9 => h9) rfl dX1_perform_45 ?_
  refine lv_iconst (v := (nI 2)) hx hb dX1_perform_48 (by decide) ?_
  refine lv_dup2_11 hx hb dX1_perform_49 rfl rfl ?_
  refine k_iald (f := (upd (upd (hC h) 0 (((hC h) 0) + (bc ((Hget h c0 8) &&& (Hwant h c0 8))))) 1 (((upd (hC h) 0 (((hC h) 0) + (bc ((Hget h c0 8) &&& (Hwant h c0 8))))) 1) + (bc ((Hget h c0 8) &&& ((Hwant h c0 8) ^^^ (-1))))))) hx hb hE hP 3 rfl 2 rfl (by decide) (by decide) dX1_perform_50 ?_
  refine lv_iload_n hx hb dX1_perform_51 rfl (lv_at hl 0 rfl) ?_
  refine lv_iload_n hx hb dX1_perform_52 rfl (lv_at hl 1 rfl) ?_
  refine lv_iconst (v := (-1)) hx hb dX1_perform_53 (by decide) ?_
  refine lv_ixor hx hb dX1_perform_54 ?_
  refine lv_iand hx hb dX1_perform_55 ?_
  refine k_Si (w0 := []) (w1 := []) (As := [.int ((Hwant h c0 8) &&& ((Hget h c0 8) ^^^ (-1)))]) (r := (bc ((Hwant h c0 8) &&& ((Hget h c0 8) ^^^ (-1))))) hF (c_J6_bitCount_0f7a4 l g ((Hwant h c0 8) &&& ((Hget h c0 8) ^^^ (-1)))) (va_cwS 1 hts gX1_perform_J6_bitCount_0f7a4 rfl rfl rfl (by decide +kernel) ⟨Nat.le_of_ble_eq_true rfl, Nat.le_of_ble_eq_true rfl⟩) hE hP hD hS hA (List.Perm.refl _) (List.Perm.refl _) rfl hl.1 rfl (Nat.le_of_ble_eq_true rfl) dX1_perform_56 ⟨Nat.le_of_ble_eq_true rfl, Nat.le_of_ble_eq_true rfl⟩ (fun H locs hP hD hS => ?_)
  have hP : va_P g.1 vwCl (wH g a (sHC h (upd (upd (hC h) 0 (((hC h) 0) + (bc ((Hget h c0 8) &&& (Hwant h c0 8))))) 1 (((upd (hC h) 0 (((hC h) 0) + (bc ((Hget h c0 8) &&& (Hwant h c0 8))))) 1) + (bc ((Hget h c0 8) &&& ((Hwant h c0 8) ^^^ (-1)))))))) _ := hP
  have hD : va_D A (wH g a (sHC h (upd (upd (hC h) 0 (((hC h) 0) + (bc ((Hget h c0 8) &&& (Hwant h c0 8))))) 1 (((upd (hC h) 0 (((hC h) 0) + (bc ((Hget h c0 8) &&& (Hwant h c0 8))))) 1) + (bc ((Hget h c0 8) &&& ((Hwant h c0 8) ^^^ (-1)))))))) := hD
  refine lv_iadd hx hb dX1_perform_59 ?_
  refine k_iast (f := (upd (upd (hC h) 0 (((hC h) 0) + (bc ((Hget h c0 8) &&& (Hwant h c0 8))))) 1 (((upd (hC h) 0 (((hC h) 0) + (bc ((Hget h c0 8) &&& (Hwant h c0 8))))) 1) + (bc ((Hget h c0 8) &&& ((Hwant h c0 8) ^^^ (-1))))))) (ws1 := (wH g a (sHC h (upd (upd (upd (hC h) 0 (((hC h) 0) + (bc ((Hget h c0 8) &&& (Hwant h c0 8))))) 1 (((upd (hC h) 0 (((hC h) 0) + (bc ((Hget h c0 8) &&& (Hwant h c0 8))))) 1) + (bc ((Hget h c0 8) &&& ((Hwant h c0 8) ^^^ (-1)))))) 2 (((upd (upd (hC h) 0 (((hC h) 0) + (bc ((Hget h c0 8) &&& (Hwant h c0 8))))) 1 (((upd (hC h) 0 (((hC h) 0) + (bc ((Hget h c0 8) &&& (Hwant h c0 8))))) 1) + (bc ((Hget h c0 8) &&& ((Hwant h c0 8) ^^^ (-1)))))) 2) + (bc ((Hwant h c0 8) &&& ((Hget h c0 8) ^^^ (-1))))))))) hx hb hE hP hD hS 3 rfl 2 rfl (by decide) (by decide) rfl dX1_perform_60 (fun H locs hP hD hS => ?_)
  refine lv_iload_n hx hb dX1_perform_61 rfl (lv_at hl 1 rfl) ?_
  refine k_Si (w0 := []) (w1 := []) (As := [.int (Hget h c0 8)]) (r := (bc (Hget h c0 8))) hF (c_J6_bitCount_0f7a4 l g (Hget h c0 8)) (va_cwS 1 hts gX1_perform_J6_bitCount_0f7a4 rfl rfl rfl (by decide +kernel) ⟨Nat.le_of_ble_eq_true rfl, Nat.le_of_ble_eq_true rfl⟩) hE hP hD hS hA (List.Perm.refl _) (List.Perm.refl _) rfl hl.1 rfl (Nat.le_of_ble_eq_true rfl) dX1_perform_62 ⟨Nat.le_of_ble_eq_true rfl, Nat.le_of_ble_eq_true rfl⟩ (fun H locs hP hD hS => ?_)
  have hP : va_P g.1 vwCl (wH g a (sHC h (upd (upd (upd (hC h) 0 (((hC h) 0) + (bc ((Hget h c0 8) &&& (Hwant h c0 8))))) 1 (((upd (hC h) 0 (((hC h) 0) + (bc ((Hget h c0 8) &&& (Hwant h c0 8))))) 1) + (bc ((Hget h c0 8) &&& ((Hwant h c0 8) ^^^ (-1)))))) 2 (((upd (upd (hC h) 0 (((hC h) 0) + (bc ((Hget h c0 8) &&& (Hwant h c0 8))))) 1 (((upd (hC h) 0 (((hC h) 0) + (bc ((Hget h c0 8) &&& (Hwant h c0 8))))) 1) + (bc ((Hget h c0 8) &&& ((Hwant h c0 8) ^^^ (-1)))))) 2) + (bc ((Hwant h c0 8) &&& ((Hget h c0 8) ^^^ (-1)))))))) _ := hP
  have hD : va_D A (wH g a (sHC h (upd (upd (upd (hC h) 0 (((hC h) 0) + (bc ((Hget h c0 8) &&& (Hwant h c0 8))))) 1 (((upd (hC h) 0 (((hC h) 0) + (bc ((Hget h c0 8) &&& (Hwant h c0 8))))) 1) + (bc ((Hget h c0 8) &&& ((Hwant h c0 8) ^^^ (-1)))))) 2 (((upd (upd (hC h) 0 (((hC h) 0) + (bc ((Hget h c0 8) &&& (Hwant h c0 8))))) 1 (((upd (hC h) 0 (((hC h) 0) + (bc ((Hget h c0 8) &&& (Hwant h c0 8))))) 1) + (bc ((Hget h c0 8) &&& ((Hwant h c0 8) ^^^ (-1)))))) 2) + (bc ((Hwant h c0 8) &&& ((Hget h c0 8) ^^^ (-1)))))))) := hD
  have hP : va_P g.1 vwCl (wH g a (Hperf c0 h)) _ := hP
  have hD : va_D A (wH g a (Hperf c0 h)) := hD
  exact k_iret hx hb hr hlocks rfl rfl hP hD hS (Nat.le_of_ble_eq_true rfl) (Nat.le_of_ble_eq_true rfl) dX1_perform_65
set_option maxHeartbeats 4000000 in
set_option maxRecDepth 100000 in
theorem c_X1_asksIn (l : Launch) (g : kG) (a : Nat → Nat) (h : HSt) : KI l yX1_asksIn wsX1_asksIn ({ frames := 2, cells := 0, slots := 0, locals := 40 }) g [.ref (a 0)] (wH g a h) (HasksIn h) (wH g a h) 0 0 := by
  refine k_begin (cc := cX1_asksIn) (maxL := 1) (ret := (some .int)) (Qc := fun A => kQi g (HasksIn h) (wH g a h) A) (by decide) rfl (Nat.le_of_ble_eq_true rfl) ?_
  intro p e s m below meth c A ls hF hr hlocks hin hE hP hD hS hA hl
  obtain ⟨hx, hb, hml, hown, hts⟩ := id hF
  have hown : s.vm.findClass RX1 = some m.cls := hown
  have hl : lv_has ls 1 [(0, .ref (a 0))] := hl
  have hiX1 : ∀ w ∈ wsX10, w ∈ wsX1_asksIn := fun _ h => List.mem_cons_of_mem _ (List.mem_append_right _ (h))
  have f47 : (Cond.fieldLink RX1 47 "ConcertUsher$Hall" "sinceQuestion" "I").before _ s = true := hts _ (List.mem_of_getElem? (i := 1) rfl)
  have mml : (Cond.methodLink RX1 96 Lib.Math.max.name).before _ s = true := hts _ (List.mem_of_getElem? (i := 2) rfl)
  have mms : (Cond.static Lib.Math.max.name).before _ s = true := hts _ (List.mem_of_getElem? (i := 3) rfl)
  have mmi : (Cond.initialized "java/lang/Math").before _ s = true := hts _ (List.mem_of_getElem? (i := 4) rfl)
  have mmc : (Cond.code Lib.Math.max.name Lib.Math.max.code 2 (some .int)).before _ s = true := hts _ (List.mem_of_getElem? (i := 5) rfl)
  refine lv_iconst (v := (nI 1)) hx hb dX1_asksIn_0 (by decide) ?_
  refine lv_aload_n hx hb dX1_asksIn_1 rfl (lv_at hl 0 rfl) ?_
  refine k_Vi (As := []) (r := (Htbq h)) hF (c_X1_timeBetweenQuestions l g a h) (cwV 0 hts gX1_asksIn_X1_timeBetweenQuestions rfl rfl rfl (by decide +kernel) ⟨Nat.le_of_ble_eq_true rfl, Nat.le_of_ble_eq_true rfl⟩) hE hP hD hS hA (k_pall _) ((k_pall _).symm) 0 rfl rfl rfl rfl hl.1 rfl (Nat.le_of_ble_eq_true rfl) dX1_asksIn_2 ⟨Nat.le_of_ble_eq_true rfl, Nat.le_of_ble_eq_true rfl⟩ (fun H locs hP hD hS => ?_)
  have hP : va_P g.1 vwCl (wH g a h) _ := hP
  have hD : va_D A (wH g a h) := hD
  refine lv_aload_n hx hb dX1_asksIn_5 rfl (lv_at hl 0 rfl) ?_
  refine va_get (D := g.1) (ci := 1) (v := .int (hsn h)) (C := RX1) (T := TX1) (N := 12) hx hb hts hiX1 hown hE.1 hP 0 rfl rfl 11 (by decide) f47 (fun _ h9 => h9) rfl dX1_asksIn_6 ?_
  refine lv_isub hx hb dX1_asksIn_9 ?_
  refine va_mmax hx hb (hml.trans hl.1.symm) hown mml mms mmi mmc (Nat.le_of_ble_eq_true rfl) (Nat.le_of_ble_eq_true rfl) (Nat.le_of_ble_eq_true rfl) (Nat.le_of_ble_eq_true rfl) dX1_asksIn_10 ?_
  have hP : va_P g.1 vwCl (wH g a h) _ := hP
  have hD : va_D A (wH g a h) := hD
  exact k_iret hx hb hr hlocks rfl (by first | rfl | (simp only [HasksIn, bI]; done) | (simp only [HasksIn, bI]; rfl) | (simp [HasksIn, bI]; done)) hP hD hS (Nat.le_of_ble_eq_true rfl) (Nat.le_of_ble_eq_true rfl) dX1_asksIn_13
set_option maxHeartbeats 4000000 in
set_option maxRecDepth 100000 in
theorem c_X1_fadesIn (l : Launch) (g : kG) (a : Nat → Nat) (h : HSt) (k : Nat) (hk : k < 48) : KI l yX1_fadesIn wsX1_fadesIn ({ frames := 3, cells := 0, slots := 0, locals := 60 }) g [.ref (a 0), .int (nI k)] (wH g a h) (HfadesIn k h) (wH g a h) 0 0 := by
  refine k_begin (cc := cX1_fadesIn) (maxL := 3) (ret := (some .int)) (Qc := fun A => kQi g (HfadesIn k h) (wH g a h) A) (by decide) rfl (Nat.le_of_ble_eq_true rfl) ?_
  intro p e s m below meth c A ls hF hr hlocks hin hE hP hD hS hA hl
  obtain ⟨hx, hb, hml, hown, hts⟩ := id hF
  have hown : s.vm.findClass RX1 = some m.cls := hown
  have hl : lv_has ls 3 [(0, .ref (a 0)), (1, .int (nI k))] := hl
  have hiX1 : ∀ w ∈ wsX10, w ∈ wsX1_fadesIn := fun _ h => List.mem_cons_of_mem _ (List.mem_append_right _ (h))
  have f15 : (Cond.fieldLink RX1 15 "ConcertUsher$Hall" "rests" "[I").before _ s = true := hts _ (List.mem_of_getElem? (i := 1) rfl)
  have f35 : (Cond.fieldLink RX1 35 "ConcertUsher$Hall" "fading" "I").before _ s = true := hts _ (List.mem_of_getElem? (i := 2) rfl)
  refine lv_aload_n hx hb dX1_fadesIn_0 rfl (lv_at hl 0 rfl) ?_
  refine k_Vi (As := []) (r := (HasksIn h)) hF (c_X1_asksIn l g a h) (cwV 0 hts gX1_fadesIn_X1_asksIn rfl rfl rfl (by decide +kernel) ⟨Nat.le_of_ble_eq_true rfl, Nat.le_of_ble_eq_true rfl⟩) hE hP hD hS hA (k_pall _) ((k_pall _).symm) 0 rfl rfl rfl rfl hl.1 rfl (Nat.le_of_ble_eq_true rfl) dX1_fadesIn_1 ⟨Nat.le_of_ble_eq_true rfl, Nat.le_of_ble_eq_true rfl⟩ (fun H locs hP hD hS => ?_)
  have hP : va_P g.1 vwCl (wH g a h) _ := hP
  have hD : va_D A (wH g a h) := hD
  refine lv_istore_n (lv' := [(2, .int (HasksIn h)), (0, .ref (a 0)), (1, .int (nI k))]) hx hb dX1_fadesIn_4 rfl hl (by decide) rfl (fun ls hl => ?_)
  refine lv_aload_n hx hb dX1_fadesIn_5 rfl (lv_at hl 1 rfl) ?_
  refine lv_iload_n hx hb dX1_fadesIn_6 rfl (lv_at hl 2 rfl) ?_
  refine k_Vi (As := [.int (nI k)]) (r := (bI (¬ ((hL h) k) ≤ 0))) hF (c_X1_isWantedAt l g a h k (by omega)) (cwV 1 hts gX1_fadesIn_X1_isWantedAt rfl rfl rfl (by decide +kernel) ⟨Nat.le_of_ble_eq_true rfl, Nat.le_of_ble_eq_true rfl⟩) hE hP hD hS hA (k_pall _) ((k_pall _).symm) 0 rfl rfl rfl rfl hl.1 rfl (Nat.le_of_ble_eq_true rfl) dX1_fadesIn_7 ⟨Nat.le_of_ble_eq_true rfl, Nat.le_of_ble_eq_true rfl⟩ (fun H locs hP hD hS => ?_)
  have hP : va_P g.1 vwCl (wH g a h) _ := hP
  have hD : va_D A (wH g a h) := hD
  refine k_ifeqB (tgt := 23) hx hb dX1_fadesIn_10 (by decide) (fun c1 => ?_) (fun c1 => ?_)
  ·
    refine lv_aload_n hx hb dX1_fadesIn_23 rfl (lv_at hl 1 rfl) ?_
    refine va_get (D := g.1) (ci := 1) (v := .ref (a 2)) (C := RX1) (T := TX1) (N := 12) hx hb hts hiX1 hown hE.1 hP 0 rfl rfl 1 (by decide) f15 (fun _ h9 => h9) rfl dX1_fadesIn_24 ?_
    refine lv_iload_n hx hb dX1_fadesIn_27 rfl (lv_at hl 2 rfl) ?_
    refine k_iald (f := (hR h)) hx hb hE hP 2 rfl k rfl (by omega) (by decide) dX1_fadesIn_28 ?_
    have hP : va_P g.1 vwCl (wH g a h) _ := hP
    have hD : va_D A (wH g a h) := hD
    exact k_iret hx hb hr hlocks rfl (by first | (simp only [HfadesIn, bI, if_neg c1, if_pos c1]; done) | (simp only [HfadesIn, bI, if_neg c1, if_pos c1]; rfl) | rfl | (simp [HfadesIn, bI, if_neg c1, if_pos c1]; done)) hP hD hS (Nat.le_of_ble_eq_true rfl) (Nat.le_of_ble_eq_true rfl) dX1_fadesIn_29
  ·
    refine lv_aload_n hx hb dX1_fadesIn_13 rfl (lv_at hl 1 rfl) ?_
    refine va_get (D := g.1) (ci := 1) (v := .ref (a 2)) (C := RX1) (T := TX1) (N := 12) hx hb hts hiX1 hown hE.1 hP 0 rfl rfl 1 (by decide) f15 (fun _ h9 => h9) rfl dX1_fadesIn_14 ?_
    refine lv_iload_n hx hb dX1_fadesIn_17 rfl (lv_at hl 2 rfl) ?_
    refine k_iald (f := (hR h)) hx hb hE hP 2 rfl k rfl (by omega) (by decide) dX1_fadesIn_18 ?_
    refine lv_iload_n hx hb dX1_fadesIn_19 rfl (lv_at hl 0 rfl) ?_
    refine lv_icmp_ge (tgt := 30) hx hb dX1_fadesIn_20 (by decide) (fun c2 => ?_) (fun c2 => ?_)
    ·
      refine lv_aload_n hx hb dX1_fadesIn_30 rfl (lv_at hl 1 rfl) ?_
      refine va_get (D := g.1) (ci := 1) (v := .int (hfd h)) (C := RX1) (T := TX1) (N := 12) hx hb hts hiX1 hown hE.1 hP 0 rfl rfl 7 (by decide) f35 (fun _ h9 => h9) rfl dX1_fadesIn_31 ?_
      refine lv_aload_n hx hb dX1_fadesIn_34 rfl (lv_at hl 1 rfl) ?_
      refine k_Vi (As := []) (r := (Htbq h)) hF (c_X1_timeBetweenQuestions l g a h) (cwV 0 hts gX1_fadesIn_X1_timeBetweenQuestions rfl rfl rfl (by decide +kernel) ⟨Nat.le_of_ble_eq_true rfl, Nat.le_of_ble_eq_true rfl⟩) hE hP hD hS hA (k_pall _) ((k_pall _).symm) 0 rfl rfl rfl rfl hl.1 rfl (Nat.le_of_ble_eq_true rfl) dX1_fadesIn_35 ⟨Nat.le_of_ble_eq_true rfl, Nat.le_of_ble_eq_true rfl⟩ (fun H locs hP hD hS => ?_)
      have hP : va_P g.1 vwCl (wH g a h) _ := hP
      have hD : va_D A (wH g a h) := hD
      refine lv_icmp_ge (tgt := 50) hx hb dX1_fadesIn_38 (by decide) (fun c3 => ?_) (fun c3 => ?_)
      ·
        refine lv_iconst (v := (-1)) hx hb dX1_fadesIn_50 (by decide) ?_
        have hP : va_P g.1 vwCl (wH g a h) _ := hP
        have hD : va_D A (wH g a h) := hD
        exact k_iret hx hb hr hlocks rfl (by first | (simp only [HfadesIn, bI, if_pos c1, if_neg (not_not_intro c1), if_pos c2, if_neg (not_not_intro c2), if_pos c3, if_neg (not_not_intro c3)]; done) | (simp only [HfadesIn, bI, if_pos c1, if_neg (not_not_intro c1), if_pos c2, if_neg (not_not_intro c2), if_pos c3, if_neg (not_not_intro c3)]; rfl) | rfl | (simp [HfadesIn, bI, if_pos c1, if_neg (not_not_intro c1), if_pos c2, if_neg (not_not_intro c2), if_pos c3, if_neg (not_not_intro c3)]; done)) hP hD hS (Nat.le_of_ble_eq_true rfl) (Nat.le_of_ble_eq_true rfl) dX1_fadesIn_51
      ·
        refine lv_iload_n hx hb dX1_fadesIn_41 rfl (lv_at hl 0 rfl) ?_
        refine lv_aload_n hx hb dX1_fadesIn_42 rfl (lv_at hl 1 rfl) ?_
        refine va_get (D := g.1) (ci := 1) (v := .int (hfd h)) (C := RX1) (T := TX1) (N := 12) hx hb hts hiX1 hown hE.1 hP 0 rfl rfl 7 (by decide) f35 (fun _ h9 => h9) rfl dX1_fadesIn_43 ?_
        refine lv_iadd hx hb dX1_fadesIn_46 ?_
        refine lv_goto (tgt := 51) hx hb dX1_fadesIn_47 (by decide) ?_
        have hP : va_P g.1 vwCl (wH g a h) _ := hP
        have hD : va_D A (wH g a h) := hD
        exact k_iret hx hb hr hlocks rfl (by first | (simp only [HfadesIn, bI, if_pos c1, if_neg (not_not_intro c1), if_pos c2, if_neg (not_not_intro c2), if_neg c3, if_pos c3]; done) | (simp only [HfadesIn, bI, if_pos c1, if_neg (not_not_intro c1), if_pos c2, if_neg (not_not_intro c2), if_neg c3, if_pos c3]; rfl) | rfl | (simp [HfadesIn, bI, if_pos c1, if_neg (not_not_intro c1), if_pos c2, if_neg (not_not_intro c2), if_neg c3, if_pos c3]; done)) hP hD hS (Nat.le_of_ble_eq_true rfl) (Nat.le_of_ble_eq_true rfl) dX1_fadesIn_51
    ·
      refine lv_aload_n hx hb dX1_fadesIn_23 rfl (lv_at hl 1 rfl) ?_
      refine va_get (D := g.1) (ci := 1) (v := .ref (a 2)) (C := RX1) (T := TX1) (N := 12) hx hb hts hiX1 hown hE.1 hP 0 rfl rfl 1 (by decide) f15 (fun _ h9 => h9) rfl dX1_fadesIn_24 ?_
      refine lv_iload_n hx hb dX1_fadesIn_27 rfl (lv_at hl 2 rfl) ?_
      refine k_iald (f := (hR h)) hx hb hE hP 2 rfl k rfl (by omega) (by decide) dX1_fadesIn_28 ?_
      have hP : va_P g.1 vwCl (wH g a h) _ := hP
      have hD : va_D A (wH g a h) := hD
      exact k_iret hx hb hr hlocks rfl (by first | (simp only [HfadesIn, bI, if_pos c1, if_neg (not_not_intro c1), if_neg c2, if_pos c2]; done) | (simp only [HfadesIn, bI, if_pos c1, if_neg (not_not_intro c1), if_neg c2, if_pos c2]; rfl) | rfl | (simp [HfadesIn, bI, if_pos c1, if_neg (not_not_intro c1), if_neg c2, if_pos c2]; done)) hP hD hS (Nat.le_of_ble_eq_true rfl) (Nat.le_of_ble_eq_true rfl) dX1_fadesIn_29
end
section
/-! halls laid aside and taken back -/
theorem k_P_set {D : va_G} {cl : List vw_C} {p a n : Nat} {cA : ClassId} {ws : va_W} {f f2 : Nat → Int32} {H : Heap} (hP : va_P D cl (ws.set p (a, .inl (cA, n, .inl f))) H) (hp : p < ws.length) (hf : ∀ k, k < n → f k = f2 k) : va_P D cl (ws.set p (a, .inl (cA, n, .inl f2))) H := by
  intro k q hq
  by_cases hk : k = p
  · subst hk
    rw [List.getElem?_set_self hp] at hq
    cases hq
    exact k_at_ext hf (hP k _ (by rw [List.getElem?_set_self hp]))
  · rw [List.getElem?_set_ne (Ne.symm hk)] at hq
    exact hP k q (by rw [List.getElem?_set_ne (Ne.symm hk)]; exact hq)
section KC
variable {p : Program} {l : Launch} {e : Env} {R : Room} {s : State} {m : MethodId} {args : Array Value} {below : List Frame} {meth : Method} {c : Code} {H : Heap} {locs : List Loc} {cells slots : Nat} {Q : State → Prop}
variable {cc : ByteArray} {pc : Nat} {ls : Array Slot} {rest : List Value} {g : kG} {A : Nat → Prop} {a : Nat} {ws ws1 : va_W}
theorem k_copyi (hexec : p.tables.exec = Jvm.exec) (hb : c.code = cc) (hml : c.maxLocals = ls.size) {own : String} {index : Nat} (hown : s.vm.findClass own = some m.cls) (hlink : (Cond.methodLink own index arraycopyName).before args s = true) (hnat : (Cond.native arraycopyName).before args s = true) (hstat : (Cond.static arraycopyName).before args s = true) (hini : (Cond.initialized "java/lang/System").before args s = true) (hE : kE g s)
    (hP : va_P g.1 vwCl ws H) (hD : va_D A ws) (hS : va_S A s.heap H locs) (q0 q1 : Nat) {a0 n : Nat} {f f2 : Nat → Int32} (ha0 : ws[q0]? = some (a0, .inl (g.2.1, n, .inl f))) (ha1 : ws[q1]? = some (a, .inl (g.2.1, n, .inl f2))) (hw : ws.set q1 (a, .inl (g.2.1, n, .inl f)) = ws1)
    (hframes : 1 ≤ R.frames) (hlocals : (rest.map fun v => v.category).sum + (nativeFrameWords "java/lang/System" "arraycopy" 5 + 11) ≤ R.locals) (hdg : decode cc pc = .ok (.invokestatic index, 3)) (hn : n < 2 ^ 31)
    (kk : ∀ (H1 : Heap) (locs1 : List Loc), va_P g.1 vwCl ws1 H1 → va_D A ws1 → va_S A s.heap H1 locs1 → W p l e R s m args below meth c H1 locs1 cells slots Q (F0 m (pc + 3) ls rest)) : W p l e R s m args below meth c H locs cells slots Q (F0 m pc ls (.int (nI n) :: .int (nI 0) :: .ref a :: .int (nI 0) :: .ref a0 :: rest)) := by
  have e0 : (nI 0).toNatClampNeg = 0 := nI_clamp (by decide)
  have en : (nI n).toNatClampNeg = n := nI_clamp hn
  refine va_copyi hexec hb hml hown hlink hnat hstat hini hE.1 hP hD hS q0 q1 0 0 ha0 ha1 rfl rfl rfl (nI_pos (by decide)) (nI_pos (by decide)) (nI_pos hn) (by rw [e0, en]; omega) (by rw [e0, en]; omega) (fun _ _ => rfl) hframes hlocals hdg (fun H1 locs1 hP1 hD1 hS1 => ?_)
  have hq1 : q1 < ws.length := (List.getElem?_eq_some_iff.mp ha1).1
  rw [e0, en] at hP1 hD1
  subst hw
  exact kk H1 locs1 (k_P_set hP1 hq1 (fun k hk => by rw [pk_cpy_in (Nat.zero_le k) (by omega)]; congr 1; omega)) (k_D_set hD1 hq1) hS1
end KC
/-- the ring without the hall j -/
def wHsX (g : kG) (ak : Nat → Nat → Nat) (hs : Nat → HSt) (j : Nat) : Nat → va_W
  | 0 => []
  | n + 1 => (if n = j then [] else wH g (ak n) (hs n)) ++ wHsX g ak hs j n
theorem wHsX_all {g : kG} {ak : Nat → Nat → Nat} {hs : Nat → HSt} {j : Nat} : ∀ n, n ≤ j → wHsX g ak hs j n = wHs g ak hs n
  | 0, _ => rfl
  | n + 1, h => by
    show (if n = j then [] else wH g (ak n) (hs n)) ++ wHsX g ak hs j n = wH g (ak n) (hs n) ++ wHs g ak hs n
    rw [if_neg (by omega), wHsX_all n (by omega)]
theorem wHs_perm {g : kG} {ak : Nat → Nat → Nat} {hs : Nat → HSt} {j : Nat} : ∀ n, j < n → (wHs g ak hs n).Perm (wH g (ak j) (hs j) ++ wHsX g ak hs j n)
  | 0, h => absurd h (Nat.not_lt_zero j)
  | n + 1, h => by
    show (wH g (ak n) (hs n) ++ wHs g ak hs n).Perm (wH g (ak j) (hs j) ++ ((if n = j then [] else wH g (ak n) (hs n)) ++ wHsX g ak hs j n))
    by_cases e : n = j
    · subst e
      rw [if_pos rfl, wHsX_all n (Nat.le_refl n)]
      exact List.Perm.refl _
    · rw [if_neg e]
      exact ((wHs_perm n (by omega)).append_left _).trans pm_swap
theorem wHsX_up {g : kG} {ak : Nat → Nat → Nat} {hs : Nat → HSt} {j : Nat} {h : HSt} : ∀ n, wHsX g ak (va_up hs j h) j n = wHsX g ak hs j n
  | 0 => rfl
  | n + 1 => by
    show (if n = j then [] else wH g (ak n) (va_up hs j h n)) ++ wHsX g ak (va_up hs j h) j n = (if n = j then [] else wH g (ak n) (hs n)) ++ wHsX g ak hs j n
    rw [wHsX_up n]
    by_cases e : n = j
    · rw [if_pos e, if_pos e]
    · rw [if_neg e, if_neg e, show va_up hs j h n = hs n from if_neg e]
theorem wHs_perm_up {g : kG} {ak : Nat → Nat → Nat} {hs : Nat → HSt} {j n : Nat} {h : HSt} (hj : j < n) : (wHs g ak (va_up hs j h) n).Perm (wH g (ak j) h ++ wHsX g ak hs j n) := by
  have z := wHs_perm (g := g) (ak := ak) (hs := va_up hs j h) n hj
  rw [wHsX_up, show va_up hs j h j = h from if_pos rfl] at z
  exact z
theorem ring_at {g : kG} {ak : Nat → Nat → Nat} {hs : Nat → HSt} {j : Nat} (hj : j < 6) {a b : va_W} : ∃ (q0 : Nat) (fs : List Value), (a ++ (wHs g ak hs 6 ++ b))[q0]? = some (ak j 0, .inr (1, fs)) := by
  have hm : ∀ q ∈ wH g (ak j) (hs j), q ∈ wHs g ak hs 6 := fun q hq => (wHs_perm 6 hj).mem_iff.mpr (List.mem_append_left _ hq)
  have h3 := hm _ List.mem_cons_self
  obtain ⟨q0, hq⟩ := List.mem_iff_getElem?.mp (List.mem_append_right a (List.mem_append_left b h3))
  exact ⟨q0, _, hq⟩
set_option maxHeartbeats 4000000 in
set_option maxRecDepth 100000 in
theorem c_X1_copyFrom (l : Launch) (g : kG) (a b : Nat → Nat) (h h2 : HSt) (hbo : Hbo h2) : KV l yX1_copyFrom wsX1_copyFrom ({ frames := 1, cells := 0, slots := 0, locals := 60 }) g [.ref (a 0), .ref (b 0)] ((wH g a h) ++ (wH g b h2)) ((wH g a h2) ++ (wH g b h2)) 0 0 := by
  refine k_begin (cc := cX1_copyFrom) (maxL := 2) (ret := none) (Qc := fun A => kQv g ((wH g a h2) ++ (wH g b h2)) A) (by decide) rfl (Nat.le_of_ble_eq_true rfl) ?_
  intro p e s m below meth c A ls hF hr hlocks hin hE hP hD hS hA hl
  obtain ⟨hx, hb, hml, hown, hts⟩ := id hF
  have hown : s.vm.findClass RX1 = some m.cls := hown
  have hl : lv_has ls 2 [(0, .ref (a 0)), (1, .ref (b 0))] := hl
  have hiX1 : ∀ w ∈ wsX10, w ∈ wsX1_copyFrom := fun _ h => List.mem_cons_of_mem _ (List.mem_append_right _ (h))
  have f9 : (Cond.fieldLink RX1 9 "ConcertUsher$Hall" "listeners" "[I").before _ s = true := hts _ (List.mem_of_getElem? (i := 1) rfl)
  have acl : (Cond.methodLink RX1 50 arraycopyName).before _ s = true := hts _ (List.mem_of_getElem? (i := 2) rfl)
  have acn : (Cond.native arraycopyName).before _ s = true := hts _ (List.mem_of_getElem? (i := 3) rfl)
  have acs : (Cond.static arraycopyName).before _ s = true := hts _ (List.mem_of_getElem? (i := 4) rfl)
  have aci : (Cond.initialized "java/lang/System").before _ s = true := hts _ (List.mem_of_getElem? (i := 5) rfl)
  have f15 : (Cond.fieldLink RX1 15 "ConcertUsher$Hall" "rests" "[I").before _ s = true := hts _ (List.mem_of_getElem? (i := 6) rfl)
  have f18 : (Cond.fieldLink RX1 18 "ConcertUsher$Hall" "counts" "[I").before _ s = true := hts _ (List.mem_of_getElem? (i := 7) rfl)
  have f21 : (Cond.fieldLink RX1 21 "ConcertUsher$Hall" "openRows" "I").before _ s = true := hts _ (List.mem_of_getElem? (i := 8) rfl)
  have f25 : (Cond.fieldLink RX1 25 "ConcertUsher$Hall" "isQuick" "Z").before _ s = true := hts _ (List.mem_of_getElem? (i := 9) rfl)
  have f29 : (Cond.fieldLink RX1 29 "ConcertUsher$Hall" "isFirstPresent" "Z").before _ s = true := hts _ (List.mem_of_getElem? (i := 10) rfl)
  have f32 : (Cond.fieldLink RX1 32 "ConcertUsher$Hall" "isSecondPresent" "Z").before _ s = true := hts _ (List.mem_of_getElem? (i := 11) rfl)
  have f35 : (Cond.fieldLink RX1 35 "ConcertUsher$Hall" "fading" "I").before _ s = true := hts _ (List.mem_of_getElem? (i := 12) rfl)
  have f38 : (Cond.fieldLink RX1 38 "ConcertUsher$Hall" "patience" "I").before _ s = true := hts _ (List.mem_of_getElem? (i := 13) rfl)
  have f41 : (Cond.fieldLink RX1 41 "ConcertUsher$Hall" "asking" "I").before _ s = true := hts _ (List.mem_of_getElem? (i := 14) rfl)
  have f44 : (Cond.fieldLink RX1 44 "ConcertUsher$Hall" "minutes" "I").before _ s = true := hts _ (List.mem_of_getElem? (i := 15) rfl)
  have f47 : (Cond.fieldLink RX1 47 "ConcertUsher$Hall" "sinceQuestion" "I").before _ s = true := hts _ (List.mem_of_getElem? (i := 16) rfl)
  refine lv_aload_n hx hb dX1_copyFrom_0 rfl (lv_at hl 1 rfl) ?_
  refine va_get (D := g.1) (ci := 1) (v := .ref (b 1)) (C := RX1) (T := TX1) (N := 12) hx hb hts hiX1 hown hE.1 hP 4 rfl rfl 0 (by decide) f9 (fun _ h9 => h9) rfl dX1_copyFrom_1 ?_
  refine lv_iconst (v := (nI 0)) hx hb dX1_copyFrom_4 (by decide) ?_
  refine lv_aload_n hx hb dX1_copyFrom_5 rfl (lv_at hl 0 rfl) ?_
  refine va_get (D := g.1) (ci := 1) (v := .ref (a 1)) (C := RX1) (T := TX1) (N := 12) hx hb hts hiX1 hown hE.1 hP 0 rfl rfl 0 (by decide) f9 (fun _ h9 => h9) rfl dX1_copyFrom_6 ?_
  refine lv_iconst (v := (nI 0)) hx hb dX1_copyFrom_9 (by decide) ?_
  refine lv_bipush (v := (nI 48)) hx hb dX1_copyFrom_10 (by decide) ?_
  refine k_copyi (n := 48) (ws1 := ((wH g a (sHL h (hL h2))) ++ (wH g b h2))) hx hb (hml.trans hl.1.symm) hown acl acn acs aci hE hP hD hS 5 1 rfl rfl rfl (Nat.le_of_ble_eq_true rfl) (by decide) dX1_copyFrom_12 (by decide) (fun H locs hP hD hS => ?_)
  refine lv_aload_n hx hb dX1_copyFrom_15 rfl (lv_at hl 1 rfl) ?_
  refine va_get (D := g.1) (ci := 1) (v := .ref (b 2)) (C := RX1) (T := TX1) (N := 12) hx hb hts hiX1 hown hE.1 hP 4 rfl rfl 1 (by decide) f15 (fun _ h9 => h9) rfl dX1_copyFrom_16 ?_
  refine lv_iconst (v := (nI 0)) hx hb dX1_copyFrom_19 (by decide) ?_
  refine lv_aload_n hx hb dX1_copyFrom_20 rfl (lv_at hl 0 rfl) ?_
  refine va_get (D := g.1) (ci := 1) (v := .ref (a 2)) (C := RX1) (T := TX1) (N := 12) hx hb hts hiX1 hown hE.1 hP 0 rfl rfl 1 (by decide) f15 (fun _ h9 => h9) rfl dX1_copyFrom_21 ?_
  refine lv_iconst (v := (nI 0)) hx hb dX1_copyFrom_24 (by decide) ?_
  refine lv_bipush (v := (nI 48)) hx hb dX1_copyFrom_25 (by decide) ?_
  refine k_copyi (n := 48) (ws1 := ((wH g a (sHR (sHL h (hL h2)) (hR h2))) ++ (wH g b h2))) hx hb (hml.trans hl.1.symm) hown acl acn acs aci hE hP hD hS 6 2 rfl rfl rfl (Nat.le_of_ble_eq_true rfl) (by decide) dX1_copyFrom_27 (by decide) (fun H locs hP hD hS => ?_)
  refine lv_aload_n hx hb dX1_copyFrom_30 rfl (lv_at hl 1 rfl) ?_
  refine va_get (D := g.1) (ci := 1) (v := .ref (b 3)) (C := RX1) (T := TX1) (N := 12) hx hb hts hiX1 hown hE.1 hP 4 rfl rfl 2 (by decide) f18 (fun _ h9 => h9) rfl dX1_copyFrom_31 ?_
  refine lv_iconst (v := (nI 0)) hx hb dX1_copyFrom_34 (by decide) ?_
  refine lv_aload_n hx hb dX1_copyFrom_35 rfl (lv_at hl 0 rfl) ?_
  refine va_get (D := g.1) (ci := 1) (v := .ref (a 3)) (C := RX1) (T := TX1) (N := 12) hx hb hts hiX1 hown hE.1 hP 0 rfl rfl 2 (by decide) f18 (fun _ h9 => h9) rfl dX1_copyFrom_36 ?_
  refine lv_iconst (v := (nI 0)) hx hb dX1_copyFrom_39 (by decide) ?_
  refine lv_bipush (v := (nI 6)) hx hb dX1_copyFrom_40 (by decide) ?_
  refine k_copyi (n := 6) (ws1 := ((wH g a (sHC (sHR (sHL h (hL h2)) (hR h2)) (hC h2))) ++ (wH g b h2))) hx hb (hml.trans hl.1.symm) hown acl acn acs aci hE hP hD hS 7 3 rfl rfl rfl (Nat.le_of_ble_eq_true rfl) (by decide) dX1_copyFrom_42 (by decide) (fun H locs hP hD hS => ?_)
  refine lv_aload_n hx hb dX1_copyFrom_45 rfl (lv_at hl 0 rfl) ?_
  refine lv_aload_n hx hb dX1_copyFrom_46 rfl (lv_at hl 1 rfl) ?_
  refine va_get (D := g.1) (ci := 1) (v := .int (hop h2)) (C := RX1) (T := TX1) (N := 12) hx hb hts hiX1 hown hE.1 hP 4 rfl rfl 3 (by decide) f21 (fun _ h9 => h9) rfl dX1_copyFrom_47 ?_
  refine va_put (D := g.1) (ci := 1) (v := .int (hop h2)) (ty := .int) (C := RX1) (T := TX1) (N := 12) hx hb hts hiX1 tyX1 tyX1_ok nmX1 hown hE.1 hP hD hS 0 rfl rfl 3 (by decide) f21 (fun _ h9 => h9) rfl (tyX1_ok 3 (by decide)) rfl rfl (Nat.le_of_ble_eq_true rfl) dX1_copyFrom_50 (fun H locs hP hD hS => ?_)
  have hP : va_P g.1 vwCl ((wH g a (sHop (sHC (sHR (sHL h (hL h2)) (hR h2)) (hC h2)) (hop h2))) ++ (wH g b h2)) _ := hP
  have hD : va_D A ((wH g a (sHop (sHC (sHR (sHL h (hL h2)) (hR h2)) (hC h2)) (hop h2))) ++ (wH g b h2)) := hD
  refine lv_aload_n hx hb dX1_copyFrom_53 rfl (lv_at hl 0 rfl) ?_
  refine lv_aload_n hx hb dX1_copyFrom_54 rfl (lv_at hl 1 rfl) ?_
  refine va_get (D := g.1) (ci := 1) (v := .int (hqk h2)) (C := RX1) (T := TX1) (N := 12) hx hb hts hiX1 hown hE.1 hP 4 rfl rfl 4 (by decide) f25 (fun _ h9 => h9) rfl dX1_copyFrom_55 ?_
  refine va_put (D := g.1) (ci := 1) (v := .int (hqk h2)) (ty := .boolean) (C := RX1) (T := TX1) (N := 12) hx hb hts hiX1 tyX1 tyX1_ok nmX1 hown hE.1 hP hD hS 0 rfl rfl 4 (by decide) f25 (fun _ h9 => h9) rfl (tyX1_ok 4 (by decide)) (bo_nar hbo.1) (bo_fits hbo.1) (Nat.le_of_ble_eq_true rfl) dX1_copyFrom_58 (fun H locs hP hD hS => ?_)
  have hP : va_P g.1 vwCl ((wH g a (sHqk (sHop (sHC (sHR (sHL h (hL h2)) (hR h2)) (hC h2)) (hop h2)) (hqk h2))) ++ (wH g b h2)) _ := hP
  have hD : va_D A ((wH g a (sHqk (sHop (sHC (sHR (sHL h (hL h2)) (hR h2)) (hC h2)) (hop h2)) (hqk h2))) ++ (wH g b h2)) := hD
  refine lv_aload_n hx hb dX1_copyFrom_61 rfl (lv_at hl 0 rfl) ?_
  refine lv_aload_n hx hb dX1_copyFrom_62 rfl (lv_at hl 1 rfl) ?_
  refine va_get (D := g.1) (ci := 1) (v := .int (hf1 h2)) (C := RX1) (T := TX1) (N := 12) hx hb hts hiX1 hown hE.1 hP 4 rfl rfl 5 (by decide) f29 (fun _ h9 => h9) rfl dX1_copyFrom_63 ?_
  refine va_put (D := g.1) (ci := 1) (v := .int (hf1 h2)) (ty := .boolean) (C := RX1) (T := TX1) (N := 12) hx hb hts hiX1 tyX1 tyX1_ok nmX1 hown hE.1 hP hD hS 0 rfl rfl 5 (by decide) f29 (fun _ h9 => h9) rfl (tyX1_ok 5 (by decide)) (bo_nar hbo.2.1) (bo_fits hbo.2.1) (Nat.le_of_ble_eq_true rfl) dX1_copyFrom_66 (fun H locs hP hD hS => ?_)
  have hP : va_P g.1 vwCl ((wH g a (sHf1 (sHqk (sHop (sHC (sHR (sHL h (hL h2)) (hR h2)) (hC h2)) (hop h2)) (hqk h2)) (hf1 h2))) ++ (wH g b h2)) _ := hP
  have hD : va_D A ((wH g a (sHf1 (sHqk (sHop (sHC (sHR (sHL h (hL h2)) (hR h2)) (hC h2)) (hop h2)) (hqk h2)) (hf1 h2))) ++ (wH g b h2)) := hD
  refine lv_aload_n hx hb dX1_copyFrom_69 rfl (lv_at hl 0 rfl) ?_
  refine lv_aload_n hx hb dX1_copyFrom_70 rfl (lv_at hl 1 rfl) ?_
  refine va_get (D := g.1) (ci := 1) (v := .int (hf2 h2)) (C := RX1) (T := TX1) (N := 12) hx hb hts hiX1 hown hE.1 hP 4 rfl rfl 6 (by decide) f32 (fun _ h9 => h9) rfl dX1_copyFrom_71 ?_
  refine va_put (D := g.1) (ci := 1) (v := .int (hf2 h2)) (ty := .boolean) (C := RX1) (T := TX1) (N := 12) hx hb hts hiX1 tyX1 tyX1_ok nmX1 hown hE.1 hP hD hS 0 rfl rfl 6 (by decide) f32 (fun _ h9 => h9) rfl (tyX1_ok 6 (by decide)) (bo_nar hbo.2.2) (bo_fits hbo.2.2) (Nat.le_of_ble_eq_true rfl) dX1_copyFrom_74 (fun H locs hP hD hS => ?_)
  have hP : va_P g.1 vwCl ((wH g a (sHf2 (sHf1 (sHqk (sHop (sHC (sHR (sHL h (hL h2)) (hR h2)) (hC h2)) (hop h2)) (hqk h2)) (hf1 h2)) (hf2 h2))) ++ (wH g b h2)) _ := hP
  have hD : va_D A ((wH g a (sHf2 (sHf1 (sHqk (sHop (sHC (sHR (sHL h (hL h2)) (hR h2)) (hC h2)) (hop h2)) (hqk h2)) (hf1 h2)) (hf2 h2))) ++ (wH g b h2)) := hD
  refine lv_aload_n hx hb dX1_copyFrom_77 rfl (lv_at hl 0 rfl) ?_
  refine lv_aload_n hx hb dX1_copyFrom_78 rfl (lv_at hl 1 rfl) ?_
  refine va_get (D := g.1) (ci := 1) (v := .int (hfd h2)) (C := RX1) (T := TX1) (N := 12) hx hb hts hiX1 hown hE.1 hP 4 rfl rfl 7 (by decide) f35 (fun _ h9 => h9) rfl dX1_copyFrom_79 ?_
  refine va_put (D := g.1) (ci := 1) (v := .int (hfd h2)) (ty := .int) (C := RX1) (T := TX1) (N := 12) hx hb hts hiX1 tyX1 tyX1_ok nmX1 hown hE.1 hP hD hS 0 rfl rfl 7 (by decide) f35 (fun _ h9 => h9) rfl (tyX1_ok 7 (by decide)) rfl rfl (Nat.le_of_ble_eq_true rfl) dX1_copyFrom_82 (fun H locs hP hD hS => ?_)
  have hP : va_P g.1 vwCl ((wH g a (sHfd (sHf2 (sHf1 (sHqk (sHop (sHC (sHR (sHL h (hL h2)) (hR h2)) (hC h2)) (hop h2)) (hqk h2)) (hf1 h2)) (hf2 h2)) (hfd h2))) ++ (wH g b h2)) _ := hP
  have hD : va_D A ((wH g a (sHfd (sHf2 (sHf1 (sHqk (sHop (sHC (sHR (sHL h (hL h2)) (hR h2)) (hC h2)) (hop h2)) (hqk h2)) (hf1 h2)) (hf2 h2)) (hfd h2))) ++ (wH g b h2)) := hD
  refine lv_aload_n hx hb dX1_copyFrom_85 rfl (lv_at hl 0 rfl) ?_
  refine lv_aload_n hx hb dX1_copyFrom_86 rfl (lv_at hl 1 rfl) ?_
  refine va_get (D := g.1) (ci := 1) (v := .int (hpt h2)) (C := RX1) (T := TX1) (N := 12) hx hb hts hiX1 hown hE.1 hP 4 rfl rfl 8 (by decide) f38 (fun _ h9 => h9) rfl dX1_copyFrom_87 ?_
  refine va_put (D := g.1) (ci := 1) (v := .int (hpt h2)) (ty := .int) (C := RX1) (T := TX1) (N := 12) hx hb hts hiX1 tyX1 tyX1_ok nmX1 hown hE.1 hP hD hS 0 rfl rfl 8 (by decide) f38 (fun _ h9 => h9) rfl (tyX1_ok 8 (by decide)) rfl rfl (Nat.le_of_ble_eq_true rfl) dX1_copyFrom_90 (fun H locs hP hD hS => ?_)
  have hP : va_P g.1 vwCl ((wH g a (sHpt (sHfd (sHf2 (sHf1 (sHqk (sHop (sHC (sHR (sHL h (hL h2)) (hR h2)) (hC h2)) (hop h2)) (hqk h2)) (hf1 h2)) (hf2 h2)) (hfd h2)) (hpt h2))) ++ (wH g b h2)) _ := hP
  have hD : va_D A ((wH g a (sHpt (sHfd (sHf2 (sHf1 (sHqk (sHop (sHC (sHR (sHL h (hL h2)) (hR h2)) (hC h2)) (hop h2)) (hqk h2)) (hf1 h2)) (hf2 h2)) (hfd h2)) (hpt h2))) ++ (wH g b h2)) := hD
  refine lv_aload_n hx hb dX1_copyFrom_93 rfl (lv_at hl 0 rfl) ?_
  refine lv_aload_n hx hb dX1_copyFrom_94 rfl (lv_at hl 1 rfl) ?_
  refine va_get (D := g.1) (ci := 1) (v := .int (has h2)) (C := RX1) (T := TX1) (N := 12) hx hb hts hiX1 hown hE.1 hP 4 rfl rfl 9 (by decide) f41 (fun _ h9 => h9) rfl dX1_copyFrom_95 ?_
  refine va_put (D := g.1) (ci := 1) (v := .int (has h2)) (ty := .int) (C := RX1) (T := TX1) (N := 12) hx hb hts hiX1 tyX1 tyX1_ok nmX1 hown hE.1 hP hD hS 0 rfl rfl 9 (by decide) f41 (fun _ h9 => h9) rfl (tyX1_ok 9 (by decide)) rfl rfl (Nat.le_of_ble_eq_true rfl) dX1_copyFrom_98 (fun H locs hP hD hS => ?_)
  have hP : va_P g.1 vwCl ((wH g a (sHas (sHpt (sHfd (sHf2 (sHf1 (sHqk (sHop (sHC (sHR (sHL h (hL h2)) (hR h2)) (hC h2)) (hop h2)) (hqk h2)) (hf1 h2)) (hf2 h2)) (hfd h2)) (hpt h2)) (has h2))) ++ (wH g b h2)) _ := hP
  have hD : va_D A ((wH g a (sHas (sHpt (sHfd (sHf2 (sHf1 (sHqk (sHop (sHC (sHR (sHL h (hL h2)) (hR h2)) (hC h2)) (hop h2)) (hqk h2)) (hf1 h2)) (hf2 h2)) (hfd h2)) (hpt h2)) (has h2))) ++ (wH g b h2)) := hD
  refine lv_aload_n hx hb dX1_copyFrom_101 rfl (lv_at hl 0 rfl) ?_
  refine lv_aload_n hx hb dX1_copyFrom_102 rfl (lv_at hl 1 rfl) ?_
  refine va_get (D := g.1) (ci := 1) (v := .int (hmn h2)) (C := RX1) (T := TX1) (N := 12) hx hb hts hiX1 hown hE.1 hP 4 rfl rfl 10 (by decide) f44 (fun _ h9 => h9) rfl dX1_copyFrom_103 ?_
  refine va_put (D := g.1) (ci := 1) (v := .int (hmn h2)) (ty := .int) (C := RX1) (T := TX1) (N := 12) hx hb hts hiX1 tyX1 tyX1_ok nmX1 hown hE.1 hP hD hS 0 rfl rfl 10 (by decide) f44 (fun _ h9 => h9) rfl (tyX1_ok 10 (by decide)) rfl rfl (Nat.le_of_ble_eq_true rfl) dX1_copyFrom_106 (fun H locs hP hD hS => ?_)
  have hP : va_P g.1 vwCl ((wH g a (sHmn (sHas (sHpt (sHfd (sHf2 (sHf1 (sHqk (sHop (sHC (sHR (sHL h (hL h2)) (hR h2)) (hC h2)) (hop h2)) (hqk h2)) (hf1 h2)) (hf2 h2)) (hfd h2)) (hpt h2)) (has h2)) (hmn h2))) ++ (wH g b h2)) _ := hP
  have hD : va_D A ((wH g a (sHmn (sHas (sHpt (sHfd (sHf2 (sHf1 (sHqk (sHop (sHC (sHR (sHL h (hL h2)) (hR h2)) (hC h2)) (hop h2)) (hqk h2)) (hf1 h2)) (hf2 h2)) (hfd h2)) (hpt h2)) (has h2)) (hmn h2))) ++ (wH g b h2)) := hD
  refine lv_aload_n hx hb dX1_copyFrom_109 rfl (lv_at hl 0 rfl) ?_
  refine lv_aload_n hx hb dX1_copyFrom_110 rfl (lv_at hl 1 rfl) ?_
  refine va_get (D := g.1) (ci := 1) (v := .int (hsn h2)) (C := RX1) (T := TX1) (N := 12) hx hb hts hiX1 hown hE.1 hP 4 rfl rfl 11 (by decide) f47 (fun _ h9 => h9) rfl dX1_copyFrom_111 ?_
  refine va_put (D := g.1) (ci := 1) (v := .int (hsn h2)) (ty := .int) (C := RX1) (T := TX1) (N := 12) hx hb hts hiX1 tyX1 tyX1_ok nmX1 hown hE.1 hP hD hS 0 rfl rfl 11 (by decide) f47 (fun _ h9 => h9) rfl (tyX1_ok 11 (by decide)) rfl rfl (Nat.le_of_ble_eq_true rfl) dX1_copyFrom_114 (fun H locs hP hD hS => ?_)
  have hP : va_P g.1 vwCl ((wH g a (sHsn (sHmn (sHas (sHpt (sHfd (sHf2 (sHf1 (sHqk (sHop (sHC (sHR (sHL h (hL h2)) (hR h2)) (hC h2)) (hop h2)) (hqk h2)) (hf1 h2)) (hf2 h2)) (hfd h2)) (hpt h2)) (has h2)) (hmn h2)) (hsn h2))) ++ (wH g b h2)) _ := hP
  have hD : va_D A ((wH g a (sHsn (sHmn (sHas (sHpt (sHfd (sHf2 (sHf1 (sHqk (sHop (sHC (sHR (sHL h (hL h2)) (hR h2)) (hC h2)) (hop h2)) (hqk h2)) (hf1 h2)) (hf2 h2)) (hfd h2)) (hpt h2)) (has h2)) (hmn h2)) (hsn h2))) ++ (wH g b h2)) := hD
  have hP : va_P g.1 vwCl ((wH g a h2) ++ (wH g b h2)) _ := hP
  have hD : va_D A ((wH g a h2) ++ (wH g b h2)) := hD
  exact k_vret hx hb hr hlocks hP hD hS (Nat.le_of_ble_eq_true rfl) (Nat.le_of_ble_eq_true rfl) dX1_copyFrom_117
set_option maxHeartbeats 4000000 in
set_option maxRecDepth 100000 in
theorem c_X2_keep (l : Launch) (g : kG) (a : Nat → Nat) (ak : Nat → Nat → Nat) (b : Nat → Nat) (od sz : Nat) (hod : od < 6) (hsz : sz ≤ 6) (hs : Nat → HSt) (h : HSt) (hbo : Hbo h) : KV l yX2_keep wsX2_keep ({ frames := 2, cells := 0, slots := 0, locals := 81 }) g [.ref (a 0), .ref (b 0)] ((wK0 g a ak ((nI od), (nI sz))) ++ ((wHs g ak hs 6) ++ (wH g b h))) ((wK0 g a ak (nI (kOd od sz), nI (kSz sz))) ++ ((wHs g ak (va_up hs (kJ od sz) h) 6) ++ (wH g b h))) 0 0 := by
  refine k_begin (cc := cX2_keep) (maxL := 2) (ret := none) (Qc := fun A => kQv g ((wK0 g a ak (nI (kOd od sz), nI (kSz sz))) ++ ((wHs g ak (va_up hs (kJ od sz) h) 6) ++ (wH g b h))) A) (by decide) rfl (Nat.le_of_ble_eq_true rfl) ?_
  intro p e s m below meth c A ls hF hr hlocks hin hE hP hD hS hA hl
  obtain ⟨hx, hb, hml, hown, hts⟩ := id hF
  have hown : s.vm.findClass RX2 = some m.cls := hown
  have hl : lv_has ls 2 [(0, .ref (a 0)), (1, .ref (b 0))] := hl
  have hiX2 : ∀ w ∈ wsX20, w ∈ wsX2_keep := fun _ h => List.mem_cons_of_mem _ (List.mem_append_left _ (List.mem_append_right _ (h)))
  have f21 : (Cond.fieldLink RX2 21 "ConcertUsher$History" "size" "I").before _ s = true := hts _ (List.mem_of_getElem? (i := 1) rfl)
  have f11 : (Cond.fieldLink RX2 11 "ConcertUsher$History" "halls" "[LConcertUsher$Hall;").before _ s = true := hts _ (List.mem_of_getElem? (i := 3) rfl)
  have f17 : (Cond.fieldLink RX2 17 "ConcertUsher$History" "oldest" "I").before _ s = true := hts _ (List.mem_of_getElem? (i := 2) rfl)
  refine lv_aload_n hx hb dX2_keep_0 rfl (lv_at hl 0 rfl) ?_
  refine va_get (D := g.1) (ci := 2) (v := .int (nI sz)) (C := RX2) (T := TX2) (N := 3) hx hb hts hiX2 hown hE.1 hP 0 rfl rfl 2 (by decide) f21 (fun _ h9 => h9) rfl dX2_keep_1 ?_
  refine lv_bipush (v := (nI 6)) hx hb dX2_keep_4 (by decide) ?_
  refine k_neN (tgt := 32) hx hb (by omega) (by decide) dX2_keep_6 (by decide) (fun c1 => ?_) (fun c1 => ?_)
  ·
    refine lv_aload_n hx hb dX2_keep_32 rfl (lv_at hl 0 rfl) ?_
    refine va_get (D := g.1) (ci := 2) (v := .ref (a 1)) (C := RX2) (T := TX2) (N := 3) hx hb hts hiX2 hown hE.1 hP 0 rfl rfl 0 (by decide) f11 (fun _ h9 => h9) rfl dX2_keep_33 ?_
    refine lv_aload_n hx hb dX2_keep_36 rfl (lv_at hl 0 rfl) ?_
    refine va_get (D := g.1) (ci := 2) (v := .int (nI od)) (C := RX2) (T := TX2) (N := 3) hx hb hts hiX2 hown hE.1 hP 0 rfl rfl 1 (by decide) f17 (fun _ h9 => h9) rfl dX2_keep_37 ?_
    refine lv_aload_n hx hb dX2_keep_40 rfl (lv_at hl 0 rfl) ?_
    refine va_get (D := g.1) (ci := 2) (v := .int (nI sz)) (C := RX2) (T := TX2) (N := 3) hx hb hts hiX2 hown hE.1 hP 0 rfl rfl 2 (by decide) f21 (fun _ h9 => h9) rfl dX2_keep_41 ?_
    refine lv_iadd hx hb dX2_keep_44 ?_
    refine k_top (nI_add _ _) ?_
    refine lv_bipush (v := (nI 6)) hx hb dX2_keep_45 (by decide) ?_
    refine lv_irem hx hb dX2_keep_47 (by decide) ?_
    refine k_top (pk_rem (by omega) (by decide) (by decide)) ?_
    refine k_aald (f := fun i => ak i 0) hx hb hE hP 1 rfl ((od + sz) % 6) rfl (by omega) (by decide) dX2_keep_48 ?_
    refine lv_aload_n hx hb dX2_keep_49 rfl (lv_at hl 1 rfl) ?_
    have hj6 : ((od + sz) % 6) < 6 := by omega
    obtain ⟨q0, fs0, he⟩ := ring_at (g := g) (ak := ak) (hs := hs) hj6 (a := (wK0 g a ak ((nI od), (nI sz)))) (b := (wH g b h))
    refine k_Vv (w0 := ((wH g (ak ((od + sz) % 6)) (hs ((od + sz) % 6))) ++ (wH g b h))) (w1 := ((wH g (ak ((od + sz) % 6)) h) ++ (wH g b h))) (wr := ((wK0 g a ak ((nI od), (nI sz))) ++ wHsX g ak hs ((od + sz) % 6) 6)) (ws1 := ((wK0 g a ak ((nI od), (nI sz))) ++ (wHs g ak (va_up hs ((od + sz) % 6) h) 6 ++ (wH g b h)))) (As := [.ref (b 0)]) hF (c_X1_copyFrom l g (ak ((od + sz) % 6)) b (hs ((od + sz) % 6)) h hbo) (cwV 1 hts gX2_keep_X1_copyFrom rfl rfl rfl (by decide +kernel) ⟨Nat.le_of_ble_eq_true rfl, Nat.le_of_ble_eq_true rfl⟩) hE hP hD hS hA (pm_ring (wHs_perm 6 hj6)) (pm_ring (wHs_perm_up hj6)).symm q0 he rfl rfl rfl hl.1 rfl (Nat.le_of_ble_eq_true rfl) dX2_keep_50 ⟨Nat.le_of_ble_eq_true rfl, Nat.le_of_ble_eq_true rfl⟩ (fun H locs hP hD hS => ?_)
    refine lv_aload_n hx hb dX2_keep_53 rfl (lv_at hl 0 rfl) ?_
    refine lv_dup hx hb dX2_keep_54 rfl ?_
    refine va_get (D := g.1) (ci := 2) (v := .int (nI sz)) (C := RX2) (T := TX2) (N := 3) hx hb hts hiX2 hown hE.1 hP 0 rfl rfl 2 (by decide) f21 (fun _ h9 => h9) rfl dX2_keep_55 ?_
    refine lv_iconst (v := (nI 1)) hx hb dX2_keep_58 (by decide) ?_
    refine lv_iadd hx hb dX2_keep_59 ?_
    refine k_top (nI_add _ _) ?_
    refine va_put (D := g.1) (ci := 2) (v := .int (nI (sz + 1))) (ty := .int) (C := RX2) (T := TX2) (N := 3) hx hb hts hiX2 tyX2 tyX2_ok nmX2 hown hE.1 hP hD hS 0 rfl rfl 2 (by decide) f21 (fun _ h9 => h9) rfl (tyX2_ok 2 (by decide)) rfl rfl (Nat.le_of_ble_eq_true rfl) dX2_keep_60 (fun H locs hP hD hS => ?_)
    have hP : va_P g.1 vwCl ((wK0 g a ak ((nI od), (nI (sz + 1)))) ++ ((wHs g ak (va_up hs ((od + sz) % 6) h) 6) ++ (wH g b h))) _ := hP
    have hD : va_D A ((wK0 g a ak ((nI od), (nI (sz + 1)))) ++ ((wHs g ak (va_up hs ((od + sz) % 6) h) 6) ++ (wH g b h))) := hD
    have e2 : (nI (kOd od sz), nI (kSz sz)) = ((nI od), (nI (sz + 1))) := (by first | (simp only [kOd, kSz, kJ, if_neg c1, if_pos c1]; done) | (simp only [kOd, kSz, kJ, if_neg c1, if_pos c1]; rfl) | rfl | (simp [kOd, kSz, kJ, if_neg c1, if_pos c1]; done))
    have e3 : (va_up hs (kJ od sz) h) = (va_up hs ((od + sz) % 6) h) := (by first | (simp only [kOd, kSz, kJ, if_neg c1, if_pos c1]; done) | (simp only [kOd, kSz, kJ, if_neg c1, if_pos c1]; rfl) | rfl | (simp [kOd, kSz, kJ, if_neg c1, if_pos c1]; done))
    have hP : va_P g.1 vwCl ((wK0 g a ak (nI (kOd od sz), nI (kSz sz))) ++ ((wHs g ak (va_up hs (kJ od sz) h) 6) ++ (wH g b h))) H := by rw [e2, e3]; exact hP
    have hD : va_D A ((wK0 g a ak (nI (kOd od sz), nI (kSz sz))) ++ ((wHs g ak (va_up hs (kJ od sz) h) 6) ++ (wH g b h))) := by rw [e2, e3]; exact hD
    exact k_vret hx hb hr hlocks hP hD hS (Nat.le_of_ble_eq_true rfl) (Nat.le_of_ble_eq_true rfl) dX2_keep_63
  ·
    refine lv_aload_n hx hb dX2_keep_9 rfl (lv_at hl 0 rfl) ?_
    refine lv_aload_n hx hb dX2_keep_10 rfl (lv_at hl 0 rfl) ?_
    refine va_get (D := g.1) (ci := 2) (v := .int (nI od)) (C := RX2) (T := TX2) (N := 3) hx hb hts hiX2 hown hE.1 hP 0 rfl rfl 1 (by decide) f17 (fun _ h9 => h9) rfl dX2_keep_11 ?_
    refine lv_iconst (v := (nI 1)) hx hb dX2_keep_14 (by decide) ?_
    refine lv_iadd hx hb dX2_keep_15 ?_
    refine k_top (nI_add _ _) ?_
    refine lv_bipush (v := (nI 6)) hx hb dX2_keep_16 (by decide) ?_
    refine lv_irem hx hb dX2_keep_18 (by decide) ?_
    refine k_top (pk_rem (by omega) (by decide) (by decide)) ?_
    refine va_put (D := g.1) (ci := 2) (v := .int (nI ((od + 1) % 6))) (ty := .int) (C := RX2) (T := TX2) (N := 3) hx hb hts hiX2 tyX2 tyX2_ok nmX2 hown hE.1 hP hD hS 0 rfl rfl 1 (by decide) f17 (fun _ h9 => h9) rfl (tyX2_ok 1 (by decide)) rfl rfl (Nat.le_of_ble_eq_true rfl) dX2_keep_19 (fun H locs hP hD hS => ?_)
    have hP : va_P g.1 vwCl ((wK0 g a ak ((nI ((od + 1) % 6)), (nI sz))) ++ ((wHs g ak hs 6) ++ (wH g b h))) _ := hP
    have hD : va_D A ((wK0 g a ak ((nI ((od + 1) % 6)), (nI sz))) ++ ((wHs g ak hs 6) ++ (wH g b h))) := hD
    refine lv_aload_n hx hb dX2_keep_22 rfl (lv_at hl 0 rfl) ?_
    refine lv_dup hx hb dX2_keep_23 rfl ?_
    refine va_get (D := g.1) (ci := 2) (v := .int (nI sz)) (C := RX2) (T := TX2) (N := 3) hx hb hts hiX2 hown hE.1 hP 0 rfl rfl 2 (by decide) f21 (fun _ h9 => h9) rfl dX2_keep_24 ?_
    refine lv_iconst (v := (nI 1)) hx hb dX2_keep_27 (by decide) ?_
    refine lv_isub hx hb dX2_keep_28 ?_
    refine k_top (by rw [show sz = 6 from by omega]; try decide) ?_
    refine va_put (D := g.1) (ci := 2) (v := .int (nI 5)) (ty := .int) (C := RX2) (T := TX2) (N := 3) hx hb hts hiX2 tyX2 tyX2_ok nmX2 hown hE.1 hP hD hS 0 rfl rfl 2 (by decide) f21 (fun _ h9 => h9) rfl (tyX2_ok 2 (by decide)) rfl rfl (Nat.le_of_ble_eq_true rfl) dX2_keep_29 (fun H locs hP hD hS => ?_)
    have hP : va_P g.1 vwCl ((wK0 g a ak ((nI ((od + 1) % 6)), (nI 5))) ++ ((wHs g ak hs 6) ++ (wH g b h))) _ := hP
    have hD : va_D A ((wK0 g a ak ((nI ((od + 1) % 6)), (nI 5))) ++ ((wHs g ak hs 6) ++ (wH g b h))) := hD
    refine lv_aload_n hx hb dX2_keep_32 rfl (lv_at hl 0 rfl) ?_
    refine va_get (D := g.1) (ci := 2) (v := .ref (a 1)) (C := RX2) (T := TX2) (N := 3) hx hb hts hiX2 hown hE.1 hP 0 rfl rfl 0 (by decide) f11 (fun _ h9 => h9) rfl dX2_keep_33 ?_
    refine lv_aload_n hx hb dX2_keep_36 rfl (lv_at hl 0 rfl) ?_
    refine va_get (D := g.1) (ci := 2) (v := .int (nI ((od + 1) % 6))) (C := RX2) (T := TX2) (N := 3) hx hb hts hiX2 hown hE.1 hP 0 rfl rfl 1 (by decide) f17 (fun _ h9 => h9) rfl dX2_keep_37 ?_
    refine lv_aload_n hx hb dX2_keep_40 rfl (lv_at hl 0 rfl) ?_
    refine va_get (D := g.1) (ci := 2) (v := .int (nI 5)) (C := RX2) (T := TX2) (N := 3) hx hb hts hiX2 hown hE.1 hP 0 rfl rfl 2 (by decide) f21 (fun _ h9 => h9) rfl dX2_keep_41 ?_
    refine lv_iadd hx hb dX2_keep_44 ?_
    refine k_top (nI_add _ _) ?_
    refine lv_bipush (v := (nI 6)) hx hb dX2_keep_45 (by decide) ?_
    refine lv_irem hx hb dX2_keep_47 (by decide) ?_
    refine k_top (pk_rem (by omega) (by decide) (by decide)) ?_
    refine k_aald (f := fun i => ak i 0) hx hb hE hP 1 rfl ((((od + 1) % 6) + 5) % 6) rfl (by omega) (by decide) dX2_keep_48 ?_
    refine lv_aload_n hx hb dX2_keep_49 rfl (lv_at hl 1 rfl) ?_
    have hj6 : ((((od + 1) % 6) + 5) % 6) < 6 := by omega
    obtain ⟨q0, fs0, he⟩ := ring_at (g := g) (ak := ak) (hs := hs) hj6 (a := (wK0 g a ak ((nI ((od + 1) % 6)), (nI 5)))) (b := (wH g b h))
    refine k_Vv (w0 := ((wH g (ak ((((od + 1) % 6) + 5) % 6)) (hs ((((od + 1) % 6) + 5) % 6))) ++ (wH g b h))) (w1 := ((wH g (ak ((((od + 1) % 6) + 5) % 6)) h) ++ (wH g b h))) (wr := ((wK0 g a ak ((nI ((od + 1) % 6)), (nI 5))) ++ wHsX g ak hs ((((od + 1) % 6) + 5) % 6) 6)) (ws1 := ((wK0 g a ak ((nI ((od + 1) % 6)), (nI 5))) ++ (wHs g ak (va_up hs ((((od + 1) % 6) + 5) % 6) h) 6 ++ (wH g b h)))) (As := [.ref (b 0)]) hF (c_X1_copyFrom l g (ak ((((od + 1) % 6) + 5) % 6)) b (hs ((((od + 1) % 6) + 5) % 6)) h hbo) (cwV 1 hts gX2_keep_X1_copyFrom rfl rfl rfl (by decide +kernel) ⟨Nat.le_of_ble_eq_true rfl, Nat.le_of_ble_eq_true rfl⟩) hE hP hD hS hA (pm_ring (wHs_perm 6 hj6)) (pm_ring (wHs_perm_up hj6)).symm q0 he rfl rfl rfl hl.1 rfl (Nat.le_of_ble_eq_true rfl) dX2_keep_50 ⟨Nat.le_of_ble_eq_true rfl, Nat.le_of_ble_eq_true rfl⟩ (fun H locs hP hD hS => ?_)
    refine lv_aload_n hx hb dX2_keep_53 rfl (lv_at hl 0 rfl) ?_
    refine lv_dup hx hb dX2_keep_54 rfl ?_
    refine va_get (D := g.1) (ci := 2) (v := .int (nI 5)) (C := RX2) (T := TX2) (N := 3) hx hb hts hiX2 hown hE.1 hP 0 rfl rfl 2 (by decide) f21 (fun _ h9 => h9) rfl dX2_keep_55 ?_
    refine lv_iconst (v := (nI 1)) hx hb dX2_keep_58 (by decide) ?_
    refine lv_iadd hx hb dX2_keep_59 ?_
    refine k_top (nI_add _ _) ?_
    refine va_put (D := g.1) (ci := 2) (v := .int (nI (5 + 1))) (ty := .int) (C := RX2) (T := TX2) (N := 3) hx hb hts hiX2 tyX2 tyX2_ok nmX2 hown hE.1 hP hD hS 0 rfl rfl 2 (by decide) f21 (fun _ h9 => h9) rfl (tyX2_ok 2 (by decide)) rfl rfl (Nat.le_of_ble_eq_true rfl) dX2_keep_60 (fun H locs hP hD hS => ?_)
    have hP : va_P g.1 vwCl ((wK0 g a ak ((nI ((od + 1) % 6)), (nI (5 + 1)))) ++ ((wHs g ak (va_up hs ((((od + 1) % 6) + 5) % 6) h) 6) ++ (wH g b h))) _ := hP
    have hD : va_D A ((wK0 g a ak ((nI ((od + 1) % 6)), (nI (5 + 1)))) ++ ((wHs g ak (va_up hs ((((od + 1) % 6) + 5) % 6) h) 6) ++ (wH g b h))) := hD
    have e4 : (nI (kOd od sz), nI (kSz sz)) = ((nI ((od + 1) % 6)), (nI (5 + 1))) := (by first | (simp only [kOd, kSz, kJ, if_pos c1, if_neg (not_not_intro c1)]; done) | (simp only [kOd, kSz, kJ, if_pos c1, if_neg (not_not_intro c1)]; rfl) | rfl | (simp [kOd, kSz, kJ, if_pos c1, if_neg (not_not_intro c1)]; done))
    have e5 : (va_up hs (kJ od sz) h) = (va_up hs ((((od + 1) % 6) + 5) % 6) h) := (by first | (simp only [kOd, kSz, kJ, if_pos c1, if_neg (not_not_intro c1)]; done) | (simp only [kOd, kSz, kJ, if_pos c1, if_neg (not_not_intro c1)]; rfl) | rfl | (simp [kOd, kSz, kJ, if_pos c1, if_neg (not_not_intro c1)]; done))
    have hP : va_P g.1 vwCl ((wK0 g a ak (nI (kOd od sz), nI (kSz sz))) ++ ((wHs g ak (va_up hs (kJ od sz) h) 6) ++ (wH g b h))) H := by rw [e4, e5]; exact hP
    have hD : va_D A ((wK0 g a ak (nI (kOd od sz), nI (kSz sz))) ++ ((wHs g ak (va_up hs (kJ od sz) h) 6) ++ (wH g b h))) := by rw [e4, e5]; exact hD
    exact k_vret hx hb hr hlocks hP hD hS (Nat.le_of_ble_eq_true rfl) (Nat.le_of_ble_eq_true rfl) dX2_keep_63
set_option maxHeartbeats 4000000 in
set_option maxRecDepth 100000 in
theorem c_X2_takeBack (l : Launch) (g : kG) (a : Nat → Nat) (ak : Nat → Nat → Nat) (b : Nat → Nat) (od sz : Nat) (hod : od < 6) (hsz : sz ≤ 6) (hs : Nat → HSt) (h : HSt) (hsz0 : 0 < sz) (hbs : ∀ j, Hbo (hs j)) : KV l yX2_takeBack wsX2_takeBack ({ frames := 2, cells := 0, slots := 0, locals := 81 }) g [.ref (a 0), .ref (b 0)] ((wK0 g a ak ((nI od), (nI sz))) ++ ((wHs g ak hs 6) ++ (wH g b h))) ((wK0 g a ak (nI od, nI (sz - 1))) ++ ((wHs g ak hs 6) ++ (wH g b (hs ((od + (sz - 1)) % 6))))) 0 0 := by
  refine k_begin (cc := cX2_takeBack) (maxL := 2) (ret := none) (Qc := fun A => kQv g ((wK0 g a ak (nI od, nI (sz - 1))) ++ ((wHs g ak hs 6) ++ (wH g b (hs ((od + (sz - 1)) % 6))))) A) (by decide) rfl (Nat.le_of_ble_eq_true rfl) ?_
  intro p e s m below meth c A ls hF hr hlocks hin hE hP hD hS hA hl
  obtain ⟨hx, hb, hml, hown, hts⟩ := id hF
  have hown : s.vm.findClass RX2 = some m.cls := hown
  have hl : lv_has ls 2 [(0, .ref (a 0)), (1, .ref (b 0))] := hl
  have hiX2 : ∀ w ∈ wsX20, w ∈ wsX2_takeBack := fun _ h => List.mem_cons_of_mem _ (List.mem_append_left _ (List.mem_append_right _ (h)))
  have f21 : (Cond.fieldLink RX2 21 "ConcertUsher$History" "size" "I").before _ s = true := hts _ (List.mem_of_getElem? (i := 1) rfl)
  have f11 : (Cond.fieldLink RX2 11 "ConcertUsher$History" "halls" "[LConcertUsher$Hall;").before _ s = true := hts _ (List.mem_of_getElem? (i := 2) rfl)
  have f17 : (Cond.fieldLink RX2 17 "ConcertUsher$History" "oldest" "I").before _ s = true := hts _ (List.mem_of_getElem? (i := 3) rfl)
  refine lv_aload_n hx hb dX2_takeBack_0 rfl (lv_at hl 0 rfl) ?_
  refine va_get (D := g.1) (ci := 2) (v := .int (nI sz)) (C := RX2) (T := TX2) (N := 3) hx hb hts hiX2 hown hE.1 hP 0 rfl rfl 2 (by decide) f21 (fun _ h9 => h9) rfl dX2_takeBack_1 ?_
  refine lv_if_le (tgt := 38) hx hb dX2_takeBack_4 (by decide) (fun c1 => ?_) (fun c1 => ?_)
  ·
    exact absurd c1 (nI_nle (by omega) (by omega))
  ·
    refine lv_aload_n hx hb dX2_takeBack_7 rfl (lv_at hl 0 rfl) ?_
    refine lv_dup hx hb dX2_takeBack_8 rfl ?_
    refine va_get (D := g.1) (ci := 2) (v := .int (nI sz)) (C := RX2) (T := TX2) (N := 3) hx hb hts hiX2 hown hE.1 hP 0 rfl rfl 2 (by decide) f21 (fun _ h9 => h9) rfl dX2_takeBack_9 ?_
    refine lv_iconst (v := (nI 1)) hx hb dX2_takeBack_12 (by decide) ?_
    refine lv_isub hx hb dX2_takeBack_13 ?_
    refine k_top (pk_sub (by omega)) ?_
    refine va_put (D := g.1) (ci := 2) (v := .int (nI (sz - 1))) (ty := .int) (C := RX2) (T := TX2) (N := 3) hx hb hts hiX2 tyX2 tyX2_ok nmX2 hown hE.1 hP hD hS 0 rfl rfl 2 (by decide) f21 (fun _ h9 => h9) rfl (tyX2_ok 2 (by decide)) rfl rfl (Nat.le_of_ble_eq_true rfl) dX2_takeBack_14 (fun H locs hP hD hS => ?_)
    have hP : va_P g.1 vwCl ((wK0 g a ak ((nI od), (nI (sz - 1)))) ++ ((wHs g ak hs 6) ++ (wH g b h))) _ := hP
    have hD : va_D A ((wK0 g a ak ((nI od), (nI (sz - 1)))) ++ ((wHs g ak hs 6) ++ (wH g b h))) := hD
    refine lv_aload_n hx hb dX2_takeBack_17 rfl (lv_at hl 1 rfl) ?_
    refine lv_aload_n hx hb dX2_takeBack_18 rfl (lv_at hl 0 rfl) ?_
    refine va_get (D := g.1) (ci := 2) (v := .ref (a 1)) (C := RX2) (T := TX2) (N := 3) hx hb hts hiX2 hown hE.1 hP 0 rfl rfl 0 (by decide) f11 (fun _ h9 => h9) rfl dX2_takeBack_19 ?_
    refine lv_aload_n hx hb dX2_takeBack_22 rfl (lv_at hl 0 rfl) ?_
    refine va_get (D := g.1) (ci := 2) (v := .int (nI od)) (C := RX2) (T := TX2) (N := 3) hx hb hts hiX2 hown hE.1 hP 0 rfl rfl 1 (by decide) f17 (fun _ h9 => h9) rfl dX2_takeBack_23 ?_
    refine lv_aload_n hx hb dX2_takeBack_26 rfl (lv_at hl 0 rfl) ?_
    refine va_get (D := g.1) (ci := 2) (v := .int (nI (sz - 1))) (C := RX2) (T := TX2) (N := 3) hx hb hts hiX2 hown hE.1 hP 0 rfl rfl 2 (by decide) f21 (fun _ h9 => h9) rfl dX2_takeBack_27 ?_
    refine lv_iadd hx hb dX2_takeBack_30 ?_
    refine k_top (nI_add _ _) ?_
    refine lv_bipush (v := (nI 6)) hx hb dX2_takeBack_31 (by decide) ?_
    refine lv_irem hx hb dX2_takeBack_33 (by decide) ?_
    refine k_top (pk_rem (by omega) (by decide) (by decide)) ?_
    refine k_aald (f := fun i => ak i 0) hx hb hE hP 1 rfl ((od + (sz - 1)) % 6) rfl (by omega) (by decide) dX2_takeBack_34 ?_
    obtain ⟨qh, heh⟩ : ∃ q : Nat, (((wK0 g a ak ((nI od), (nI (sz - 1)))) ++ ((wHs g ak hs 6) ++ (wH g b h))))[q]? = some (b 0, .inr (1, _)) := List.mem_iff_getElem?.mp (List.mem_append_right _ (List.mem_append_right _ List.mem_cons_self))
    have hj6 : ((od + (sz - 1)) % 6) < 6 := by omega
    refine k_Vv (w0 := ((wH g b h) ++ (wH g (ak ((od + (sz - 1)) % 6)) (hs ((od + (sz - 1)) % 6))))) (w1 := ((wH g b (hs ((od + (sz - 1)) % 6))) ++ (wH g (ak ((od + (sz - 1)) % 6)) (hs ((od + (sz - 1)) % 6))))) (wr := ((wK0 g a ak ((nI od), (nI (sz - 1)))) ++ wHsX g ak hs ((od + (sz - 1)) % 6) 6)) (ws1 := ((wK0 g a ak ((nI od), (nI (sz - 1)))) ++ (wHs g ak hs 6 ++ (wH g b (hs ((od + (sz - 1)) % 6)))))) (As := [.ref (ak ((od + (sz - 1)) % 6) 0)]) hF (c_X1_copyFrom l g b (ak ((od + (sz - 1)) % 6)) h (hs ((od + (sz - 1)) % 6)) (hbs _)) (cwV 1 hts gX2_takeBack_X1_copyFrom rfl rfl rfl (by decide +kernel) ⟨Nat.le_of_ble_eq_true rfl, Nat.le_of_ble_eq_true rfl⟩) hE hP hD hS hA (pm_ring2 (wHs_perm 6 hj6)) (pm_ring2 (wHs_perm 6 hj6)).symm qh heh rfl rfl rfl hl.1 rfl (Nat.le_of_ble_eq_true rfl) dX2_takeBack_35 ⟨Nat.le_of_ble_eq_true rfl, Nat.le_of_ble_eq_true rfl⟩ (fun H locs hP hD hS => ?_)
    have e2 : (nI od, nI (sz - 1)) = ((nI od), (nI (sz - 1))) := (by first | (simp only [if_neg c1, if_pos c1]; done) | (simp only [if_neg c1, if_pos c1]; rfl) | rfl | (simp [if_neg c1, if_pos c1]; done))
    have hP : va_P g.1 vwCl ((wK0 g a ak (nI od, nI (sz - 1))) ++ ((wHs g ak hs 6) ++ (wH g b (hs ((od + (sz - 1)) % 6))))) H := by rw [e2]; exact hP
    have hD : va_D A ((wK0 g a ak (nI od, nI (sz - 1))) ++ ((wHs g ak hs 6) ++ (wH g b (hs ((od + (sz - 1)) % 6))))) := by rw [e2]; exact hD
    exact k_vret hx hb hr hlocks hP hD hS (Nat.le_of_ble_eq_true rfl) (Nat.le_of_ble_eq_true rfl) dX2_takeBack_38
end
section
/-! the usher in runs that throw nothing -/
theorem pm_5_1 {α : Type} (b0 b1 b2 b3 b4 : List α) : ((b0 ++ (b1 ++ (b2 ++ (b3 ++ b4))))).Perm (b1 ++ (b0 ++ (b2 ++ (b3 ++ b4)))) := by
  classical exact List.perm_iff_count.mpr (fun x => by simp only [List.count_append]; omega)
theorem pm_5_341 {α : Type} (b0 b1 b2 b3 b4 : List α) : ((b0 ++ (b1 ++ (b2 ++ (b3 ++ b4))))).Perm ((b3 ++ (b4 ++ b1)) ++ (b0 ++ b2)) := by
  classical exact List.perm_iff_count.mpr (fun x => by simp only [List.count_append]; omega)
set_option maxHeartbeats 4000000 in
set_option maxRecDepth 100000 in
theorem c_X3_isRow (l : Launch) (g : kG) (x : Int32) : KI l yX3_isRow wsX3_isRow ({ frames := 0, cells := 0, slots := 0, locals := 0 }) g [.int x] [] (bI (ckR x = 0)) [] 0 0 := by
  refine k_begin (cc := cX3_isRow) (maxL := 1) (ret := (some .boolean)) (Qc := fun A => kQi g (bI (ckR x = 0)) [] A) (by decide) rfl (Nat.le_of_ble_eq_true rfl) ?_
  intro p e s m below meth c A ls hF hr hlocks hin hE hP hD hS hA hl
  obtain ⟨hx, hb, hml, hown, hts⟩ := id hF
  have hown : s.vm.findClass RX3 = some m.cls := hown
  have hl : lv_has ls 1 [(0, .int x)] := hl
  refine lv_iload_n hx hb dX3_isRow_0 rfl (lv_at hl 0 rfl) ?_
  refine lv_if_lt (tgt := 14) hx hb dX3_isRow_1 (by decide) (fun c1 => ?_) (fun c1 => ?_)
  ·
    refine lv_iconst (v := (nI 0)) hx hb dX3_isRow_14 (by decide) ?_
    have hP : va_P g.1 vwCl [] _ := hP
    have hD : va_D A [] := hD
    exact k_iret hx hb hr hlocks rfl (ckR_n1 c1) hP hD hS (Nat.le_of_ble_eq_true rfl) (Nat.le_of_ble_eq_true rfl) dX3_isRow_15
  ·
    refine lv_iload_n hx hb dX3_isRow_4 rfl (lv_at hl 0 rfl) ?_
    refine lv_bipush (v := (nI 8)) hx hb dX3_isRow_5 (by decide) ?_
    refine lv_icmp_ge (tgt := 14) hx hb dX3_isRow_7 (by decide) (fun c2 => ?_) (fun c2 => ?_)
    ·
      refine lv_iconst (v := (nI 0)) hx hb dX3_isRow_14 (by decide) ?_
      have hP : va_P g.1 vwCl [] _ := hP
      have hD : va_D A [] := hD
      exact k_iret hx hb hr hlocks rfl (ckR_n2 c1 c2) hP hD hS (Nat.le_of_ble_eq_true rfl) (Nat.le_of_ble_eq_true rfl) dX3_isRow_15
    ·
      refine lv_iconst (v := (nI 1)) hx hb dX3_isRow_10 (by decide) ?_
      refine lv_goto (tgt := 15) hx hb dX3_isRow_11 (by decide) ?_
      have hP : va_P g.1 vwCl [] _ := hP
      have hD : va_D A [] := hD
      exact k_iret hx hb hr hlocks rfl (ckR_y c1 c2) hP hD hS (Nat.le_of_ble_eq_true rfl) (Nat.le_of_ble_eq_true rfl) dX3_isRow_15
set_option maxHeartbeats 4000000 in
set_option maxRecDepth 100000 in
theorem c_X3_isConcert (l : Launch) (g : kG) (x : Int32) : KI l yX3_isConcert wsX3_isConcert ({ frames := 0, cells := 0, slots := 0, locals := 0 }) g [.int x] [] (bI (ckC x = 0)) [] 0 0 := by
  refine k_begin (cc := cX3_isConcert) (maxL := 1) (ret := (some .boolean)) (Qc := fun A => kQi g (bI (ckC x = 0)) [] A) (by decide) rfl (Nat.le_of_ble_eq_true rfl) ?_
  intro p e s m below meth c A ls hF hr hlocks hin hE hP hD hS hA hl
  obtain ⟨hx, hb, hml, hown, hts⟩ := id hF
  have hown : s.vm.findClass RX3 = some m.cls := hown
  have hl : lv_has ls 1 [(0, .int x)] := hl
  refine lv_iload_n hx hb dX3_isConcert_0 rfl (lv_at hl 0 rfl) ?_
  refine lv_if_lt (tgt := 14) hx hb dX3_isConcert_1 (by decide) (fun c1 => ?_) (fun c1 => ?_)
  ·
    refine lv_iconst (v := (nI 0)) hx hb dX3_isConcert_14 (by decide) ?_
    have hP : va_P g.1 vwCl [] _ := hP
    have hD : va_D A [] := hD
    exact k_iret hx hb hr hlocks rfl (ckC_n1 c1) hP hD hS (Nat.le_of_ble_eq_true rfl) (Nat.le_of_ble_eq_true rfl) dX3_isConcert_15
  ·
    refine lv_iload_n hx hb dX3_isConcert_4 rfl (lv_at hl 0 rfl) ?_
    refine lv_bipush (v := (nI 6)) hx hb dX3_isConcert_5 (by decide) ?_
    refine lv_icmp_ge (tgt := 14) hx hb dX3_isConcert_7 (by decide) (fun c2 => ?_) (fun c2 => ?_)
    ·
      refine lv_iconst (v := (nI 0)) hx hb dX3_isConcert_14 (by decide) ?_
      have hP : va_P g.1 vwCl [] _ := hP
      have hD : va_D A [] := hD
      exact k_iret hx hb hr hlocks rfl (ckC_n2 c1 c2) hP hD hS (Nat.le_of_ble_eq_true rfl) (Nat.le_of_ble_eq_true rfl) dX3_isConcert_15
    ·
      refine lv_iconst (v := (nI 1)) hx hb dX3_isConcert_10 (by decide) ?_
      refine lv_goto (tgt := 15) hx hb dX3_isConcert_11 (by decide) ?_
      have hP : va_P g.1 vwCl [] _ := hP
      have hD : va_D A [] := hD
      exact k_iret hx hb hr hlocks rfl (ckC_y c1 c2) hP hD hS (Nat.le_of_ble_eq_true rfl) (Nat.le_of_ble_eq_true rfl) dX3_isConcert_15
set_option maxHeartbeats 4000000 in
set_option maxRecDepth 100000 in
theorem c_X3_checkRow (l : Launch) (g : kG) (k : Nat) (hk : k < 8) : KV l yX3_checkRow wsX3_checkRow ({ frames := 1, cells := 0, slots := 0, locals := 20 }) g [.int (nI k)] [] [] 0 0 := by
  refine k_begin (cc := cX3_checkRow) (maxL := 1) (ret := none) (Qc := fun A => kQv g [] A) (by decide) rfl (Nat.le_of_ble_eq_true rfl) ?_
  intro p e s m below meth c A ls hF hr hlocks hin hE hP hD hS hA hl
  obtain ⟨hx, hb, hml, hown, hts⟩ := id hF
  have hown : s.vm.findClass RX3 = some m.cls := hown
  have hl : lv_has ls 1 [(0, .int (nI k))] := hl
  refine lv_iload_n hx hb dX3_checkRow_0 rfl (lv_at hl 0 rfl) ?_
  refine k_Si (w0 := []) (w1 := []) (As := [.int (nI k)]) (r := (bI (ckR (nI k) = 0))) hF (c_X3_isRow l g (nI k)) (va_cwS 1 hts gX3_checkRow_X3_isRow rfl rfl rfl (by decide +kernel) ⟨Nat.le_of_ble_eq_true rfl, Nat.le_of_ble_eq_true rfl⟩) hE hP hD hS hA (List.Perm.refl _) (List.Perm.refl _) rfl hl.1 rfl (Nat.le_of_ble_eq_true rfl) dX3_checkRow_1 ⟨Nat.le_of_ble_eq_true rfl, Nat.le_of_ble_eq_true rfl⟩ (fun H locs hP hD hS => ?_)
  have hP : va_P g.1 vwCl [] _ := hP
  have hD : va_D A [] := hD
  refine k_ifneB (tgt := 17) hx hb dX3_checkRow_4 (by decide) (fun c1 => ?_) (fun c1 => ?_)
  ·
    have hP : va_P g.1 vwCl [] _ := hP
    have hD : va_D A [] := hD
    exact k_vret hx hb hr hlocks hP hD hS (Nat.le_of_ble_eq_true rfl) (Nat.le_of_ble_eq_true rfl) dX3_checkRow_17
  ·
    exact absurd (ckR_in hk) c1
set_option maxHeartbeats 4000000 in
set_option maxRecDepth 100000 in
theorem c_X3_checkConcert (l : Launch) (g : kG) (k : Nat) (hk : k < 6) : KV l yX3_checkConcert wsX3_checkConcert ({ frames := 1, cells := 0, slots := 0, locals := 20 }) g [.int (nI k)] [] [] 0 0 := by
  refine k_begin (cc := cX3_checkConcert) (maxL := 1) (ret := none) (Qc := fun A => kQv g [] A) (by decide) rfl (Nat.le_of_ble_eq_true rfl) ?_
  intro p e s m below meth c A ls hF hr hlocks hin hE hP hD hS hA hl
  obtain ⟨hx, hb, hml, hown, hts⟩ := id hF
  have hown : s.vm.findClass RX3 = some m.cls := hown
  have hl : lv_has ls 1 [(0, .int (nI k))] := hl
  refine lv_iload_n hx hb dX3_checkConcert_0 rfl (lv_at hl 0 rfl) ?_
  refine k_Si (w0 := []) (w1 := []) (As := [.int (nI k)]) (r := (bI (ckC (nI k) = 0))) hF (c_X3_isConcert l g (nI k)) (va_cwS 1 hts gX3_checkConcert_X3_isConcert rfl rfl rfl (by decide +kernel) ⟨Nat.le_of_ble_eq_true rfl, Nat.le_of_ble_eq_true rfl⟩) hE hP hD hS hA (List.Perm.refl _) (List.Perm.refl _) rfl hl.1 rfl (Nat.le_of_ble_eq_true rfl) dX3_checkConcert_1 ⟨Nat.le_of_ble_eq_true rfl, Nat.le_of_ble_eq_true rfl⟩ (fun H locs hP hD hS => ?_)
  have hP : va_P g.1 vwCl [] _ := hP
  have hD : va_D A [] := hD
  refine k_ifneB (tgt := 17) hx hb dX3_checkConcert_4 (by decide) (fun c1 => ?_) (fun c1 => ?_)
  ·
    have hP : va_P g.1 vwCl [] _ := hP
    have hD : va_D A [] := hD
    exact k_vret hx hb hr hlocks hP hD hS (Nat.le_of_ble_eq_true rfl) (Nat.le_of_ble_eq_true rfl) dX3_checkConcert_17
  ·
    exact absurd (ckC_in hk) c1
set_option maxHeartbeats 4000000 in
set_option maxRecDepth 100000 in
theorem c_X3_checkMinutes (l : Launch) (g : kG) (k : Nat) (h1 : 1 ≤ k) (hk : k ≤ 60) : KV l yX3_checkMinutes wsX3_checkMinutes ({ frames := 0, cells := 0, slots := 0, locals := 0 }) g [.int (nI k)] [] [] 0 0 := by
  refine k_begin (cc := cX3_checkMinutes) (maxL := 1) (ret := none) (Qc := fun A => kQv g [] A) (by decide) rfl (Nat.le_of_ble_eq_true rfl) ?_
  intro p e s m below meth c A ls hF hr hlocks hin hE hP hD hS hA hl
  obtain ⟨hx, hb, hml, hown, hts⟩ := id hF
  have hown : s.vm.findClass RX3 = some m.cls := hown
  have hl : lv_has ls 1 [(0, .int (nI k))] := hl
  refine lv_iload_n hx hb dX3_checkMinutes_0 rfl (lv_at hl 0 rfl) ?_
  refine lv_iconst (v := (nI 1)) hx hb dX3_checkMinutes_1 (by decide) ?_
  refine k_ltN (tgt := 11) hx hb (by omega) (by decide) dX3_checkMinutes_2 (by decide) (fun c1 => ?_) (fun c1 => ?_)
  ·
    exact absurd c1 (by omega)
  ·
    refine lv_iload_n hx hb dX3_checkMinutes_5 rfl (lv_at hl 0 rfl) ?_
    refine lv_bipush (v := (nI 60)) hx hb dX3_checkMinutes_6 (by decide) ?_
    refine k_leN (tgt := 21) hx hb (by omega) (by decide) dX3_checkMinutes_8 (by decide) (fun c2 => ?_) (fun c2 => ?_)
    ·
      have hP : va_P g.1 vwCl [] _ := hP
      have hD : va_D A [] := hD
      exact k_vret hx hb hr hlocks hP hD hS (Nat.le_of_ble_eq_true rfl) (Nat.le_of_ble_eq_true rfl) dX3_checkMinutes_21
    ·
      exact absurd c2 (by omega)
set_option maxHeartbeats 4000000 in
set_option maxRecDepth 100000 in
theorem c_X3_come (l : Launch) (g : kG) (u : Nat) (ah at9 a0 : Nat → Nat) (ak : Nat → Nat → Nat) (h : HSt) (sg : Nat → Int32) (n od sz : Nat) (hs : Nat → HSt) (hod : od < 6) (sz5 : sz ≤ 5) (hbo : Hbo h) (r9 c9 : Nat) (hr9 : r9 < 8) (hc9 : c9 < 6) (h9 : ¬ nI 9 ≤ (hL h) (r9 * 6 + c9)) : KI l yX3_come wsX3_come ({ frames := 3, cells := 0, slots := 0, locals := 102 }) g [.ref u, .int (nI r9), .int (nI c9)] ((wU u (ah 0) (a0 0) (at9 0)) ++ ((wH g ah h) ++ ((wT g at9 (sg, (nI n))) ++ ((wK0 g a0 ak ((nI od), (nI sz))) ++ (wHs g ak hs 6))))) (hL (Hseat (r9 * 6 + c9) h) (r9 * 6 + c9)) ((wU u (ah 0) (a0 0) (at9 0)) ++ ((wH g ah (Hseat (r9 * 6 + c9) h)) ++ ((wT g at9 (sg, (nI n))) ++ ((wK0 g a0 ak (nI od, nI (sz + 1))) ++ (wHs g ak (va_up hs ((od + sz) % 6) h) 6))))) 0 0 := by
  refine k_begin (cc := cX3_come) (maxL := 4) (ret := (some .int)) (Qc := fun A => kQi g (hL (Hseat (r9 * 6 + c9) h) (r9 * 6 + c9)) ((wU u (ah 0) (a0 0) (at9 0)) ++ ((wH g ah (Hseat (r9 * 6 + c9) h)) ++ ((wT g at9 (sg, (nI n))) ++ ((wK0 g a0 ak (nI od, nI (sz + 1))) ++ (wHs g ak (va_up hs ((od + sz) % 6) h) 6))))) A) (by decide) rfl (Nat.le_of_ble_eq_true rfl) ?_
  intro p e s m below meth c A ls hF hr hlocks hin hE hP hD hS hA hl
  obtain ⟨hx, hb, hml, hown, hts⟩ := id hF
  have hown : s.vm.findClass RX3 = some m.cls := hown
  have hl : lv_has ls 4 [(0, .ref u), (1, .int (nI r9)), (2, .int (nI c9))] := hl
  have hiX3 : ∀ w ∈ wsX30, w ∈ wsX3_come := fun _ h => List.mem_cons_of_mem _ (List.mem_append_left _ (List.mem_append_left _ (List.mem_append_left _ (List.mem_append_left _ (List.mem_append_right _ (h))))))
  have hiX1 : ∀ w ∈ wsX10, w ∈ wsX3_come := fun _ h => List.mem_cons_of_mem _ (List.mem_append_left _ (List.mem_append_left _ (List.mem_append_left _ (List.mem_append_right _ (h)))))
  have f12 : (Cond.fieldLink RX3 12 "ConcertUsher" "hall" "LConcertUsher$Hall;").before _ s = true := hts _ (List.mem_of_getElem? (i := 3) rfl)
  have f19 : (Cond.fieldLink RX3 19 "ConcertUsher" "history" "LConcertUsher$History;").before _ s = true := hts _ (List.mem_of_getElem? (i := 4) rfl)
  have f59 : (Cond.fieldLink RX3 59 "ConcertUsher$Hall" "listeners" "[I").before _ s = true := hts _ (List.mem_of_getElem? (i := 5) rfl)
  refine lv_iload_n hx hb dX3_come_0 rfl (lv_at hl 1 rfl) ?_
  refine k_Sv (w0 := []) (w1 := []) (As := [.int (nI r9)]) hF (c_X3_checkRow l g r9 (by omega)) (va_cwS 1 hts gX3_come_X3_checkRow rfl rfl rfl (by decide +kernel) ⟨Nat.le_of_ble_eq_true rfl, Nat.le_of_ble_eq_true rfl⟩) hE hP hD hS hA (List.Perm.refl _) (List.Perm.refl _) rfl hl.1 rfl (Nat.le_of_ble_eq_true rfl) dX3_come_1 ⟨Nat.le_of_ble_eq_true rfl, Nat.le_of_ble_eq_true rfl⟩ (fun H locs hP hD hS => ?_)
  have hP : va_P g.1 vwCl ((wU u (ah 0) (a0 0) (at9 0)) ++ ((wH g ah h) ++ ((wT g at9 (sg, (nI n))) ++ ((wK0 g a0 ak ((nI od), (nI sz))) ++ (wHs g ak hs 6))))) _ := hP
  have hD : va_D A ((wU u (ah 0) (a0 0) (at9 0)) ++ ((wH g ah h) ++ ((wT g at9 (sg, (nI n))) ++ ((wK0 g a0 ak ((nI od), (nI sz))) ++ (wHs g ak hs 6))))) := hD
  refine lv_iload_n hx hb dX3_come_4 rfl (lv_at hl 2 rfl) ?_
  refine k_Sv (w0 := []) (w1 := []) (As := [.int (nI c9)]) hF (c_X3_checkConcert l g c9 (by omega)) (va_cwS 1 hts gX3_come_X3_checkConcert rfl rfl rfl (by decide +kernel) ⟨Nat.le_of_ble_eq_true rfl, Nat.le_of_ble_eq_true rfl⟩) hE hP hD hS hA (List.Perm.refl _) (List.Perm.refl _) rfl hl.1 rfl (Nat.le_of_ble_eq_true rfl) dX3_come_5 ⟨Nat.le_of_ble_eq_true rfl, Nat.le_of_ble_eq_true rfl⟩ (fun H locs hP hD hS => ?_)
  have hP : va_P g.1 vwCl ((wU u (ah 0) (a0 0) (at9 0)) ++ ((wH g ah h) ++ ((wT g at9 (sg, (nI n))) ++ ((wK0 g a0 ak ((nI od), (nI sz))) ++ (wHs g ak hs 6))))) _ := hP
  have hD : va_D A ((wU u (ah 0) (a0 0) (at9 0)) ++ ((wH g ah h) ++ ((wT g at9 (sg, (nI n))) ++ ((wK0 g a0 ak ((nI od), (nI sz))) ++ (wHs g ak hs 6))))) := hD
  refine lv_iload_n hx hb dX3_come_8 rfl (lv_at hl 1 rfl) ?_
  refine lv_iload_n hx hb dX3_come_9 rfl (lv_at hl 2 rfl) ?_
  refine k_Si (w0 := []) (w1 := []) (As := [.int (nI r9), .int (nI c9)]) (r := (nI (r9 * 6 + c9))) hF (c_X3_placeOf l g r9 c9) (va_cwS 2 hts gX3_come_X3_placeOf rfl rfl rfl (by decide +kernel) ⟨Nat.le_of_ble_eq_true rfl, Nat.le_of_ble_eq_true rfl⟩) hE hP hD hS hA (List.Perm.refl _) (List.Perm.refl _) rfl hl.1 rfl (Nat.le_of_ble_eq_true rfl) dX3_come_10 ⟨Nat.le_of_ble_eq_true rfl, Nat.le_of_ble_eq_true rfl⟩ (fun H locs hP hD hS => ?_)
  have hP : va_P g.1 vwCl ((wU u (ah 0) (a0 0) (at9 0)) ++ ((wH g ah h) ++ ((wT g at9 (sg, (nI n))) ++ ((wK0 g a0 ak ((nI od), (nI sz))) ++ (wHs g ak hs 6))))) _ := hP
  have hD : va_D A ((wU u (ah 0) (a0 0) (at9 0)) ++ ((wH g ah h) ++ ((wT g at9 (sg, (nI n))) ++ ((wK0 g a0 ak ((nI od), (nI sz))) ++ (wHs g ak hs 6))))) := hD
  refine lv_istore_n (lv' := [(3, .int (nI (r9 * 6 + c9))), (0, .ref u), (1, .int (nI r9)), (2, .int (nI c9))]) hx hb dX3_come_13 rfl hl (by decide) rfl (fun ls hl => ?_)
  refine lv_aload_n hx hb dX3_come_14 rfl (lv_at hl 1 rfl) ?_
  refine va_get (D := g.1) (ci := 3) (v := .ref (ah 0)) (C := RX3) (T := TX3) (N := 3) hx hb hts hiX3 hown hE.1 hP 0 rfl rfl 0 (by decide) f12 (fun _ h9 => h9) rfl dX3_come_15 ?_
  refine lv_iload_n hx hb dX3_come_18 rfl (lv_at hl 0 rfl) ?_
  refine k_Vi (As := [.int (nI (r9 * 6 + c9))]) (r := (bI (¬ nI 9 ≤ ((hL h) (r9 * 6 + c9))))) hF (c_X1_hasRoom l g ah h (r9 * 6 + c9) (by omega)) (cwV 1 hts gX3_come_X1_hasRoom rfl rfl rfl (by decide +kernel) ⟨Nat.le_of_ble_eq_true rfl, Nat.le_of_ble_eq_true rfl⟩) hE hP hD hS hA (pm_5_1 _ _ _ _ _) ((pm_5_1 _ _ _ _ _).symm) 1 rfl rfl rfl rfl hl.1 rfl (Nat.le_of_ble_eq_true rfl) dX3_come_19 ⟨Nat.le_of_ble_eq_true rfl, Nat.le_of_ble_eq_true rfl⟩ (fun H locs hP hD hS => ?_)
  have hP : va_P g.1 vwCl ((wU u (ah 0) (a0 0) (at9 0)) ++ ((wH g ah h) ++ ((wT g at9 (sg, (nI n))) ++ ((wK0 g a0 ak ((nI od), (nI sz))) ++ (wHs g ak hs 6))))) _ := hP
  have hD : va_D A ((wU u (ah 0) (a0 0) (at9 0)) ++ ((wH g ah h) ++ ((wT g at9 (sg, (nI n))) ++ ((wK0 g a0 ak ((nI od), (nI sz))) ++ (wHs g ak hs 6))))) := hD
  refine k_ifneB (tgt := 35) hx hb dX3_come_22 (by decide) (fun c1 => ?_) (fun c1 => ?_)
  ·
    refine lv_aload_n hx hb dX3_come_35 rfl (lv_at hl 1 rfl) ?_
    refine va_get (D := g.1) (ci := 3) (v := .ref (a0 0)) (C := RX3) (T := TX3) (N := 3) hx hb hts hiX3 hown hE.1 hP 0 rfl rfl 1 (by decide) f19 (fun _ h9 => h9) rfl dX3_come_36 ?_
    refine lv_aload_n hx hb dX3_come_39 rfl (lv_at hl 1 rfl) ?_
    refine va_get (D := g.1) (ci := 3) (v := .ref (ah 0)) (C := RX3) (T := TX3) (N := 3) hx hb hts hiX3 hown hE.1 hP 0 rfl rfl 0 (by decide) f12 (fun _ h9 => h9) rfl dX3_come_40 ?_
    refine k_Vv (As := [.ref (ah 0)]) hF (c_X2_keep l g a0 ak ah od sz (by omega) (by omega) hs h hbo) (cwV 1 hts gX3_come_X2_keep rfl rfl rfl (by decide +kernel) ⟨Nat.le_of_ble_eq_true rfl, Nat.le_of_ble_eq_true rfl⟩) hE hP hD hS hA (pm_5_341 _ _ _ _ _) ((pm_5_341 _ _ _ _ _).symm) 7 rfl rfl rfl rfl hl.1 rfl (Nat.le_of_ble_eq_true rfl) dX3_come_43 ⟨Nat.le_of_ble_eq_true rfl, Nat.le_of_ble_eq_true rfl⟩ (fun H locs hP hD hS => ?_)
    have hP : va_P g.1 vwCl ((wU u (ah 0) (a0 0) (at9 0)) ++ ((wH g ah h) ++ ((wT g at9 (sg, (nI n))) ++ ((wK0 g a0 ak ((nI (kOd od sz)), (nI (kSz sz)))) ++ (wHs g ak (va_up hs (kJ od sz) h) 6))))) _ := hP
    have hD : va_D A ((wU u (ah 0) (a0 0) (at9 0)) ++ ((wH g ah h) ++ ((wT g at9 (sg, (nI n))) ++ ((wK0 g a0 ak ((nI (kOd od sz)), (nI (kSz sz)))) ++ (wHs g ak (va_up hs (kJ od sz) h) 6))))) := hD
    rw [kOd5 sz5, kSz5 sz5, kJ5 sz5] at hP hD
    refine lv_aload_n hx hb dX3_come_46 rfl (lv_at hl 1 rfl) ?_
    refine va_get (D := g.1) (ci := 3) (v := .ref (ah 0)) (C := RX3) (T := TX3) (N := 3) hx hb hts hiX3 hown hE.1 hP 0 rfl rfl 0 (by decide) f12 (fun _ h9 => h9) rfl dX3_come_47 ?_
    refine lv_iload_n hx hb dX3_come_50 rfl (lv_at hl 0 rfl) ?_
    refine k_Vv (As := [.int (nI (r9 * 6 + c9))]) hF (c_X1_seat l g ah h (r9 * 6 + c9) (by omega)) (cwV 1 hts gX3_come_X1_seat rfl rfl rfl (by decide +kernel) ⟨Nat.le_of_ble_eq_true rfl, Nat.le_of_ble_eq_true rfl⟩) hE hP hD hS hA (pm_5_1 _ _ _ _ _) ((pm_5_1 _ _ _ _ _).symm) 1 rfl rfl rfl rfl hl.1 rfl (Nat.le_of_ble_eq_true rfl) dX3_come_51 ⟨Nat.le_of_ble_eq_true rfl, Nat.le_of_ble_eq_true rfl⟩ (fun H locs hP hD hS => ?_)
    have hP : va_P g.1 vwCl ((wU u (ah 0) (a0 0) (at9 0)) ++ ((wH g ah (Hseat (r9 * 6 + c9) h)) ++ ((wT g at9 (sg, (nI n))) ++ ((wK0 g a0 ak ((nI od), (nI (sz + 1)))) ++ (wHs g ak (va_up hs ((od + sz) % 6) h) 6))))) _ := hP
    have hD : va_D A ((wU u (ah 0) (a0 0) (at9 0)) ++ ((wH g ah (Hseat (r9 * 6 + c9) h)) ++ ((wT g at9 (sg, (nI n))) ++ ((wK0 g a0 ak ((nI od), (nI (sz + 1)))) ++ (wHs g ak (va_up hs ((od + sz) % 6) h) 6))))) := hD
    obtain ⟨z2, ez2⟩ : ∃ x : HSt, (Hseat (r9 * 6 + c9) h) = x := ⟨_, rfl⟩
    rw [ez2] at hP hD
    refine lv_aload_n hx hb dX3_come_54 rfl (lv_at hl 1 rfl) ?_
    refine va_get (D := g.1) (ci := 3) (v := .ref (ah 0)) (C := RX3) (T := TX3) (N := 3) hx hb hts hiX3 hown hE.1 hP 0 rfl rfl 0 (by decide) f12 (fun _ h9 => h9) rfl dX3_come_55 ?_
    refine va_get (D := g.1) (ci := 1) (v := .ref (ah 1)) (C := RX1) (T := TX1) (N := 12) hx hb hts hiX1 hown hE.1 hP 1 rfl rfl 0 (by decide) f59 (fun _ h9 => h9) rfl dX3_come_58 ?_
    refine lv_iload_n hx hb dX3_come_61 rfl (lv_at hl 0 rfl) ?_
    refine k_iald (f := (hL z2)) hx hb hE hP 2 rfl (r9 * 6 + c9) rfl (by omega) (by decide) dX3_come_62 ?_
    have e3 : (Hseat (r9 * 6 + c9) h) = z2 := (by subst ez2; first | (simp only [if_pos c1, if_neg (not_not_intro c1)]; done) | (simp only [if_pos c1, if_neg (not_not_intro c1)]; rfl) | rfl | (simp [if_pos c1, if_neg (not_not_intro c1)]; done))
    have e4 : (nI od, nI (sz + 1)) = ((nI od), (nI (sz + 1))) := (by subst ez2; first | (simp only [if_pos c1, if_neg (not_not_intro c1)]; done) | (simp only [if_pos c1, if_neg (not_not_intro c1)]; rfl) | rfl | (simp [if_pos c1, if_neg (not_not_intro c1)]; done))
    have hP : va_P g.1 vwCl ((wU u (ah 0) (a0 0) (at9 0)) ++ ((wH g ah (Hseat (r9 * 6 + c9) h)) ++ ((wT g at9 (sg, (nI n))) ++ ((wK0 g a0 ak (nI od, nI (sz + 1))) ++ (wHs g ak (va_up hs ((od + sz) % 6) h) 6))))) H := by rw [e3, e4]; exact hP
    have hD : va_D A ((wU u (ah 0) (a0 0) (at9 0)) ++ ((wH g ah (Hseat (r9 * 6 + c9) h)) ++ ((wT g at9 (sg, (nI n))) ++ ((wK0 g a0 ak (nI od, nI (sz + 1))) ++ (wHs g ak (va_up hs ((od + sz) % 6) h) 6))))) := by rw [e3, e4]; exact hD
    exact k_iret hx hb hr hlocks rfl (by subst ez2; first | (simp only [bI, if_pos c1, if_neg (not_not_intro c1)]; done) | (simp only [bI, if_pos c1, if_neg (not_not_intro c1)]; rfl) | rfl | (simp [bI, if_pos c1, if_neg (not_not_intro c1)]; done)) hP hD hS (Nat.le_of_ble_eq_true rfl) (Nat.le_of_ble_eq_true rfl) dX3_come_63
  ·
    exact absurd h9 c1
set_option maxHeartbeats 4000000 in
set_option maxRecDepth 100000 in
theorem c_X3_leave (l : Launch) (g : kG) (u : Nat) (ah at9 a0 : Nat → Nat) (ak : Nat → Nat → Nat) (h : HSt) (sg : Nat → Int32) (n od sz : Nat) (hs : Nat → HSt) (hod : od < 6) (sz5 : sz ≤ 5) (hbo : Hbo h) (r9 c9 : Nat) (hr9 : r9 < 8) (hc9 : c9 < 6) (b : Nat) (hb2 : b < 2) (h9 : ¬ (hL h) (r9 * 6 + c9) ≤ 0) : KI l yX3_leave wsX3_leave ({ frames := 3, cells := 0, slots := 0, locals := 102 }) g [.ref u, .int (nI r9), .int (nI c9), .int (nI b)] ((wU u (ah 0) (a0 0) (at9 0)) ++ ((wH g ah h) ++ ((wT g at9 (sg, (nI n))) ++ ((wK0 g a0 ak ((nI od), (nI sz))) ++ (wHs g ak hs 6))))) (hL (Hunseat (r9 * 6 + c9) b h) (r9 * 6 + c9)) ((wU u (ah 0) (a0 0) (at9 0)) ++ ((wH g ah (Hunseat (r9 * 6 + c9) b h)) ++ ((wT g at9 (sg, (nI n))) ++ ((wK0 g a0 ak (nI od, nI (sz + 1))) ++ (wHs g ak (va_up hs ((od + sz) % 6) h) 6))))) 0 0 := by
  refine k_begin (cc := cX3_leave) (maxL := 5) (ret := (some .int)) (Qc := fun A => kQi g (hL (Hunseat (r9 * 6 + c9) b h) (r9 * 6 + c9)) ((wU u (ah 0) (a0 0) (at9 0)) ++ ((wH g ah (Hunseat (r9 * 6 + c9) b h)) ++ ((wT g at9 (sg, (nI n))) ++ ((wK0 g a0 ak (nI od, nI (sz + 1))) ++ (wHs g ak (va_up hs ((od + sz) % 6) h) 6))))) A) (by decide) rfl (Nat.le_of_ble_eq_true rfl) ?_
  intro p e s m below meth c A ls hF hr hlocks hin hE hP hD hS hA hl
  obtain ⟨hx, hb, hml, hown, hts⟩ := id hF
  have hown : s.vm.findClass RX3 = some m.cls := hown
  have hl : lv_has ls 5 [(0, .ref u), (1, .int (nI r9)), (2, .int (nI c9)), (3, .int (nI b))] := hl
  have hiX3 : ∀ w ∈ wsX30, w ∈ wsX3_leave := fun _ h => List.mem_cons_of_mem _ (List.mem_append_left _ (List.mem_append_left _ (List.mem_append_left _ (List.mem_append_left _ (List.mem_append_right _ (h))))))
  have hiX1 : ∀ w ∈ wsX10, w ∈ wsX3_leave := fun _ h => List.mem_cons_of_mem _ (List.mem_append_left _ (List.mem_append_left _ (List.mem_append_left _ (List.mem_append_right _ (h)))))
  have f12 : (Cond.fieldLink RX3 12 "ConcertUsher" "hall" "LConcertUsher$Hall;").before _ s = true := hts _ (List.mem_of_getElem? (i := 3) rfl)
  have f19 : (Cond.fieldLink RX3 19 "ConcertUsher" "history" "LConcertUsher$History;").before _ s = true := hts _ (List.mem_of_getElem? (i := 4) rfl)
  have f59 : (Cond.fieldLink RX3 59 "ConcertUsher$Hall" "listeners" "[I").before _ s = true := hts _ (List.mem_of_getElem? (i := 5) rfl)
  refine lv_iload_n hx hb dX3_leave_0 rfl (lv_at hl 1 rfl) ?_
  refine k_Sv (w0 := []) (w1 := []) (As := [.int (nI r9)]) hF (c_X3_checkRow l g r9 (by omega)) (va_cwS 1 hts gX3_leave_X3_checkRow rfl rfl rfl (by decide +kernel) ⟨Nat.le_of_ble_eq_true rfl, Nat.le_of_ble_eq_true rfl⟩) hE hP hD hS hA (List.Perm.refl _) (List.Perm.refl _) rfl hl.1 rfl (Nat.le_of_ble_eq_true rfl) dX3_leave_1 ⟨Nat.le_of_ble_eq_true rfl, Nat.le_of_ble_eq_true rfl⟩ (fun H locs hP hD hS => ?_)
  have hP : va_P g.1 vwCl ((wU u (ah 0) (a0 0) (at9 0)) ++ ((wH g ah h) ++ ((wT g at9 (sg, (nI n))) ++ ((wK0 g a0 ak ((nI od), (nI sz))) ++ (wHs g ak hs 6))))) _ := hP
  have hD : va_D A ((wU u (ah 0) (a0 0) (at9 0)) ++ ((wH g ah h) ++ ((wT g at9 (sg, (nI n))) ++ ((wK0 g a0 ak ((nI od), (nI sz))) ++ (wHs g ak hs 6))))) := hD
  refine lv_iload_n hx hb dX3_leave_4 rfl (lv_at hl 2 rfl) ?_
  refine k_Sv (w0 := []) (w1 := []) (As := [.int (nI c9)]) hF (c_X3_checkConcert l g c9 (by omega)) (va_cwS 1 hts gX3_leave_X3_checkConcert rfl rfl rfl (by decide +kernel) ⟨Nat.le_of_ble_eq_true rfl, Nat.le_of_ble_eq_true rfl⟩) hE hP hD hS hA (List.Perm.refl _) (List.Perm.refl _) rfl hl.1 rfl (Nat.le_of_ble_eq_true rfl) dX3_leave_5 ⟨Nat.le_of_ble_eq_true rfl, Nat.le_of_ble_eq_true rfl⟩ (fun H locs hP hD hS => ?_)
  have hP : va_P g.1 vwCl ((wU u (ah 0) (a0 0) (at9 0)) ++ ((wH g ah h) ++ ((wT g at9 (sg, (nI n))) ++ ((wK0 g a0 ak ((nI od), (nI sz))) ++ (wHs g ak hs 6))))) _ := hP
  have hD : va_D A ((wU u (ah 0) (a0 0) (at9 0)) ++ ((wH g ah h) ++ ((wT g at9 (sg, (nI n))) ++ ((wK0 g a0 ak ((nI od), (nI sz))) ++ (wHs g ak hs 6))))) := hD
  refine lv_iload_n hx hb dX3_leave_8 rfl (lv_at hl 1 rfl) ?_
  refine lv_iload_n hx hb dX3_leave_9 rfl (lv_at hl 2 rfl) ?_
  refine k_Si (w0 := []) (w1 := []) (As := [.int (nI r9), .int (nI c9)]) (r := (nI (r9 * 6 + c9))) hF (c_X3_placeOf l g r9 c9) (va_cwS 2 hts gX3_leave_X3_placeOf rfl rfl rfl (by decide +kernel) ⟨Nat.le_of_ble_eq_true rfl, Nat.le_of_ble_eq_true rfl⟩) hE hP hD hS hA (List.Perm.refl _) (List.Perm.refl _) rfl hl.1 rfl (Nat.le_of_ble_eq_true rfl) dX3_leave_10 ⟨Nat.le_of_ble_eq_true rfl, Nat.le_of_ble_eq_true rfl⟩ (fun H locs hP hD hS => ?_)
  have hP : va_P g.1 vwCl ((wU u (ah 0) (a0 0) (at9 0)) ++ ((wH g ah h) ++ ((wT g at9 (sg, (nI n))) ++ ((wK0 g a0 ak ((nI od), (nI sz))) ++ (wHs g ak hs 6))))) _ := hP
  have hD : va_D A ((wU u (ah 0) (a0 0) (at9 0)) ++ ((wH g ah h) ++ ((wT g at9 (sg, (nI n))) ++ ((wK0 g a0 ak ((nI od), (nI sz))) ++ (wHs g ak hs 6))))) := hD
  refine lv_istore (lv' := [(4, .int (nI (r9 * 6 + c9))), (0, .ref u), (1, .int (nI r9)), (2, .int (nI c9)), (3, .int (nI b))]) hx hb dX3_leave_13 hl (by decide) rfl (fun ls hl => ?_)
  refine lv_aload_n hx hb dX3_leave_15 rfl (lv_at hl 1 rfl) ?_
  refine va_get (D := g.1) (ci := 3) (v := .ref (ah 0)) (C := RX3) (T := TX3) (N := 3) hx hb hts hiX3 hown hE.1 hP 0 rfl rfl 0 (by decide) f12 (fun _ h9 => h9) rfl dX3_leave_16 ?_
  refine lv_iload hx hb dX3_leave_19 (lv_at hl 0 rfl) ?_
  refine k_Vi (As := [.int (nI (r9 * 6 + c9))]) (r := (bI (¬ ((hL h) (r9 * 6 + c9)) ≤ 0))) hF (c_X1_isWantedAt l g ah h (r9 * 6 + c9) (by omega)) (cwV 1 hts gX3_leave_X1_isWantedAt rfl rfl rfl (by decide +kernel) ⟨Nat.le_of_ble_eq_true rfl, Nat.le_of_ble_eq_true rfl⟩) hE hP hD hS hA (pm_5_1 _ _ _ _ _) ((pm_5_1 _ _ _ _ _).symm) 1 rfl rfl rfl rfl hl.1 rfl (Nat.le_of_ble_eq_true rfl) dX3_leave_21 ⟨Nat.le_of_ble_eq_true rfl, Nat.le_of_ble_eq_true rfl⟩ (fun H locs hP hD hS => ?_)
  have hP : va_P g.1 vwCl ((wU u (ah 0) (a0 0) (at9 0)) ++ ((wH g ah h) ++ ((wT g at9 (sg, (nI n))) ++ ((wK0 g a0 ak ((nI od), (nI sz))) ++ (wHs g ak hs 6))))) _ := hP
  have hD : va_D A ((wU u (ah 0) (a0 0) (at9 0)) ++ ((wH g ah h) ++ ((wT g at9 (sg, (nI n))) ++ ((wK0 g a0 ak ((nI od), (nI sz))) ++ (wHs g ak hs 6))))) := hD
  refine k_ifneB (tgt := 37) hx hb dX3_leave_24 (by decide) (fun c1 => ?_) (fun c1 => ?_)
  ·
    refine lv_aload_n hx hb dX3_leave_37 rfl (lv_at hl 1 rfl) ?_
    refine va_get (D := g.1) (ci := 3) (v := .ref (a0 0)) (C := RX3) (T := TX3) (N := 3) hx hb hts hiX3 hown hE.1 hP 0 rfl rfl 1 (by decide) f19 (fun _ h9 => h9) rfl dX3_leave_38 ?_
    refine lv_aload_n hx hb dX3_leave_41 rfl (lv_at hl 1 rfl) ?_
    refine va_get (D := g.1) (ci := 3) (v := .ref (ah 0)) (C := RX3) (T := TX3) (N := 3) hx hb hts hiX3 hown hE.1 hP 0 rfl rfl 0 (by decide) f12 (fun _ h9 => h9) rfl dX3_leave_42 ?_
    refine k_Vv (As := [.ref (ah 0)]) hF (c_X2_keep l g a0 ak ah od sz (by omega) (by omega) hs h hbo) (cwV 1 hts gX3_leave_X2_keep rfl rfl rfl (by decide +kernel) ⟨Nat.le_of_ble_eq_true rfl, Nat.le_of_ble_eq_true rfl⟩) hE hP hD hS hA (pm_5_341 _ _ _ _ _) ((pm_5_341 _ _ _ _ _).symm) 7 rfl rfl rfl rfl hl.1 rfl (Nat.le_of_ble_eq_true rfl) dX3_leave_45 ⟨Nat.le_of_ble_eq_true rfl, Nat.le_of_ble_eq_true rfl⟩ (fun H locs hP hD hS => ?_)
    have hP : va_P g.1 vwCl ((wU u (ah 0) (a0 0) (at9 0)) ++ ((wH g ah h) ++ ((wT g at9 (sg, (nI n))) ++ ((wK0 g a0 ak ((nI (kOd od sz)), (nI (kSz sz)))) ++ (wHs g ak (va_up hs (kJ od sz) h) 6))))) _ := hP
    have hD : va_D A ((wU u (ah 0) (a0 0) (at9 0)) ++ ((wH g ah h) ++ ((wT g at9 (sg, (nI n))) ++ ((wK0 g a0 ak ((nI (kOd od sz)), (nI (kSz sz)))) ++ (wHs g ak (va_up hs (kJ od sz) h) 6))))) := hD
    rw [kOd5 sz5, kSz5 sz5, kJ5 sz5] at hP hD
    refine lv_aload_n hx hb dX3_leave_48 rfl (lv_at hl 1 rfl) ?_
    refine va_get (D := g.1) (ci := 3) (v := .ref (ah 0)) (C := RX3) (T := TX3) (N := 3) hx hb hts hiX3 hown hE.1 hP 0 rfl rfl 0 (by decide) f12 (fun _ h9 => h9) rfl dX3_leave_49 ?_
    refine lv_iload hx hb dX3_leave_52 (lv_at hl 0 rfl) ?_
    refine lv_iload_n hx hb dX3_leave_54 rfl (lv_at hl 4 rfl) ?_
    refine k_Vv (As := [.int (nI (r9 * 6 + c9)), .int (nI b)]) hF (c_X1_unseat l g ah h (r9 * 6 + c9) (by omega) b (by omega)) (cwV 2 hts gX3_leave_X1_unseat rfl rfl rfl (by decide +kernel) ⟨Nat.le_of_ble_eq_true rfl, Nat.le_of_ble_eq_true rfl⟩) hE hP hD hS hA (pm_5_1 _ _ _ _ _) ((pm_5_1 _ _ _ _ _).symm) 1 rfl rfl rfl rfl hl.1 rfl (Nat.le_of_ble_eq_true rfl) dX3_leave_55 ⟨Nat.le_of_ble_eq_true rfl, Nat.le_of_ble_eq_true rfl⟩ (fun H locs hP hD hS => ?_)
    have hP : va_P g.1 vwCl ((wU u (ah 0) (a0 0) (at9 0)) ++ ((wH g ah (Hunseat (r9 * 6 + c9) b h)) ++ ((wT g at9 (sg, (nI n))) ++ ((wK0 g a0 ak ((nI od), (nI (sz + 1)))) ++ (wHs g ak (va_up hs ((od + sz) % 6) h) 6))))) _ := hP
    have hD : va_D A ((wU u (ah 0) (a0 0) (at9 0)) ++ ((wH g ah (Hunseat (r9 * 6 + c9) b h)) ++ ((wT g at9 (sg, (nI n))) ++ ((wK0 g a0 ak ((nI od), (nI (sz + 1)))) ++ (wHs g ak (va_up hs ((od + sz) % 6) h) 6))))) := hD
    obtain ⟨z2, ez2⟩ : ∃ x : HSt, (Hunseat (r9 * 6 + c9) b h) = x := ⟨_, rfl⟩
    rw [ez2] at hP hD
    refine lv_aload_n hx hb dX3_leave_58 rfl (lv_at hl 1 rfl) ?_
    refine va_get (D := g.1) (ci := 3) (v := .ref (ah 0)) (C := RX3) (T := TX3) (N := 3) hx hb hts hiX3 hown hE.1 hP 0 rfl rfl 0 (by decide) f12 (fun _ h9 => h9) rfl dX3_leave_59 ?_
    refine va_get (D := g.1) (ci := 1) (v := .ref (ah 1)) (C := RX1) (T := TX1) (N := 12) hx hb hts hiX1 hown hE.1 hP 1 rfl rfl 0 (by decide) f59 (fun _ h9 => h9) rfl dX3_leave_62 ?_
    refine lv_iload hx hb dX3_leave_65 (lv_at hl 0 rfl) ?_
    refine k_iald (f := (hL z2)) hx hb hE hP 2 rfl (r9 * 6 + c9) rfl (by omega) (by decide) dX3_leave_67 ?_
    have e3 : (Hunseat (r9 * 6 + c9) b h) = z2 := (by subst ez2; first | (simp only [if_pos c1, if_neg (not_not_intro c1)]; done) | (simp only [if_pos c1, if_neg (not_not_intro c1)]; rfl) | rfl | (simp [if_pos c1, if_neg (not_not_intro c1)]; done))
    have e4 : (nI od, nI (sz + 1)) = ((nI od), (nI (sz + 1))) := (by subst ez2; first | (simp only [if_pos c1, if_neg (not_not_intro c1)]; done) | (simp only [if_pos c1, if_neg (not_not_intro c1)]; rfl) | rfl | (simp [if_pos c1, if_neg (not_not_intro c1)]; done))
    have hP : va_P g.1 vwCl ((wU u (ah 0) (a0 0) (at9 0)) ++ ((wH g ah (Hunseat (r9 * 6 + c9) b h)) ++ ((wT g at9 (sg, (nI n))) ++ ((wK0 g a0 ak (nI od, nI (sz + 1))) ++ (wHs g ak (va_up hs ((od + sz) % 6) h) 6))))) H := by rw [e3, e4]; exact hP
    have hD : va_D A ((wU u (ah 0) (a0 0) (at9 0)) ++ ((wH g ah (Hunseat (r9 * 6 + c9) b h)) ++ ((wT g at9 (sg, (nI n))) ++ ((wK0 g a0 ak (nI od, nI (sz + 1))) ++ (wHs g ak (va_up hs ((od + sz) % 6) h) 6))))) := by rw [e3, e4]; exact hD
    exact k_iret hx hb hr hlocks rfl (by subst ez2; first | (simp only [bI, if_pos c1, if_neg (not_not_intro c1)]; done) | (simp only [bI, if_pos c1, if_neg (not_not_intro c1)]; rfl) | rfl | (simp [bI, if_pos c1, if_neg (not_not_intro c1)]; done)) hP hD hS (Nat.le_of_ble_eq_true rfl) (Nat.le_of_ble_eq_true rfl) dX3_leave_68
  ·
    exact absurd h9 c1
set_option maxHeartbeats 4000000 in
set_option maxRecDepth 100000 in
theorem c_X3_listeners (l : Launch) (g : kG) (u : Nat) (ah at9 a0 : Nat → Nat) (ak : Nat → Nat → Nat) (h : HSt) (sg : Nat → Int32) (n od sz : Nat) (hs : Nat → HSt) (r9 c9 : Nat) (hr9 : r9 < 8) (hc9 : c9 < 6) : KI l yX3_listeners wsX3_listeners ({ frames := 2, cells := 0, slots := 0, locals := 40 }) g [.ref u, .int (nI r9), .int (nI c9)] ((wU u (ah 0) (a0 0) (at9 0)) ++ ((wH g ah h) ++ ((wT g at9 (sg, (nI n))) ++ ((wK0 g a0 ak ((nI od), (nI sz))) ++ (wHs g ak hs 6))))) ((hL h) (r9 * 6 + c9)) ((wU u (ah 0) (a0 0) (at9 0)) ++ ((wH g ah h) ++ ((wT g at9 (sg, (nI n))) ++ ((wK0 g a0 ak ((nI od), (nI sz))) ++ (wHs g ak hs 6))))) 0 0 := by
  refine k_begin (cc := cX3_listeners) (maxL := 3) (ret := (some .int)) (Qc := fun A => kQi g ((hL h) (r9 * 6 + c9)) ((wU u (ah 0) (a0 0) (at9 0)) ++ ((wH g ah h) ++ ((wT g at9 (sg, (nI n))) ++ ((wK0 g a0 ak ((nI od), (nI sz))) ++ (wHs g ak hs 6))))) A) (by decide) rfl (Nat.le_of_ble_eq_true rfl) ?_
  intro p e s m below meth c A ls hF hr hlocks hin hE hP hD hS hA hl
  obtain ⟨hx, hb, hml, hown, hts⟩ := id hF
  have hown : s.vm.findClass RX3 = some m.cls := hown
  have hl : lv_has ls 3 [(0, .ref u), (1, .int (nI r9)), (2, .int (nI c9))] := hl
  have hiX3 : ∀ w ∈ wsX30, w ∈ wsX3_listeners := fun _ h => List.mem_cons_of_mem _ (List.mem_append_left _ (List.mem_append_left _ (List.mem_append_right _ (h))))
  have hiX1 : ∀ w ∈ wsX10, w ∈ wsX3_listeners := fun _ h => List.mem_cons_of_mem _ (List.mem_append_left _ (List.mem_append_right _ (h)))
  have f12 : (Cond.fieldLink RX3 12 "ConcertUsher" "hall" "LConcertUsher$Hall;").before _ s = true := hts _ (List.mem_of_getElem? (i := 1) rfl)
  have f59 : (Cond.fieldLink RX3 59 "ConcertUsher$Hall" "listeners" "[I").before _ s = true := hts _ (List.mem_of_getElem? (i := 2) rfl)
  refine lv_iload_n hx hb dX3_listeners_0 rfl (lv_at hl 1 rfl) ?_
  refine k_Sv (w0 := []) (w1 := []) (As := [.int (nI r9)]) hF (c_X3_checkRow l g r9 (by omega)) (va_cwS 1 hts gX3_listeners_X3_checkRow rfl rfl rfl (by decide +kernel) ⟨Nat.le_of_ble_eq_true rfl, Nat.le_of_ble_eq_true rfl⟩) hE hP hD hS hA (List.Perm.refl _) (List.Perm.refl _) rfl hl.1 rfl (Nat.le_of_ble_eq_true rfl) dX3_listeners_1 ⟨Nat.le_of_ble_eq_true rfl, Nat.le_of_ble_eq_true rfl⟩ (fun H locs hP hD hS => ?_)
  have hP : va_P g.1 vwCl ((wU u (ah 0) (a0 0) (at9 0)) ++ ((wH g ah h) ++ ((wT g at9 (sg, (nI n))) ++ ((wK0 g a0 ak ((nI od), (nI sz))) ++ (wHs g ak hs 6))))) _ := hP
  have hD : va_D A ((wU u (ah 0) (a0 0) (at9 0)) ++ ((wH g ah h) ++ ((wT g at9 (sg, (nI n))) ++ ((wK0 g a0 ak ((nI od), (nI sz))) ++ (wHs g ak hs 6))))) := hD
  refine lv_iload_n hx hb dX3_listeners_4 rfl (lv_at hl 2 rfl) ?_
  refine k_Sv (w0 := []) (w1 := []) (As := [.int (nI c9)]) hF (c_X3_checkConcert l g c9 (by omega)) (va_cwS 1 hts gX3_listeners_X3_checkConcert rfl rfl rfl (by decide +kernel) ⟨Nat.le_of_ble_eq_true rfl, Nat.le_of_ble_eq_true rfl⟩) hE hP hD hS hA (List.Perm.refl _) (List.Perm.refl _) rfl hl.1 rfl (Nat.le_of_ble_eq_true rfl) dX3_listeners_5 ⟨Nat.le_of_ble_eq_true rfl, Nat.le_of_ble_eq_true rfl⟩ (fun H locs hP hD hS => ?_)
  have hP : va_P g.1 vwCl ((wU u (ah 0) (a0 0) (at9 0)) ++ ((wH g ah h) ++ ((wT g at9 (sg, (nI n))) ++ ((wK0 g a0 ak ((nI od), (nI sz))) ++ (wHs g ak hs 6))))) _ := hP
  have hD : va_D A ((wU u (ah 0) (a0 0) (at9 0)) ++ ((wH g ah h) ++ ((wT g at9 (sg, (nI n))) ++ ((wK0 g a0 ak ((nI od), (nI sz))) ++ (wHs g ak hs 6))))) := hD
  refine lv_aload_n hx hb dX3_listeners_8 rfl (lv_at hl 0 rfl) ?_
  refine va_get (D := g.1) (ci := 3) (v := .ref (ah 0)) (C := RX3) (T := TX3) (N := 3) hx hb hts hiX3 hown hE.1 hP 0 rfl rfl 0 (by decide) f12 (fun _ h9 => h9) rfl dX3_listeners_9 ?_
  refine va_get (D := g.1) (ci := 1) (v := .ref (ah 1)) (C := RX1) (T := TX1) (N := 12) hx hb hts hiX1 hown hE.1 hP 1 rfl rfl 0 (by decide) f59 (fun _ h9 => h9) rfl dX3_listeners_12 ?_
  refine lv_iload_n hx hb dX3_listeners_15 rfl (lv_at hl 1 rfl) ?_
  refine lv_iload_n hx hb dX3_listeners_16 rfl (lv_at hl 2 rfl) ?_
  refine k_Si (w0 := []) (w1 := []) (As := [.int (nI r9), .int (nI c9)]) (r := (nI (r9 * 6 + c9))) hF (c_X3_placeOf l g r9 c9) (va_cwS 2 hts gX3_listeners_X3_placeOf rfl rfl rfl (by decide +kernel) ⟨Nat.le_of_ble_eq_true rfl, Nat.le_of_ble_eq_true rfl⟩) hE hP hD hS hA (List.Perm.refl _) (List.Perm.refl _) rfl hl.1 rfl (Nat.le_of_ble_eq_true rfl) dX3_listeners_17 ⟨Nat.le_of_ble_eq_true rfl, Nat.le_of_ble_eq_true rfl⟩ (fun H locs hP hD hS => ?_)
  have hP : va_P g.1 vwCl ((wU u (ah 0) (a0 0) (at9 0)) ++ ((wH g ah h) ++ ((wT g at9 (sg, (nI n))) ++ ((wK0 g a0 ak ((nI od), (nI sz))) ++ (wHs g ak hs 6))))) _ := hP
  have hD : va_D A ((wU u (ah 0) (a0 0) (at9 0)) ++ ((wH g ah h) ++ ((wT g at9 (sg, (nI n))) ++ ((wK0 g a0 ak ((nI od), (nI sz))) ++ (wHs g ak hs 6))))) := hD
  refine k_iald (f := (hL h)) hx hb hE hP 2 rfl (r9 * 6 + c9) rfl (by omega) (by decide) dX3_listeners_20 ?_
  have hP : va_P g.1 vwCl ((wU u (ah 0) (a0 0) (at9 0)) ++ ((wH g ah h) ++ ((wT g at9 (sg, (nI n))) ++ ((wK0 g a0 ak ((nI od), (nI sz))) ++ (wHs g ak hs 6))))) _ := hP
  have hD : va_D A ((wU u (ah 0) (a0 0) (at9 0)) ++ ((wH g ah h) ++ ((wT g at9 (sg, (nI n))) ++ ((wK0 g a0 ak ((nI od), (nI sz))) ++ (wHs g ak hs 6))))) := hD
  exact k_iret hx hb hr hlocks rfl rfl hP hD hS (Nat.le_of_ble_eq_true rfl) (Nat.le_of_ble_eq_true rfl) dX3_listeners_21
set_option maxHeartbeats 4000000 in
set_option maxRecDepth 100000 in
theorem c_X3_rest (l : Launch) (g : kG) (u : Nat) (ah at9 a0 : Nat → Nat) (ak : Nat → Nat → Nat) (h : HSt) (sg : Nat → Int32) (n od sz : Nat) (hs : Nat → HSt) (r9 c9 : Nat) (hr9 : r9 < 8) (hc9 : c9 < 6) : KI l yX3_rest wsX3_rest ({ frames := 2, cells := 0, slots := 0, locals := 40 }) g [.ref u, .int (nI r9), .int (nI c9)] ((wU u (ah 0) (a0 0) (at9 0)) ++ ((wH g ah h) ++ ((wT g at9 (sg, (nI n))) ++ ((wK0 g a0 ak ((nI od), (nI sz))) ++ (wHs g ak hs 6))))) ((hR h) (r9 * 6 + c9)) ((wU u (ah 0) (a0 0) (at9 0)) ++ ((wH g ah h) ++ ((wT g at9 (sg, (nI n))) ++ ((wK0 g a0 ak ((nI od), (nI sz))) ++ (wHs g ak hs 6))))) 0 0 := by
  refine k_begin (cc := cX3_rest) (maxL := 3) (ret := (some .int)) (Qc := fun A => kQi g ((hR h) (r9 * 6 + c9)) ((wU u (ah 0) (a0 0) (at9 0)) ++ ((wH g ah h) ++ ((wT g at9 (sg, (nI n))) ++ ((wK0 g a0 ak ((nI od), (nI sz))) ++ (wHs g ak hs 6))))) A) (by decide) rfl (Nat.le_of_ble_eq_true rfl) ?_
  intro p e s m below meth c A ls hF hr hlocks hin hE hP hD hS hA hl
  obtain ⟨hx, hb, hml, hown, hts⟩ := id hF
  have hown : s.vm.findClass RX3 = some m.cls := hown
  have hl : lv_has ls 3 [(0, .ref u), (1, .int (nI r9)), (2, .int (nI c9))] := hl
  have hiX3 : ∀ w ∈ wsX30, w ∈ wsX3_rest := fun _ h => List.mem_cons_of_mem _ (List.mem_append_left _ (List.mem_append_left _ (List.mem_append_right _ (h))))
  have hiX1 : ∀ w ∈ wsX10, w ∈ wsX3_rest := fun _ h => List.mem_cons_of_mem _ (List.mem_append_left _ (List.mem_append_right _ (h)))
  have f12 : (Cond.fieldLink RX3 12 "ConcertUsher" "hall" "LConcertUsher$Hall;").before _ s = true := hts _ (List.mem_of_getElem? (i := 1) rfl)
  have f116 : (Cond.fieldLink RX3 116 "ConcertUsher$Hall" "rests" "[I").before _ s = true := hts _ (List.mem_of_getElem? (i := 2) rfl)
  refine lv_iload_n hx hb dX3_rest_0 rfl (lv_at hl 1 rfl) ?_
  refine k_Sv (w0 := []) (w1 := []) (As := [.int (nI r9)]) hF (c_X3_checkRow l g r9 (by omega)) (va_cwS 1 hts gX3_rest_X3_checkRow rfl rfl rfl (by decide +kernel) ⟨Nat.le_of_ble_eq_true rfl, Nat.le_of_ble_eq_true rfl⟩) hE hP hD hS hA (List.Perm.refl _) (List.Perm.refl _) rfl hl.1 rfl (Nat.le_of_ble_eq_true rfl) dX3_rest_1 ⟨Nat.le_of_ble_eq_true rfl, Nat.le_of_ble_eq_true rfl⟩ (fun H locs hP hD hS => ?_)
  have hP : va_P g.1 vwCl ((wU u (ah 0) (a0 0) (at9 0)) ++ ((wH g ah h) ++ ((wT g at9 (sg, (nI n))) ++ ((wK0 g a0 ak ((nI od), (nI sz))) ++ (wHs g ak hs 6))))) _ := hP
  have hD : va_D A ((wU u (ah 0) (a0 0) (at9 0)) ++ ((wH g ah h) ++ ((wT g at9 (sg, (nI n))) ++ ((wK0 g a0 ak ((nI od), (nI sz))) ++ (wHs g ak hs 6))))) := hD
  refine lv_iload_n hx hb dX3_rest_4 rfl (lv_at hl 2 rfl) ?_
  refine k_Sv (w0 := []) (w1 := []) (As := [.int (nI c9)]) hF (c_X3_checkConcert l g c9 (by omega)) (va_cwS 1 hts gX3_rest_X3_checkConcert rfl rfl rfl (by decide +kernel) ⟨Nat.le_of_ble_eq_true rfl, Nat.le_of_ble_eq_true rfl⟩) hE hP hD hS hA (List.Perm.refl _) (List.Perm.refl _) rfl hl.1 rfl (Nat.le_of_ble_eq_true rfl) dX3_rest_5 ⟨Nat.le_of_ble_eq_true rfl, Nat.le_of_ble_eq_true rfl⟩ (fun H locs hP hD hS => ?_)
  have hP : va_P g.1 vwCl ((wU u (ah 0) (a0 0) (at9 0)) ++ ((wH g ah h) ++ ((wT g at9 (sg, (nI n))) ++ ((wK0 g a0 ak ((nI od), (nI sz))) ++ (wHs g ak hs 6))))) _ := hP
  have hD : va_D A ((wU u (ah 0) (a0 0) (at9 0)) ++ ((wH g ah h) ++ ((wT g at9 (sg, (nI n))) ++ ((wK0 g a0 ak ((nI od), (nI sz))) ++ (wHs g ak hs 6))))) := hD
  refine lv_aload_n hx hb dX3_rest_8 rfl (lv_at hl 0 rfl) ?_
  refine va_get (D := g.1) (ci := 3) (v := .ref (ah 0)) (C := RX3) (T := TX3) (N := 3) hx hb hts hiX3 hown hE.1 hP 0 rfl rfl 0 (by decide) f12 (fun _ h9 => h9) rfl dX3_rest_9 ?_
  refine va_get (D := g.1) (ci := 1) (v := .ref (ah 2)) (C := RX1) (T := TX1) (N := 12) hx hb hts hiX1 hown hE.1 hP 1 rfl rfl 1 (by decide) f116 (fun _ h9 => h9) rfl dX3_rest_12 ?_
  refine lv_iload_n hx hb dX3_rest_15 rfl (lv_at hl 1 rfl) ?_
  refine lv_iload_n hx hb dX3_rest_16 rfl (lv_at hl 2 rfl) ?_
  refine k_Si (w0 := []) (w1 := []) (As := [.int (nI r9), .int (nI c9)]) (r := (nI (r9 * 6 + c9))) hF (c_X3_placeOf l g r9 c9) (va_cwS 2 hts gX3_rest_X3_placeOf rfl rfl rfl (by decide +kernel) ⟨Nat.le_of_ble_eq_true rfl, Nat.le_of_ble_eq_true rfl⟩) hE hP hD hS hA (List.Perm.refl _) (List.Perm.refl _) rfl hl.1 rfl (Nat.le_of_ble_eq_true rfl) dX3_rest_17 ⟨Nat.le_of_ble_eq_true rfl, Nat.le_of_ble_eq_true rfl⟩ (fun H locs hP hD hS => ?_)
  have hP : va_P g.1 vwCl ((wU u (ah 0) (a0 0) (at9 0)) ++ ((wH g ah h) ++ ((wT g at9 (sg, (nI n))) ++ ((wK0 g a0 ak ((nI od), (nI sz))) ++ (wHs g ak hs 6))))) _ := hP
  have hD : va_D A ((wU u (ah 0) (a0 0) (at9 0)) ++ ((wH g ah h) ++ ((wT g at9 (sg, (nI n))) ++ ((wK0 g a0 ak ((nI od), (nI sz))) ++ (wHs g ak hs 6))))) := hD
  refine k_iald (f := (hR h)) hx hb hE hP 3 rfl (r9 * 6 + c9) rfl (by omega) (by decide) dX3_rest_20 ?_
  have hP : va_P g.1 vwCl ((wU u (ah 0) (a0 0) (at9 0)) ++ ((wH g ah h) ++ ((wT g at9 (sg, (nI n))) ++ ((wK0 g a0 ak ((nI od), (nI sz))) ++ (wHs g ak hs 6))))) _ := hP
  have hD : va_D A ((wU u (ah 0) (a0 0) (at9 0)) ++ ((wH g ah h) ++ ((wT g at9 (sg, (nI n))) ++ ((wK0 g a0 ak ((nI od), (nI sz))) ++ (wHs g ak hs 6))))) := hD
  exact k_iret hx hb hr hlocks rfl rfl hP hD hS (Nat.le_of_ble_eq_true rfl) (Nat.le_of_ble_eq_true rfl) dX3_rest_21
set_option maxHeartbeats 4000000 in
set_option maxRecDepth 100000 in
theorem c_X3_minutesToFade (l : Launch) (g : kG) (u : Nat) (ah at9 a0 : Nat → Nat) (ak : Nat → Nat → Nat) (h : HSt) (sg : Nat → Int32) (n od sz : Nat) (hs : Nat → HSt) (r9 c9 : Nat) (hr9 : r9 < 8) (hc9 : c9 < 6) : KI l yX3_minutesToFade wsX3_minutesToFade ({ frames := 4, cells := 0, slots := 0, locals := 82 }) g [.ref u, .int (nI r9), .int (nI c9)] ((wU u (ah 0) (a0 0) (at9 0)) ++ ((wH g ah h) ++ ((wT g at9 (sg, (nI n))) ++ ((wK0 g a0 ak ((nI od), (nI sz))) ++ (wHs g ak hs 6))))) (HfadesIn (r9 * 6 + c9) h) ((wU u (ah 0) (a0 0) (at9 0)) ++ ((wH g ah h) ++ ((wT g at9 (sg, (nI n))) ++ ((wK0 g a0 ak ((nI od), (nI sz))) ++ (wHs g ak hs 6))))) 0 0 := by
  refine k_begin (cc := cX3_minutesToFade) (maxL := 3) (ret := (some .int)) (Qc := fun A => kQi g (HfadesIn (r9 * 6 + c9) h) ((wU u (ah 0) (a0 0) (at9 0)) ++ ((wH g ah h) ++ ((wT g at9 (sg, (nI n))) ++ ((wK0 g a0 ak ((nI od), (nI sz))) ++ (wHs g ak hs 6))))) A) (by decide) rfl (Nat.le_of_ble_eq_true rfl) ?_
  intro p e s m below meth c A ls hF hr hlocks hin hE hP hD hS hA hl
  obtain ⟨hx, hb, hml, hown, hts⟩ := id hF
  have hown : s.vm.findClass RX3 = some m.cls := hown
  have hl : lv_has ls 3 [(0, .ref u), (1, .int (nI r9)), (2, .int (nI c9))] := hl
  have hiX3 : ∀ w ∈ wsX30, w ∈ wsX3_minutesToFade := fun _ h => List.mem_cons_of_mem _ (List.mem_append_left _ (List.mem_append_left _ (List.mem_append_right _ (h))))
  have f12 : (Cond.fieldLink RX3 12 "ConcertUsher" "hall" "LConcertUsher$Hall;").before _ s = true := hts _ (List.mem_of_getElem? (i := 1) rfl)
  refine lv_iload_n hx hb dX3_minutesToFade_0 rfl (lv_at hl 1 rfl) ?_
  refine k_Sv (w0 := []) (w1 := []) (As := [.int (nI r9)]) hF (c_X3_checkRow l g r9 (by omega)) (va_cwS 1 hts gX3_minutesToFade_X3_checkRow rfl rfl rfl (by decide +kernel) ⟨Nat.le_of_ble_eq_true rfl, Nat.le_of_ble_eq_true rfl⟩) hE hP hD hS hA (List.Perm.refl _) (List.Perm.refl _) rfl hl.1 rfl (Nat.le_of_ble_eq_true rfl) dX3_minutesToFade_1 ⟨Nat.le_of_ble_eq_true rfl, Nat.le_of_ble_eq_true rfl⟩ (fun H locs hP hD hS => ?_)
  have hP : va_P g.1 vwCl ((wU u (ah 0) (a0 0) (at9 0)) ++ ((wH g ah h) ++ ((wT g at9 (sg, (nI n))) ++ ((wK0 g a0 ak ((nI od), (nI sz))) ++ (wHs g ak hs 6))))) _ := hP
  have hD : va_D A ((wU u (ah 0) (a0 0) (at9 0)) ++ ((wH g ah h) ++ ((wT g at9 (sg, (nI n))) ++ ((wK0 g a0 ak ((nI od), (nI sz))) ++ (wHs g ak hs 6))))) := hD
  refine lv_iload_n hx hb dX3_minutesToFade_4 rfl (lv_at hl 2 rfl) ?_
  refine k_Sv (w0 := []) (w1 := []) (As := [.int (nI c9)]) hF (c_X3_checkConcert l g c9 (by omega)) (va_cwS 1 hts gX3_minutesToFade_X3_checkConcert rfl rfl rfl (by decide +kernel) ⟨Nat.le_of_ble_eq_true rfl, Nat.le_of_ble_eq_true rfl⟩) hE hP hD hS hA (List.Perm.refl _) (List.Perm.refl _) rfl hl.1 rfl (Nat.le_of_ble_eq_true rfl) dX3_minutesToFade_5 ⟨Nat.le_of_ble_eq_true rfl, Nat.le_of_ble_eq_true rfl⟩ (fun H locs hP hD hS => ?_)
  have hP : va_P g.1 vwCl ((wU u (ah 0) (a0 0) (at9 0)) ++ ((wH g ah h) ++ ((wT g at9 (sg, (nI n))) ++ ((wK0 g a0 ak ((nI od), (nI sz))) ++ (wHs g ak hs 6))))) _ := hP
  have hD : va_D A ((wU u (ah 0) (a0 0) (at9 0)) ++ ((wH g ah h) ++ ((wT g at9 (sg, (nI n))) ++ ((wK0 g a0 ak ((nI od), (nI sz))) ++ (wHs g ak hs 6))))) := hD
  refine lv_aload_n hx hb dX3_minutesToFade_8 rfl (lv_at hl 0 rfl) ?_
  refine va_get (D := g.1) (ci := 3) (v := .ref (ah 0)) (C := RX3) (T := TX3) (N := 3) hx hb hts hiX3 hown hE.1 hP 0 rfl rfl 0 (by decide) f12 (fun _ h9 => h9) rfl dX3_minutesToFade_9 ?_
  refine lv_iload_n hx hb dX3_minutesToFade_12 rfl (lv_at hl 1 rfl) ?_
  refine lv_iload_n hx hb dX3_minutesToFade_13 rfl (lv_at hl 2 rfl) ?_
  refine k_Si (w0 := []) (w1 := []) (As := [.int (nI r9), .int (nI c9)]) (r := (nI (r9 * 6 + c9))) hF (c_X3_placeOf l g r9 c9) (va_cwS 2 hts gX3_minutesToFade_X3_placeOf rfl rfl rfl (by decide +kernel) ⟨Nat.le_of_ble_eq_true rfl, Nat.le_of_ble_eq_true rfl⟩) hE hP hD hS hA (List.Perm.refl _) (List.Perm.refl _) rfl hl.1 rfl (Nat.le_of_ble_eq_true rfl) dX3_minutesToFade_14 ⟨Nat.le_of_ble_eq_true rfl, Nat.le_of_ble_eq_true rfl⟩ (fun H locs hP hD hS => ?_)
  have hP : va_P g.1 vwCl ((wU u (ah 0) (a0 0) (at9 0)) ++ ((wH g ah h) ++ ((wT g at9 (sg, (nI n))) ++ ((wK0 g a0 ak ((nI od), (nI sz))) ++ (wHs g ak hs 6))))) _ := hP
  have hD : va_D A ((wU u (ah 0) (a0 0) (at9 0)) ++ ((wH g ah h) ++ ((wT g at9 (sg, (nI n))) ++ ((wK0 g a0 ak ((nI od), (nI sz))) ++ (wHs g ak hs 6))))) := hD
  refine k_Vi (As := [.int (nI (r9 * 6 + c9))]) (r := (HfadesIn (r9 * 6 + c9) h)) hF (c_X1_fadesIn l g ah h (r9 * 6 + c9) (by omega)) (cwV 1 hts gX3_minutesToFade_X1_fadesIn rfl rfl rfl (by decide +kernel) ⟨Nat.le_of_ble_eq_true rfl, Nat.le_of_ble_eq_true rfl⟩) hE hP hD hS hA (pm_5_1 _ _ _ _ _) ((pm_5_1 _ _ _ _ _).symm) 1 rfl rfl rfl rfl hl.1 rfl (Nat.le_of_ble_eq_true rfl) dX3_minutesToFade_17 ⟨Nat.le_of_ble_eq_true rfl, Nat.le_of_ble_eq_true rfl⟩ (fun H locs hP hD hS => ?_)
  have hP : va_P g.1 vwCl ((wU u (ah 0) (a0 0) (at9 0)) ++ ((wH g ah h) ++ ((wT g at9 (sg, (nI n))) ++ ((wK0 g a0 ak ((nI od), (nI sz))) ++ (wHs g ak hs 6))))) _ := hP
  have hD : va_D A ((wU u (ah 0) (a0 0) (at9 0)) ++ ((wH g ah h) ++ ((wT g at9 (sg, (nI n))) ++ ((wK0 g a0 ak ((nI od), (nI sz))) ++ (wHs g ak hs 6))))) := hD
  have hP : va_P g.1 vwCl ((wU u (ah 0) (a0 0) (at9 0)) ++ ((wH g ah h) ++ ((wT g at9 (sg, (nI n))) ++ ((wK0 g a0 ak ((nI od), (nI sz))) ++ (wHs g ak hs 6))))) _ := hP
  have hD : va_D A ((wU u (ah 0) (a0 0) (at9 0)) ++ ((wH g ah h) ++ ((wT g at9 (sg, (nI n))) ++ ((wK0 g a0 ak ((nI od), (nI sz))) ++ (wHs g ak hs 6))))) := hD
  exact k_iret hx hb hr hlocks rfl rfl hP hD hS (Nat.le_of_ble_eq_true rfl) (Nat.le_of_ble_eq_true rfl) dX3_minutesToFade_20
set_option maxHeartbeats 4000000 in
set_option maxRecDepth 100000 in
theorem c_X3_setOpen (l : Launch) (g : kG) (u : Nat) (ah at9 a0 : Nat → Nat) (ak : Nat → Nat → Nat) (h : HSt) (sg : Nat → Int32) (n od sz : Nat) (hs : Nat → HSt) (hod : od < 6) (sz5 : sz ≤ 5) (hbo : Hbo h) (r9 : Nat) (hr9 : r9 < 8) (b : Nat) (hb2 : b < 2) : KI l yX3_setOpen wsX3_setOpen ({ frames := 3, cells := 0, slots := 0, locals := 102 }) g [.ref u, .int (nI r9), .int (nI b)] ((wU u (ah 0) (a0 0) (at9 0)) ++ ((wH g ah h) ++ ((wT g at9 (sg, (nI n))) ++ ((wK0 g a0 ak ((nI od), (nI sz))) ++ (wHs g ak hs 6))))) (bI (Hopen h r9)) ((wU u (ah 0) (a0 0) (at9 0)) ++ ((wH g ah (Lopen r9 b h)) ++ ((wT g at9 (sg, (nI n))) ++ ((wK0 g a0 ak (nI od, nI (sz + 1))) ++ (wHs g ak (va_up hs ((od + sz) % 6) h) 6))))) 0 0 := by
  refine k_begin (cc := cX3_setOpen) (maxL := 4) (ret := (some .boolean)) (Qc := fun A => kQi g (bI (Hopen h r9)) ((wU u (ah 0) (a0 0) (at9 0)) ++ ((wH g ah (Lopen r9 b h)) ++ ((wT g at9 (sg, (nI n))) ++ ((wK0 g a0 ak (nI od, nI (sz + 1))) ++ (wHs g ak (va_up hs ((od + sz) % 6) h) 6))))) A) (by decide) rfl (Nat.le_of_ble_eq_true rfl) ?_
  intro p e s m below meth c A ls hF hr hlocks hin hE hP hD hS hA hl
  obtain ⟨hx, hb, hml, hown, hts⟩ := id hF
  have hown : s.vm.findClass RX3 = some m.cls := hown
  have hl : lv_has ls 4 [(0, .ref u), (1, .int (nI r9)), (2, .int (nI b))] := hl
  have hiX3 : ∀ w ∈ wsX30, w ∈ wsX3_setOpen := fun _ h => List.mem_cons_of_mem _ (List.mem_append_left _ (List.mem_append_left _ (List.mem_append_left _ (List.mem_append_right _ (h)))))
  have f19 : (Cond.fieldLink RX3 19 "ConcertUsher" "history" "LConcertUsher$History;").before _ s = true := hts _ (List.mem_of_getElem? (i := 1) rfl)
  have f12 : (Cond.fieldLink RX3 12 "ConcertUsher" "hall" "LConcertUsher$Hall;").before _ s = true := hts _ (List.mem_of_getElem? (i := 2) rfl)
  refine lv_iload_n hx hb dX3_setOpen_0 rfl (lv_at hl 1 rfl) ?_
  refine k_Sv (w0 := []) (w1 := []) (As := [.int (nI r9)]) hF (c_X3_checkRow l g r9 (by omega)) (va_cwS 1 hts gX3_setOpen_X3_checkRow rfl rfl rfl (by decide +kernel) ⟨Nat.le_of_ble_eq_true rfl, Nat.le_of_ble_eq_true rfl⟩) hE hP hD hS hA (List.Perm.refl _) (List.Perm.refl _) rfl hl.1 rfl (Nat.le_of_ble_eq_true rfl) dX3_setOpen_1 ⟨Nat.le_of_ble_eq_true rfl, Nat.le_of_ble_eq_true rfl⟩ (fun H locs hP hD hS => ?_)
  have hP : va_P g.1 vwCl ((wU u (ah 0) (a0 0) (at9 0)) ++ ((wH g ah h) ++ ((wT g at9 (sg, (nI n))) ++ ((wK0 g a0 ak ((nI od), (nI sz))) ++ (wHs g ak hs 6))))) _ := hP
  have hD : va_D A ((wU u (ah 0) (a0 0) (at9 0)) ++ ((wH g ah h) ++ ((wT g at9 (sg, (nI n))) ++ ((wK0 g a0 ak ((nI od), (nI sz))) ++ (wHs g ak hs 6))))) := hD
  refine lv_aload_n hx hb dX3_setOpen_4 rfl (lv_at hl 0 rfl) ?_
  refine va_get (D := g.1) (ci := 3) (v := .ref (a0 0)) (C := RX3) (T := TX3) (N := 3) hx hb hts hiX3 hown hE.1 hP 0 rfl rfl 1 (by decide) f19 (fun _ h9 => h9) rfl dX3_setOpen_5 ?_
  refine lv_aload_n hx hb dX3_setOpen_8 rfl (lv_at hl 0 rfl) ?_
  refine va_get (D := g.1) (ci := 3) (v := .ref (ah 0)) (C := RX3) (T := TX3) (N := 3) hx hb hts hiX3 hown hE.1 hP 0 rfl rfl 0 (by decide) f12 (fun _ h9 => h9) rfl dX3_setOpen_9 ?_
  refine k_Vv (As := [.ref (ah 0)]) hF (c_X2_keep l g a0 ak ah od sz (by omega) (by omega) hs h hbo) (cwV 1 hts gX3_setOpen_X2_keep rfl rfl rfl (by decide +kernel) ⟨Nat.le_of_ble_eq_true rfl, Nat.le_of_ble_eq_true rfl⟩) hE hP hD hS hA (pm_5_341 _ _ _ _ _) ((pm_5_341 _ _ _ _ _).symm) 7 rfl rfl rfl rfl hl.1 rfl (Nat.le_of_ble_eq_true rfl) dX3_setOpen_12 ⟨Nat.le_of_ble_eq_true rfl, Nat.le_of_ble_eq_true rfl⟩ (fun H locs hP hD hS => ?_)
  have hP : va_P g.1 vwCl ((wU u (ah 0) (a0 0) (at9 0)) ++ ((wH g ah h) ++ ((wT g at9 (sg, (nI n))) ++ ((wK0 g a0 ak ((nI (kOd od sz)), (nI (kSz sz)))) ++ (wHs g ak (va_up hs (kJ od sz) h) 6))))) _ := hP
  have hD : va_D A ((wU u (ah 0) (a0 0) (at9 0)) ++ ((wH g ah h) ++ ((wT g at9 (sg, (nI n))) ++ ((wK0 g a0 ak ((nI (kOd od sz)), (nI (kSz sz)))) ++ (wHs g ak (va_up hs (kJ od sz) h) 6))))) := hD
  rw [kOd5 sz5, kSz5 sz5, kJ5 sz5] at hP hD
  refine lv_aload_n hx hb dX3_setOpen_15 rfl (lv_at hl 0 rfl) ?_
  refine va_get (D := g.1) (ci := 3) (v := .ref (ah 0)) (C := RX3) (T := TX3) (N := 3) hx hb hts hiX3 hown hE.1 hP 0 rfl rfl 0 (by decide) f12 (fun _ h9 => h9) rfl dX3_setOpen_16 ?_
  refine lv_iload_n hx hb dX3_setOpen_19 rfl (lv_at hl 1 rfl) ?_
  refine k_Vi (As := [.int (nI r9)]) (r := (bI (Hopen h r9))) hF (c_X1_isRowOpen l g ah h r9 (by omega)) (cwV 1 hts gX3_setOpen_X1_isRowOpen rfl rfl rfl (by decide +kernel) ⟨Nat.le_of_ble_eq_true rfl, Nat.le_of_ble_eq_true rfl⟩) hE hP hD hS hA (pm_5_1 _ _ _ _ _) ((pm_5_1 _ _ _ _ _).symm) 1 rfl rfl rfl rfl hl.1 rfl (Nat.le_of_ble_eq_true rfl) dX3_setOpen_20 ⟨Nat.le_of_ble_eq_true rfl, Nat.le_of_ble_eq_true rfl⟩ (fun H locs hP hD hS => ?_)
  have hP : va_P g.1 vwCl ((wU u (ah 0) (a0 0) (at9 0)) ++ ((wH g ah h) ++ ((wT g at9 (sg, (nI n))) ++ ((wK0 g a0 ak ((nI od), (nI (sz + 1)))) ++ (wHs g ak (va_up hs ((od + sz) % 6) h) 6))))) _ := hP
  have hD : va_D A ((wU u (ah 0) (a0 0) (at9 0)) ++ ((wH g ah h) ++ ((wT g at9 (sg, (nI n))) ++ ((wK0 g a0 ak ((nI od), (nI (sz + 1)))) ++ (wHs g ak (va_up hs ((od + sz) % 6) h) 6))))) := hD
  refine lv_istore_n (lv' := [(3, .int (bI (Hopen h r9))), (0, .ref u), (1, .int (nI r9)), (2, .int (nI b))]) hx hb dX3_setOpen_23 rfl hl (by decide) rfl (fun ls hl => ?_)
  refine lv_iload_n hx hb dX3_setOpen_24 rfl (lv_at hl 0 rfl) ?_
  refine lv_iload_n hx hb dX3_setOpen_25 rfl (lv_at hl 3 rfl) ?_
  refine lv_icmp_eq (tgt := 37) hx hb dX3_setOpen_26 (by decide) (fun c1 => ?_) (fun c1 => ?_)
  ·
    refine lv_iload_n hx hb dX3_setOpen_37 rfl (lv_at hl 0 rfl) ?_
    have e2 : (Lopen r9 b h) = h := (by first | (simp only [Lopen, if_pos c1, if_neg (not_not_intro c1)]; done) | (simp only [Lopen, if_pos c1, if_neg (not_not_intro c1)]; rfl) | rfl | (simp [Lopen, if_pos c1, if_neg (not_not_intro c1)]; done))
    have e3 : (nI od, nI (sz + 1)) = ((nI od), (nI (sz + 1))) := (by first | (simp only [Lopen, if_pos c1, if_neg (not_not_intro c1)]; done) | (simp only [Lopen, if_pos c1, if_neg (not_not_intro c1)]; rfl) | rfl | (simp [Lopen, if_pos c1, if_neg (not_not_intro c1)]; done))
    have hP : va_P g.1 vwCl ((wU u (ah 0) (a0 0) (at9 0)) ++ ((wH g ah (Lopen r9 b h)) ++ ((wT g at9 (sg, (nI n))) ++ ((wK0 g a0 ak (nI od, nI (sz + 1))) ++ (wHs g ak (va_up hs ((od + sz) % 6) h) 6))))) H := by rw [e2, e3]; exact hP
    have hD : va_D A ((wU u (ah 0) (a0 0) (at9 0)) ++ ((wH g ah (Lopen r9 b h)) ++ ((wT g at9 (sg, (nI n))) ++ ((wK0 g a0 ak (nI od, nI (sz + 1))) ++ (wHs g ak (va_up hs ((od + sz) % 6) h) 6))))) := by rw [e2, e3]; exact hD
    exact k_iret hx hb hr hlocks bI_nar rfl hP hD hS (Nat.le_of_ble_eq_true rfl) (Nat.le_of_ble_eq_true rfl) dX3_setOpen_38
  ·
    refine lv_aload_n hx hb dX3_setOpen_29 rfl (lv_at hl 1 rfl) ?_
    refine va_get (D := g.1) (ci := 3) (v := .ref (ah 0)) (C := RX3) (T := TX3) (N := 3) hx hb hts hiX3 hown hE.1 hP 0 rfl rfl 0 (by decide) f12 (fun _ h9 => h9) rfl dX3_setOpen_30 ?_
    refine lv_iload_n hx hb dX3_setOpen_33 rfl (lv_at hl 2 rfl) ?_
    refine k_Vv (As := [.int (nI r9)]) hF (c_X1_turnRow l g ah h r9 (by omega)) (cwV 1 hts gX3_setOpen_X1_turnRow rfl rfl rfl (by decide +kernel) ⟨Nat.le_of_ble_eq_true rfl, Nat.le_of_ble_eq_true rfl⟩) hE hP hD hS hA (pm_5_1 _ _ _ _ _) ((pm_5_1 _ _ _ _ _).symm) 1 rfl rfl rfl rfl hl.1 rfl (Nat.le_of_ble_eq_true rfl) dX3_setOpen_34 ⟨Nat.le_of_ble_eq_true rfl, Nat.le_of_ble_eq_true rfl⟩ (fun H locs hP hD hS => ?_)
    have hP : va_P g.1 vwCl ((wU u (ah 0) (a0 0) (at9 0)) ++ ((wH g ah (Hturn r9 h)) ++ ((wT g at9 (sg, (nI n))) ++ ((wK0 g a0 ak ((nI od), (nI (sz + 1)))) ++ (wHs g ak (va_up hs ((od + sz) % 6) h) 6))))) _ := hP
    have hD : va_D A ((wU u (ah 0) (a0 0) (at9 0)) ++ ((wH g ah (Hturn r9 h)) ++ ((wT g at9 (sg, (nI n))) ++ ((wK0 g a0 ak ((nI od), (nI (sz + 1)))) ++ (wHs g ak (va_up hs ((od + sz) % 6) h) 6))))) := hD
    obtain ⟨z4, ez4⟩ : ∃ x : HSt, (Hturn r9 h) = x := ⟨_, rfl⟩
    rw [ez4] at hP hD
    refine lv_iload_n hx hb dX3_setOpen_37 rfl (lv_at hl 0 rfl) ?_
    have e5 : (Lopen r9 b h) = z4 := (by subst ez4; first | (simp only [Lopen, if_neg c1, if_pos c1]; done) | (simp only [Lopen, if_neg c1, if_pos c1]; rfl) | rfl | (simp [Lopen, if_neg c1, if_pos c1]; done))
    have e6 : (nI od, nI (sz + 1)) = ((nI od), (nI (sz + 1))) := (by subst ez4; first | (simp only [Lopen, if_neg c1, if_pos c1]; done) | (simp only [Lopen, if_neg c1, if_pos c1]; rfl) | rfl | (simp [Lopen, if_neg c1, if_pos c1]; done))
    have hP : va_P g.1 vwCl ((wU u (ah 0) (a0 0) (at9 0)) ++ ((wH g ah (Lopen r9 b h)) ++ ((wT g at9 (sg, (nI n))) ++ ((wK0 g a0 ak (nI od, nI (sz + 1))) ++ (wHs g ak (va_up hs ((od + sz) % 6) h) 6))))) H := by rw [e5, e6]; exact hP
    have hD : va_D A ((wU u (ah 0) (a0 0) (at9 0)) ++ ((wH g ah (Lopen r9 b h)) ++ ((wT g at9 (sg, (nI n))) ++ ((wK0 g a0 ak (nI od, nI (sz + 1))) ++ (wHs g ak (va_up hs ((od + sz) % 6) h) 6))))) := by rw [e5, e6]; exact hD
    exact k_iret hx hb hr hlocks bI_nar (by subst ez4; first | (simp only [Lopen, bI, if_neg c1, if_pos c1]; done) | (simp only [Lopen, bI, if_neg c1, if_pos c1]; rfl) | rfl | (simp [Lopen, bI, if_neg c1, if_pos c1]; done)) hP hD hS (Nat.le_of_ble_eq_true rfl) (Nat.le_of_ble_eq_true rfl) dX3_setOpen_38
set_option maxHeartbeats 4000000 in
set_option maxRecDepth 100000 in
theorem c_X3_isOpen (l : Launch) (g : kG) (u : Nat) (ah at9 a0 : Nat → Nat) (ak : Nat → Nat → Nat) (h : HSt) (sg : Nat → Int32) (n od sz : Nat) (hs : Nat → HSt) (r9 : Nat) (hr9 : r9 < 8) : KI l yX3_isOpen wsX3_isOpen ({ frames := 2, cells := 0, slots := 0, locals := 40 }) g [.ref u, .int (nI r9)] ((wU u (ah 0) (a0 0) (at9 0)) ++ ((wH g ah h) ++ ((wT g at9 (sg, (nI n))) ++ ((wK0 g a0 ak ((nI od), (nI sz))) ++ (wHs g ak hs 6))))) (bI (Hopen h r9)) ((wU u (ah 0) (a0 0) (at9 0)) ++ ((wH g ah h) ++ ((wT g at9 (sg, (nI n))) ++ ((wK0 g a0 ak ((nI od), (nI sz))) ++ (wHs g ak hs 6))))) 0 0 := by
  refine k_begin (cc := cX3_isOpen) (maxL := 2) (ret := (some .boolean)) (Qc := fun A => kQi g (bI (Hopen h r9)) ((wU u (ah 0) (a0 0) (at9 0)) ++ ((wH g ah h) ++ ((wT g at9 (sg, (nI n))) ++ ((wK0 g a0 ak ((nI od), (nI sz))) ++ (wHs g ak hs 6))))) A) (by decide) rfl (Nat.le_of_ble_eq_true rfl) ?_
  intro p e s m below meth c A ls hF hr hlocks hin hE hP hD hS hA hl
  obtain ⟨hx, hb, hml, hown, hts⟩ := id hF
  have hown : s.vm.findClass RX3 = some m.cls := hown
  have hl : lv_has ls 2 [(0, .ref u), (1, .int (nI r9))] := hl
  have hiX3 : ∀ w ∈ wsX30, w ∈ wsX3_isOpen := fun _ h => List.mem_cons_of_mem _ (List.mem_append_left _ (List.mem_append_left _ (List.mem_append_right _ (h))))
  have f12 : (Cond.fieldLink RX3 12 "ConcertUsher" "hall" "LConcertUsher$Hall;").before _ s = true := hts _ (List.mem_of_getElem? (i := 1) rfl)
  refine lv_iload_n hx hb dX3_isOpen_0 rfl (lv_at hl 1 rfl) ?_
  refine k_Sv (w0 := []) (w1 := []) (As := [.int (nI r9)]) hF (c_X3_checkRow l g r9 (by omega)) (va_cwS 1 hts gX3_isOpen_X3_checkRow rfl rfl rfl (by decide +kernel) ⟨Nat.le_of_ble_eq_true rfl, Nat.le_of_ble_eq_true rfl⟩) hE hP hD hS hA (List.Perm.refl _) (List.Perm.refl _) rfl hl.1 rfl (Nat.le_of_ble_eq_true rfl) dX3_isOpen_1 ⟨Nat.le_of_ble_eq_true rfl, Nat.le_of_ble_eq_true rfl⟩ (fun H locs hP hD hS => ?_)
  have hP : va_P g.1 vwCl ((wU u (ah 0) (a0 0) (at9 0)) ++ ((wH g ah h) ++ ((wT g at9 (sg, (nI n))) ++ ((wK0 g a0 ak ((nI od), (nI sz))) ++ (wHs g ak hs 6))))) _ := hP
  have hD : va_D A ((wU u (ah 0) (a0 0) (at9 0)) ++ ((wH g ah h) ++ ((wT g at9 (sg, (nI n))) ++ ((wK0 g a0 ak ((nI od), (nI sz))) ++ (wHs g ak hs 6))))) := hD
  refine lv_aload_n hx hb dX3_isOpen_4 rfl (lv_at hl 0 rfl) ?_
  refine va_get (D := g.1) (ci := 3) (v := .ref (ah 0)) (C := RX3) (T := TX3) (N := 3) hx hb hts hiX3 hown hE.1 hP 0 rfl rfl 0 (by decide) f12 (fun _ h9 => h9) rfl dX3_isOpen_5 ?_
  refine lv_iload_n hx hb dX3_isOpen_8 rfl (lv_at hl 1 rfl) ?_
  refine k_Vi (As := [.int (nI r9)]) (r := (bI (Hopen h r9))) hF (c_X1_isRowOpen l g ah h r9 (by omega)) (cwV 1 hts gX3_isOpen_X1_isRowOpen rfl rfl rfl (by decide +kernel) ⟨Nat.le_of_ble_eq_true rfl, Nat.le_of_ble_eq_true rfl⟩) hE hP hD hS hA (pm_5_1 _ _ _ _ _) ((pm_5_1 _ _ _ _ _).symm) 1 rfl rfl rfl rfl hl.1 rfl (Nat.le_of_ble_eq_true rfl) dX3_isOpen_9 ⟨Nat.le_of_ble_eq_true rfl, Nat.le_of_ble_eq_true rfl⟩ (fun H locs hP hD hS => ?_)
  have hP : va_P g.1 vwCl ((wU u (ah 0) (a0 0) (at9 0)) ++ ((wH g ah h) ++ ((wT g at9 (sg, (nI n))) ++ ((wK0 g a0 ak ((nI od), (nI sz))) ++ (wHs g ak hs 6))))) _ := hP
  have hD : va_D A ((wU u (ah 0) (a0 0) (at9 0)) ++ ((wH g ah h) ++ ((wT g at9 (sg, (nI n))) ++ ((wK0 g a0 ak ((nI od), (nI sz))) ++ (wHs g ak hs 6))))) := hD
  have hP : va_P g.1 vwCl ((wU u (ah 0) (a0 0) (at9 0)) ++ ((wH g ah h) ++ ((wT g at9 (sg, (nI n))) ++ ((wK0 g a0 ak ((nI od), (nI sz))) ++ (wHs g ak hs 6))))) _ := hP
  have hD : va_D A ((wU u (ah 0) (a0 0) (at9 0)) ++ ((wH g ah h) ++ ((wT g at9 (sg, (nI n))) ++ ((wK0 g a0 ak ((nI od), (nI sz))) ++ (wHs g ak hs 6))))) := hD
  exact k_iret hx hb hr hlocks bI_nar rfl hP hD hS (Nat.le_of_ble_eq_true rfl) (Nat.le_of_ble_eq_true rfl) dX3_isOpen_12
set_option maxHeartbeats 4000000 in
set_option maxRecDepth 100000 in
theorem c_X3_setQuick (l : Launch) (g : kG) (u : Nat) (ah at9 a0 : Nat → Nat) (ak : Nat → Nat → Nat) (h : HSt) (sg : Nat → Int32) (n od sz : Nat) (hs : Nat → HSt) (hod : od < 6) (sz5 : sz ≤ 5) (hbo : Hbo h) (b : Nat) (hb2 : b < 2) : KI l yX3_setQuick wsX3_setQuick ({ frames := 3, cells := 0, slots := 0, locals := 102 }) g [.ref u, .int (nI b)] ((wU u (ah 0) (a0 0) (at9 0)) ++ ((wH g ah h) ++ ((wT g at9 (sg, (nI n))) ++ ((wK0 g a0 ak ((nI od), (nI sz))) ++ (wHs g ak hs 6))))) (hqk h) ((wU u (ah 0) (a0 0) (at9 0)) ++ ((wH g ah (sHqk h (nI b))) ++ ((wT g at9 (sg, (nI n))) ++ ((wK0 g a0 ak (nI od, nI (sz + 1))) ++ (wHs g ak (va_up hs ((od + sz) % 6) h) 6))))) 0 0 := by
  refine k_begin (cc := cX3_setQuick) (maxL := 3) (ret := (some .boolean)) (Qc := fun A => kQi g (hqk h) ((wU u (ah 0) (a0 0) (at9 0)) ++ ((wH g ah (sHqk h (nI b))) ++ ((wT g at9 (sg, (nI n))) ++ ((wK0 g a0 ak (nI od, nI (sz + 1))) ++ (wHs g ak (va_up hs ((od + sz) % 6) h) 6))))) A) (by decide) rfl (Nat.le_of_ble_eq_true rfl) ?_
  intro p e s m below meth c A ls hF hr hlocks hin hE hP hD hS hA hl
  obtain ⟨hx, hb, hml, hown, hts⟩ := id hF
  have hown : s.vm.findClass RX3 = some m.cls := hown
  have hl : lv_has ls 3 [(0, .ref u), (1, .int (nI b))] := hl
  have hiX3 : ∀ w ∈ wsX30, w ∈ wsX3_setQuick := fun _ h => List.mem_cons_of_mem _ (List.mem_append_left _ (List.mem_append_left _ (List.mem_append_right _ (h))))
  have hiX1 : ∀ w ∈ wsX10, w ∈ wsX3_setQuick := fun _ h => List.mem_cons_of_mem _ (List.mem_append_left _ (List.mem_append_right _ (h)))
  have f19 : (Cond.fieldLink RX3 19 "ConcertUsher" "history" "LConcertUsher$History;").before _ s = true := hts _ (List.mem_of_getElem? (i := 1) rfl)
  have f12 : (Cond.fieldLink RX3 12 "ConcertUsher" "hall" "LConcertUsher$Hall;").before _ s = true := hts _ (List.mem_of_getElem? (i := 2) rfl)
  have f78 : (Cond.fieldLink RX3 78 "ConcertUsher$Hall" "isQuick" "Z").before _ s = true := hts _ (List.mem_of_getElem? (i := 3) rfl)
  refine lv_aload_n hx hb dX3_setQuick_0 rfl (lv_at hl 0 rfl) ?_
  refine va_get (D := g.1) (ci := 3) (v := .ref (a0 0)) (C := RX3) (T := TX3) (N := 3) hx hb hts hiX3 hown hE.1 hP 0 rfl rfl 1 (by decide) f19 (fun _ h9 => h9) rfl dX3_setQuick_1 ?_
  refine lv_aload_n hx hb dX3_setQuick_4 rfl (lv_at hl 0 rfl) ?_
  refine va_get (D := g.1) (ci := 3) (v := .ref (ah 0)) (C := RX3) (T := TX3) (N := 3) hx hb hts hiX3 hown hE.1 hP 0 rfl rfl 0 (by decide) f12 (fun _ h9 => h9) rfl dX3_setQuick_5 ?_
  refine k_Vv (As := [.ref (ah 0)]) hF (c_X2_keep l g a0 ak ah od sz (by omega) (by omega) hs h hbo) (cwV 1 hts gX3_setQuick_X2_keep rfl rfl rfl (by decide +kernel) ⟨Nat.le_of_ble_eq_true rfl, Nat.le_of_ble_eq_true rfl⟩) hE hP hD hS hA (pm_5_341 _ _ _ _ _) ((pm_5_341 _ _ _ _ _).symm) 7 rfl rfl rfl rfl hl.1 rfl (Nat.le_of_ble_eq_true rfl) dX3_setQuick_8 ⟨Nat.le_of_ble_eq_true rfl, Nat.le_of_ble_eq_true rfl⟩ (fun H locs hP hD hS => ?_)
  have hP : va_P g.1 vwCl ((wU u (ah 0) (a0 0) (at9 0)) ++ ((wH g ah h) ++ ((wT g at9 (sg, (nI n))) ++ ((wK0 g a0 ak ((nI (kOd od sz)), (nI (kSz sz)))) ++ (wHs g ak (va_up hs (kJ od sz) h) 6))))) _ := hP
  have hD : va_D A ((wU u (ah 0) (a0 0) (at9 0)) ++ ((wH g ah h) ++ ((wT g at9 (sg, (nI n))) ++ ((wK0 g a0 ak ((nI (kOd od sz)), (nI (kSz sz)))) ++ (wHs g ak (va_up hs (kJ od sz) h) 6))))) := hD
  rw [kOd5 sz5, kSz5 sz5, kJ5 sz5] at hP hD
  refine lv_aload_n hx hb dX3_setQuick_11 rfl (lv_at hl 0 rfl) ?_
  refine va_get (D := g.1) (ci := 3) (v := .ref (ah 0)) (C := RX3) (T := TX3) (N := 3) hx hb hts hiX3 hown hE.1 hP 0 rfl rfl 0 (by decide) f12 (fun _ h9 => h9) rfl dX3_setQuick_12 ?_
  refine va_get (D := g.1) (ci := 1) (v := .int (hqk h)) (C := RX1) (T := TX1) (N := 12) hx hb hts hiX1 hown hE.1 hP 1 rfl rfl 4 (by decide) f78 (fun _ h9 => h9) rfl dX3_setQuick_15 ?_
  refine lv_istore_n (lv' := [(2, .int (hqk h)), (0, .ref u), (1, .int (nI b))]) hx hb dX3_setQuick_18 rfl hl (by decide) rfl (fun ls hl => ?_)
  refine lv_aload_n hx hb dX3_setQuick_19 rfl (lv_at hl 1 rfl) ?_
  refine va_get (D := g.1) (ci := 3) (v := .ref (ah 0)) (C := RX3) (T := TX3) (N := 3) hx hb hts hiX3 hown hE.1 hP 0 rfl rfl 0 (by decide) f12 (fun _ h9 => h9) rfl dX3_setQuick_20 ?_
  refine lv_iload_n hx hb dX3_setQuick_23 rfl (lv_at hl 2 rfl) ?_
  refine va_put (D := g.1) (ci := 1) (v := .int (nI b)) (ty := .boolean) (C := RX1) (T := TX1) (N := 12) hx hb hts hiX1 tyX1 tyX1_ok nmX1 hown hE.1 hP hD hS 1 rfl rfl 4 (by decide) f78 (fun _ h9 => h9) rfl (tyX1_ok 4 (by decide)) (bo_nar (k_b2 hb2)) (bo_fits (k_b2 hb2)) (Nat.le_of_ble_eq_true rfl) dX3_setQuick_24 (fun H locs hP hD hS => ?_)
  have hP : va_P g.1 vwCl ((wU u (ah 0) (a0 0) (at9 0)) ++ ((wH g ah (sHqk h (nI b))) ++ ((wT g at9 (sg, (nI n))) ++ ((wK0 g a0 ak ((nI od), (nI (sz + 1)))) ++ (wHs g ak (va_up hs ((od + sz) % 6) h) 6))))) _ := hP
  have hD : va_D A ((wU u (ah 0) (a0 0) (at9 0)) ++ ((wH g ah (sHqk h (nI b))) ++ ((wT g at9 (sg, (nI n))) ++ ((wK0 g a0 ak ((nI od), (nI (sz + 1)))) ++ (wHs g ak (va_up hs ((od + sz) % 6) h) 6))))) := hD
  refine lv_iload_n hx hb dX3_setQuick_27 rfl (lv_at hl 0 rfl) ?_
  have hP : va_P g.1 vwCl ((wU u (ah 0) (a0 0) (at9 0)) ++ ((wH g ah (sHqk h (nI b))) ++ ((wT g at9 (sg, (nI n))) ++ ((wK0 g a0 ak (nI od, nI (sz + 1))) ++ (wHs g ak (va_up hs ((od + sz) % 6) h) 6))))) _ := hP
  have hD : va_D A ((wU u (ah 0) (a0 0) (at9 0)) ++ ((wH g ah (sHqk h (nI b))) ++ ((wT g at9 (sg, (nI n))) ++ ((wK0 g a0 ak (nI od, nI (sz + 1))) ++ (wHs g ak (va_up hs ((od + sz) % 6) h) 6))))) := hD
  exact k_iret hx hb hr hlocks (bo_nar hbo.1) rfl hP hD hS (Nat.le_of_ble_eq_true rfl) (Nat.le_of_ble_eq_true rfl) dX3_setQuick_28
set_option maxHeartbeats 4000000 in
set_option maxRecDepth 100000 in
theorem c_X3_setTimes (l : Launch) (g : kG) (u : Nat) (ah at9 a0 : Nat → Nat) (ak : Nat → Nat → Nat) (h : HSt) (sg : Nat → Int32) (n od sz : Nat) (hs : Nat → HSt) (hod : od < 6) (sz5 : sz ≤ 5) (hbo : Hbo h) (t1 t2 t3 : Nat) (g1 : 2 ≤ t1 ∧ t1 ≤ 60) (g2 : 1 ≤ t2 ∧ t2 ≤ 10) (g3 : 1 ≤ t3 ∧ t3 ≤ 30) : KI l yX3_setTimes wsX3_setTimes ({ frames := 3, cells := 0, slots := 0, locals := 102 }) g [.ref u, .int (nI t1), .int (nI t2), .int (nI t3)] ((wU u (ah 0) (a0 0) (at9 0)) ++ ((wH g ah h) ++ ((wT g at9 (sg, (nI n))) ++ ((wK0 g a0 ak ((nI od), (nI sz))) ++ (wHs g ak hs 6))))) (hfd h) ((wU u (ah 0) (a0 0) (at9 0)) ++ ((wH g ah (Ltimes t1 t2 t3 h)) ++ ((wT g at9 (sg, (nI n))) ++ ((wK0 g a0 ak (nI od, nI (sz + 1))) ++ (wHs g ak (va_up hs ((od + sz) % 6) h) 6))))) 0 0 := by
  refine k_begin (cc := cX3_setTimes) (maxL := 5) (ret := (some .int)) (Qc := fun A => kQi g (hfd h) ((wU u (ah 0) (a0 0) (at9 0)) ++ ((wH g ah (Ltimes t1 t2 t3 h)) ++ ((wT g at9 (sg, (nI n))) ++ ((wK0 g a0 ak (nI od, nI (sz + 1))) ++ (wHs g ak (va_up hs ((od + sz) % 6) h) 6))))) A) (by decide) rfl (Nat.le_of_ble_eq_true rfl) ?_
  intro p e s m below meth c A ls hF hr hlocks hin hE hP hD hS hA hl
  obtain ⟨hx, hb, hml, hown, hts⟩ := id hF
  have hown : s.vm.findClass RX3 = some m.cls := hown
  have hl : lv_has ls 5 [(0, .ref u), (1, .int (nI t1)), (2, .int (nI t2)), (3, .int (nI t3))] := hl
  have hiX3 : ∀ w ∈ wsX30, w ∈ wsX3_setTimes := fun _ h => List.mem_cons_of_mem _ (List.mem_append_left _ (List.mem_append_left _ (List.mem_append_left _ (List.mem_append_right _ (h)))))
  have hiX1 : ∀ w ∈ wsX10, w ∈ wsX3_setTimes := fun _ h => List.mem_cons_of_mem _ (List.mem_append_left _ (List.mem_append_left _ (List.mem_append_right _ (h))))
  have f19 : (Cond.fieldLink RX3 19 "ConcertUsher" "history" "LConcertUsher$History;").before _ s = true := hts _ (List.mem_of_getElem? (i := 3) rfl)
  have f12 : (Cond.fieldLink RX3 12 "ConcertUsher" "hall" "LConcertUsher$Hall;").before _ s = true := hts _ (List.mem_of_getElem? (i := 4) rfl)
  have f91 : (Cond.fieldLink RX3 91 "ConcertUsher$Hall" "fading" "I").before _ s = true := hts _ (List.mem_of_getElem? (i := 5) rfl)
  have f95 : (Cond.fieldLink RX3 95 "ConcertUsher$Hall" "patience" "I").before _ s = true := hts _ (List.mem_of_getElem? (i := 6) rfl)
  have f98 : (Cond.fieldLink RX3 98 "ConcertUsher$Hall" "asking" "I").before _ s = true := hts _ (List.mem_of_getElem? (i := 7) rfl)
  refine lv_iload_n hx hb dX3_setTimes_0 rfl (lv_at hl 1 rfl) ?_
  refine lv_iconst (v := (nI 2)) hx hb dX3_setTimes_1 (by decide) ?_
  refine k_ltN (tgt := 11) hx hb (by omega) (by decide) dX3_setTimes_2 (by decide) (fun c1 => ?_) (fun c1 => ?_)
  ·
    exact absurd c1 (by omega)
  ·
    refine lv_iload_n hx hb dX3_setTimes_5 rfl (lv_at hl 1 rfl) ?_
    refine lv_bipush (v := (nI 60)) hx hb dX3_setTimes_6 (by decide) ?_
    refine k_leN (tgt := 21) hx hb (by omega) (by decide) dX3_setTimes_8 (by decide) (fun c2 => ?_) (fun c2 => ?_)
    ·
      refine lv_iload_n hx hb dX3_setTimes_21 rfl (lv_at hl 2 rfl) ?_
      refine lv_iconst (v := (nI 1)) hx hb dX3_setTimes_22 (by decide) ?_
      refine k_ltN (tgt := 32) hx hb (by omega) (by decide) dX3_setTimes_23 (by decide) (fun c3 => ?_) (fun c3 => ?_)
      ·
        exact absurd c3 (by omega)
      ·
        refine lv_iload_n hx hb dX3_setTimes_26 rfl (lv_at hl 2 rfl) ?_
        refine lv_bipush (v := (nI 10)) hx hb dX3_setTimes_27 (by decide) ?_
        refine k_leN (tgt := 42) hx hb (by omega) (by decide) dX3_setTimes_29 (by decide) (fun c4 => ?_) (fun c4 => ?_)
        ·
          refine lv_iload_n hx hb dX3_setTimes_42 rfl (lv_at hl 3 rfl) ?_
          refine lv_iconst (v := (nI 1)) hx hb dX3_setTimes_43 (by decide) ?_
          refine k_ltN (tgt := 53) hx hb (by omega) (by decide) dX3_setTimes_44 (by decide) (fun c5 => ?_) (fun c5 => ?_)
          ·
            exact absurd c5 (by omega)
          ·
            refine lv_iload_n hx hb dX3_setTimes_47 rfl (lv_at hl 3 rfl) ?_
            refine lv_bipush (v := (nI 30)) hx hb dX3_setTimes_48 (by decide) ?_
            refine k_leN (tgt := 63) hx hb (by omega) (by decide) dX3_setTimes_50 (by decide) (fun c6 => ?_) (fun c6 => ?_)
            ·
              refine lv_aload_n hx hb dX3_setTimes_63 rfl (lv_at hl 0 rfl) ?_
              refine va_get (D := g.1) (ci := 3) (v := .ref (a0 0)) (C := RX3) (T := TX3) (N := 3) hx hb hts hiX3 hown hE.1 hP 0 rfl rfl 1 (by decide) f19 (fun _ h9 => h9) rfl dX3_setTimes_64 ?_
              refine lv_aload_n hx hb dX3_setTimes_67 rfl (lv_at hl 0 rfl) ?_
              refine va_get (D := g.1) (ci := 3) (v := .ref (ah 0)) (C := RX3) (T := TX3) (N := 3) hx hb hts hiX3 hown hE.1 hP 0 rfl rfl 0 (by decide) f12 (fun _ h9 => h9) rfl dX3_setTimes_68 ?_
              refine k_Vv (As := [.ref (ah 0)]) hF (c_X2_keep l g a0 ak ah od sz (by omega) (by omega) hs h hbo) (cwV 1 hts gX3_setTimes_X2_keep rfl rfl rfl (by decide +kernel) ⟨Nat.le_of_ble_eq_true rfl, Nat.le_of_ble_eq_true rfl⟩) hE hP hD hS hA (pm_5_341 _ _ _ _ _) ((pm_5_341 _ _ _ _ _).symm) 7 rfl rfl rfl rfl hl.1 rfl (Nat.le_of_ble_eq_true rfl) dX3_setTimes_71 ⟨Nat.le_of_ble_eq_true rfl, Nat.le_of_ble_eq_true rfl⟩ (fun H locs hP hD hS => ?_)
              have hP : va_P g.1 vwCl ((wU u (ah 0) (a0 0) (at9 0)) ++ ((wH g ah h) ++ ((wT g at9 (sg, (nI n))) ++ ((wK0 g a0 ak ((nI (kOd od sz)), (nI (kSz sz)))) ++ (wHs g ak (va_up hs (kJ od sz) h) 6))))) _ := hP
              have hD : va_D A ((wU u (ah 0) (a0 0) (at9 0)) ++ ((wH g ah h) ++ ((wT g at9 (sg, (nI n))) ++ ((wK0 g a0 ak ((nI (kOd od sz)), (nI (kSz sz)))) ++ (wHs g ak (va_up hs (kJ od sz) h) 6))))) := hD
              rw [kOd5 sz5, kSz5 sz5, kJ5 sz5] at hP hD
              refine lv_aload_n hx hb dX3_setTimes_74 rfl (lv_at hl 0 rfl) ?_
              refine va_get (D := g.1) (ci := 3) (v := .ref (ah 0)) (C := RX3) (T := TX3) (N := 3) hx hb hts hiX3 hown hE.1 hP 0 rfl rfl 0 (by decide) f12 (fun _ h9 => h9) rfl dX3_setTimes_75 ?_
              refine va_get (D := g.1) (ci := 1) (v := .int (hfd h)) (C := RX1) (T := TX1) (N := 12) hx hb hts hiX1 hown hE.1 hP 1 rfl rfl 7 (by decide) f91 (fun _ h9 => h9) rfl dX3_setTimes_78 ?_
              refine lv_istore (lv' := [(4, .int (hfd h)), (0, .ref u), (1, .int (nI t1)), (2, .int (nI t2)), (3, .int (nI t3))]) hx hb dX3_setTimes_81 hl (by decide) rfl (fun ls hl => ?_)
              refine lv_aload_n hx hb dX3_setTimes_83 rfl (lv_at hl 1 rfl) ?_
              refine va_get (D := g.1) (ci := 3) (v := .ref (ah 0)) (C := RX3) (T := TX3) (N := 3) hx hb hts hiX3 hown hE.1 hP 0 rfl rfl 0 (by decide) f12 (fun _ h9 => h9) rfl dX3_setTimes_84 ?_
              refine lv_iload_n hx hb dX3_setTimes_87 rfl (lv_at hl 2 rfl) ?_
              refine va_put (D := g.1) (ci := 1) (v := .int (nI t1)) (ty := .int) (C := RX1) (T := TX1) (N := 12) hx hb hts hiX1 tyX1 tyX1_ok nmX1 hown hE.1 hP hD hS 1 rfl rfl 7 (by decide) f91 (fun _ h9 => h9) rfl (tyX1_ok 7 (by decide)) rfl rfl (Nat.le_of_ble_eq_true rfl) dX3_setTimes_88 (fun H locs hP hD hS => ?_)
              have hP : va_P g.1 vwCl ((wU u (ah 0) (a0 0) (at9 0)) ++ ((wH g ah (sHfd h (nI t1))) ++ ((wT g at9 (sg, (nI n))) ++ ((wK0 g a0 ak ((nI od), (nI (sz + 1)))) ++ (wHs g ak (va_up hs ((od + sz) % 6) h) 6))))) _ := hP
              have hD : va_D A ((wU u (ah 0) (a0 0) (at9 0)) ++ ((wH g ah (sHfd h (nI t1))) ++ ((wT g at9 (sg, (nI n))) ++ ((wK0 g a0 ak ((nI od), (nI (sz + 1)))) ++ (wHs g ak (va_up hs ((od + sz) % 6) h) 6))))) := hD
              refine lv_aload_n hx hb dX3_setTimes_91 rfl (lv_at hl 1 rfl) ?_
              refine va_get (D := g.1) (ci := 3) (v := .ref (ah 0)) (C := RX3) (T := TX3) (N := 3) hx hb hts hiX3 hown hE.1 hP 0 rfl rfl 0 (by decide) f12 (fun _ h9 => h9) rfl dX3_setTimes_92 ?_
              refine lv_iload_n hx hb dX3_setTimes_95 rfl (lv_at hl 3 rfl) ?_
              refine va_put (D := g.1) (ci := 1) (v := .int (nI t2)) (ty := .int) (C := RX1) (T := TX1) (N := 12) hx hb hts hiX1 tyX1 tyX1_ok nmX1 hown hE.1 hP hD hS 1 rfl rfl 8 (by decide) f95 (fun _ h9 => h9) rfl (tyX1_ok 8 (by decide)) rfl rfl (Nat.le_of_ble_eq_true rfl) dX3_setTimes_96 (fun H locs hP hD hS => ?_)
              have hP : va_P g.1 vwCl ((wU u (ah 0) (a0 0) (at9 0)) ++ ((wH g ah (sHpt (sHfd h (nI t1)) (nI t2))) ++ ((wT g at9 (sg, (nI n))) ++ ((wK0 g a0 ak ((nI od), (nI (sz + 1)))) ++ (wHs g ak (va_up hs ((od + sz) % 6) h) 6))))) _ := hP
              have hD : va_D A ((wU u (ah 0) (a0 0) (at9 0)) ++ ((wH g ah (sHpt (sHfd h (nI t1)) (nI t2))) ++ ((wT g at9 (sg, (nI n))) ++ ((wK0 g a0 ak ((nI od), (nI (sz + 1)))) ++ (wHs g ak (va_up hs ((od + sz) % 6) h) 6))))) := hD
              refine lv_aload_n hx hb dX3_setTimes_99 rfl (lv_at hl 1 rfl) ?_
              refine va_get (D := g.1) (ci := 3) (v := .ref (ah 0)) (C := RX3) (T := TX3) (N := 3) hx hb hts hiX3 hown hE.1 hP 0 rfl rfl 0 (by decide) f12 (fun _ h9 => h9) rfl dX3_setTimes_100 ?_
              refine lv_iload_n hx hb dX3_setTimes_103 rfl (lv_at hl 4 rfl) ?_
              refine va_put (D := g.1) (ci := 1) (v := .int (nI t3)) (ty := .int) (C := RX1) (T := TX1) (N := 12) hx hb hts hiX1 tyX1 tyX1_ok nmX1 hown hE.1 hP hD hS 1 rfl rfl 9 (by decide) f98 (fun _ h9 => h9) rfl (tyX1_ok 9 (by decide)) rfl rfl (Nat.le_of_ble_eq_true rfl) dX3_setTimes_104 (fun H locs hP hD hS => ?_)
              have hP : va_P g.1 vwCl ((wU u (ah 0) (a0 0) (at9 0)) ++ ((wH g ah (sHas (sHpt (sHfd h (nI t1)) (nI t2)) (nI t3))) ++ ((wT g at9 (sg, (nI n))) ++ ((wK0 g a0 ak ((nI od), (nI (sz + 1)))) ++ (wHs g ak (va_up hs ((od + sz) % 6) h) 6))))) _ := hP
              have hD : va_D A ((wU u (ah 0) (a0 0) (at9 0)) ++ ((wH g ah (sHas (sHpt (sHfd h (nI t1)) (nI t2)) (nI t3))) ++ ((wT g at9 (sg, (nI n))) ++ ((wK0 g a0 ak ((nI od), (nI (sz + 1)))) ++ (wHs g ak (va_up hs ((od + sz) % 6) h) 6))))) := hD
              refine lv_iload hx hb dX3_setTimes_107 (lv_at hl 0 rfl) ?_
              have e7 : (Ltimes t1 t2 t3 h) = (sHas (sHpt (sHfd h (nI t1)) (nI t2)) (nI t3)) := (by first | (simp only [Ltimes, if_neg (Nat.not_lt.mpr c1), if_pos (Nat.not_lt.mpr c1), if_pos c2, if_neg (not_not_intro c2), if_neg (Nat.not_lt.mpr c3), if_pos (Nat.not_lt.mpr c3), if_pos c4, if_neg (not_not_intro c4), if_neg (Nat.not_lt.mpr c5), if_pos (Nat.not_lt.mpr c5), if_pos c6, if_neg (not_not_intro c6)]; done) | (simp only [Ltimes, if_neg (Nat.not_lt.mpr c1), if_pos (Nat.not_lt.mpr c1), if_pos c2, if_neg (not_not_intro c2), if_neg (Nat.not_lt.mpr c3), if_pos (Nat.not_lt.mpr c3), if_pos c4, if_neg (not_not_intro c4), if_neg (Nat.not_lt.mpr c5), if_pos (Nat.not_lt.mpr c5), if_pos c6, if_neg (not_not_intro c6)]; rfl) | rfl | (simp [Ltimes, if_neg (Nat.not_lt.mpr c1), if_pos (Nat.not_lt.mpr c1), if_pos c2, if_neg (not_not_intro c2), if_neg (Nat.not_lt.mpr c3), if_pos (Nat.not_lt.mpr c3), if_pos c4, if_neg (not_not_intro c4), if_neg (Nat.not_lt.mpr c5), if_pos (Nat.not_lt.mpr c5), if_pos c6, if_neg (not_not_intro c6)]; done))
              have e8 : (nI od, nI (sz + 1)) = ((nI od), (nI (sz + 1))) := (by first | (simp only [Ltimes, if_neg (Nat.not_lt.mpr c1), if_pos (Nat.not_lt.mpr c1), if_pos c2, if_neg (not_not_intro c2), if_neg (Nat.not_lt.mpr c3), if_pos (Nat.not_lt.mpr c3), if_pos c4, if_neg (not_not_intro c4), if_neg (Nat.not_lt.mpr c5), if_pos (Nat.not_lt.mpr c5), if_pos c6, if_neg (not_not_intro c6)]; done) | (simp only [Ltimes, if_neg (Nat.not_lt.mpr c1), if_pos (Nat.not_lt.mpr c1), if_pos c2, if_neg (not_not_intro c2), if_neg (Nat.not_lt.mpr c3), if_pos (Nat.not_lt.mpr c3), if_pos c4, if_neg (not_not_intro c4), if_neg (Nat.not_lt.mpr c5), if_pos (Nat.not_lt.mpr c5), if_pos c6, if_neg (not_not_intro c6)]; rfl) | rfl | (simp [Ltimes, if_neg (Nat.not_lt.mpr c1), if_pos (Nat.not_lt.mpr c1), if_pos c2, if_neg (not_not_intro c2), if_neg (Nat.not_lt.mpr c3), if_pos (Nat.not_lt.mpr c3), if_pos c4, if_neg (not_not_intro c4), if_neg (Nat.not_lt.mpr c5), if_pos (Nat.not_lt.mpr c5), if_pos c6, if_neg (not_not_intro c6)]; done))
              have hP : va_P g.1 vwCl ((wU u (ah 0) (a0 0) (at9 0)) ++ ((wH g ah (Ltimes t1 t2 t3 h)) ++ ((wT g at9 (sg, (nI n))) ++ ((wK0 g a0 ak (nI od, nI (sz + 1))) ++ (wHs g ak (va_up hs ((od + sz) % 6) h) 6))))) H := by rw [e7, e8]; exact hP
              have hD : va_D A ((wU u (ah 0) (a0 0) (at9 0)) ++ ((wH g ah (Ltimes t1 t2 t3 h)) ++ ((wT g at9 (sg, (nI n))) ++ ((wK0 g a0 ak (nI od, nI (sz + 1))) ++ (wHs g ak (va_up hs ((od + sz) % 6) h) 6))))) := by rw [e7, e8]; exact hD
              exact k_iret hx hb hr hlocks rfl rfl hP hD hS (Nat.le_of_ble_eq_true rfl) (Nat.le_of_ble_eq_true rfl) dX3_setTimes_109
            ·
              exact absurd c6 (by omega)
        ·
          exact absurd c4 (by omega)
    ·
      exact absurd c2 (by omega)
set_option maxHeartbeats 4000000 in
set_option maxRecDepth 100000 in
theorem c_X3_setPresent (l : Launch) (g : kG) (u : Nat) (ah at9 a0 : Nat → Nat) (ak : Nat → Nat → Nat) (h : HSt) (sg : Nat → Int32) (n od sz : Nat) (hs : Nat → HSt) (hod : od < 6) (sz5 : sz ≤ 5) (hbo : Hbo h) (w9 : Nat) (hw9 : w9 = 1 ∨ w9 = 2) (b : Nat) (hb2 : b < 2) : KI l yX3_setPresent wsX3_setPresent ({ frames := 3, cells := 0, slots := 0, locals := 102 }) g [.ref u, .int (nI w9), .int (nI b)] ((wU u (ah 0) (a0 0) (at9 0)) ++ ((wH g ah h) ++ ((wT g at9 (sg, (nI n))) ++ ((wK0 g a0 ak ((nI od), (nI sz))) ++ (wHs g ak hs 6))))) (Hchief (Lpres w9 b h)) ((wU u (ah 0) (a0 0) (at9 0)) ++ ((wH g ah (Lpres w9 b h)) ++ ((wT g at9 (sg, (nI n))) ++ ((wK0 g a0 ak (nI od, nI (sz + 1))) ++ (wHs g ak (va_up hs ((od + sz) % 6) h) 6))))) 0 0 := by
  refine k_begin (cc := cX3_setPresent) (maxL := 3) (ret := (some .int)) (Qc := fun A => kQi g (Hchief (Lpres w9 b h)) ((wU u (ah 0) (a0 0) (at9 0)) ++ ((wH g ah (Lpres w9 b h)) ++ ((wT g at9 (sg, (nI n))) ++ ((wK0 g a0 ak (nI od, nI (sz + 1))) ++ (wHs g ak (va_up hs ((od + sz) % 6) h) 6))))) A) (by decide) rfl (Nat.le_of_ble_eq_true rfl) ?_
  intro p e s m below meth c A ls hF hr hlocks hin hE hP hD hS hA hl
  obtain ⟨hx, hb, hml, hown, hts⟩ := id hF
  have hown : s.vm.findClass RX3 = some m.cls := hown
  have hl : lv_has ls 3 [(0, .ref u), (1, .int (nI w9)), (2, .int (nI b))] := hl
  have hiX3 : ∀ w ∈ wsX30, w ∈ wsX3_setPresent := fun _ h => List.mem_cons_of_mem _ (List.mem_append_left _ (List.mem_append_left _ (List.mem_append_left _ (List.mem_append_right _ (h)))))
  have hiX1 : ∀ w ∈ wsX10, w ∈ wsX3_setPresent := fun _ h => List.mem_cons_of_mem _ (List.mem_append_left _ (List.mem_append_left _ (List.mem_append_right _ (h))))
  have f19 : (Cond.fieldLink RX3 19 "ConcertUsher" "history" "LConcertUsher$History;").before _ s = true := hts _ (List.mem_of_getElem? (i := 3) rfl)
  have f12 : (Cond.fieldLink RX3 12 "ConcertUsher" "hall" "LConcertUsher$Hall;").before _ s = true := hts _ (List.mem_of_getElem? (i := 4) rfl)
  have f106 : (Cond.fieldLink RX3 106 "ConcertUsher$Hall" "isFirstPresent" "Z").before _ s = true := hts _ (List.mem_of_getElem? (i := 5) rfl)
  have f109 : (Cond.fieldLink RX3 109 "ConcertUsher$Hall" "isSecondPresent" "Z").before _ s = true := hts _ (List.mem_of_getElem? (i := 6) rfl)
  refine lv_iload_n hx hb dX3_setPresent_0 rfl (lv_at hl 1 rfl) ?_
  refine lv_iconst (v := (nI 1)) hx hb dX3_setPresent_1 (by decide) ?_
  refine k_eqN (tgt := 20) hx hb (by omega) (by decide) dX3_setPresent_2 (by decide) (fun c1 => ?_) (fun c1 => ?_)
  ·
    refine lv_aload_n hx hb dX3_setPresent_20 rfl (lv_at hl 0 rfl) ?_
    refine va_get (D := g.1) (ci := 3) (v := .ref (a0 0)) (C := RX3) (T := TX3) (N := 3) hx hb hts hiX3 hown hE.1 hP 0 rfl rfl 1 (by decide) f19 (fun _ h9 => h9) rfl dX3_setPresent_21 ?_
    refine lv_aload_n hx hb dX3_setPresent_24 rfl (lv_at hl 0 rfl) ?_
    refine va_get (D := g.1) (ci := 3) (v := .ref (ah 0)) (C := RX3) (T := TX3) (N := 3) hx hb hts hiX3 hown hE.1 hP 0 rfl rfl 0 (by decide) f12 (fun _ h9 => h9) rfl dX3_setPresent_25 ?_
    refine k_Vv (As := [.ref (ah 0)]) hF (c_X2_keep l g a0 ak ah od sz (by omega) (by omega) hs h hbo) (cwV 1 hts gX3_setPresent_X2_keep rfl rfl rfl (by decide +kernel) ⟨Nat.le_of_ble_eq_true rfl, Nat.le_of_ble_eq_true rfl⟩) hE hP hD hS hA (pm_5_341 _ _ _ _ _) ((pm_5_341 _ _ _ _ _).symm) 7 rfl rfl rfl rfl hl.1 rfl (Nat.le_of_ble_eq_true rfl) dX3_setPresent_28 ⟨Nat.le_of_ble_eq_true rfl, Nat.le_of_ble_eq_true rfl⟩ (fun H locs hP hD hS => ?_)
    have hP : va_P g.1 vwCl ((wU u (ah 0) (a0 0) (at9 0)) ++ ((wH g ah h) ++ ((wT g at9 (sg, (nI n))) ++ ((wK0 g a0 ak ((nI (kOd od sz)), (nI (kSz sz)))) ++ (wHs g ak (va_up hs (kJ od sz) h) 6))))) _ := hP
    have hD : va_D A ((wU u (ah 0) (a0 0) (at9 0)) ++ ((wH g ah h) ++ ((wT g at9 (sg, (nI n))) ++ ((wK0 g a0 ak ((nI (kOd od sz)), (nI (kSz sz)))) ++ (wHs g ak (va_up hs (kJ od sz) h) 6))))) := hD
    rw [kOd5 sz5, kSz5 sz5, kJ5 sz5] at hP hD
    refine lv_iload_n hx hb dX3_setPresent_31 rfl (lv_at hl 1 rfl) ?_
    refine lv_iconst (v := (nI 1)) hx hb dX3_setPresent_32 (by decide) ?_
    refine k_neN (tgt := 47) hx hb (by omega) (by decide) dX3_setPresent_33 (by decide) (fun c2 => ?_) (fun c2 => ?_)
    ·
      exact absurd c1 c2
    ·
      refine lv_aload_n hx hb dX3_setPresent_36 rfl (lv_at hl 0 rfl) ?_
      refine va_get (D := g.1) (ci := 3) (v := .ref (ah 0)) (C := RX3) (T := TX3) (N := 3) hx hb hts hiX3 hown hE.1 hP 0 rfl rfl 0 (by decide) f12 (fun _ h9 => h9) rfl dX3_setPresent_37 ?_
      refine lv_iload_n hx hb dX3_setPresent_40 rfl (lv_at hl 2 rfl) ?_
      refine va_put (D := g.1) (ci := 1) (v := .int (nI b)) (ty := .boolean) (C := RX1) (T := TX1) (N := 12) hx hb hts hiX1 tyX1 tyX1_ok nmX1 hown hE.1 hP hD hS 1 rfl rfl 5 (by decide) f106 (fun _ h9 => h9) rfl (tyX1_ok 5 (by decide)) (bo_nar (k_b2 hb2)) (bo_fits (k_b2 hb2)) (Nat.le_of_ble_eq_true rfl) dX3_setPresent_41 (fun H locs hP hD hS => ?_)
      have hP : va_P g.1 vwCl ((wU u (ah 0) (a0 0) (at9 0)) ++ ((wH g ah (sHf1 h (nI b))) ++ ((wT g at9 (sg, (nI n))) ++ ((wK0 g a0 ak ((nI od), (nI (sz + 1)))) ++ (wHs g ak (va_up hs ((od + sz) % 6) h) 6))))) _ := hP
      have hD : va_D A ((wU u (ah 0) (a0 0) (at9 0)) ++ ((wH g ah (sHf1 h (nI b))) ++ ((wT g at9 (sg, (nI n))) ++ ((wK0 g a0 ak ((nI od), (nI (sz + 1)))) ++ (wHs g ak (va_up hs ((od + sz) % 6) h) 6))))) := hD
      refine lv_goto (tgt := 55) hx hb dX3_setPresent_44 (by decide) ?_
      refine lv_aload_n hx hb dX3_setPresent_55 rfl (lv_at hl 0 rfl) ?_
      refine va_get (D := g.1) (ci := 3) (v := .ref (ah 0)) (C := RX3) (T := TX3) (N := 3) hx hb hts hiX3 hown hE.1 hP 0 rfl rfl 0 (by decide) f12 (fun _ h9 => h9) rfl dX3_setPresent_56 ?_
      refine k_Vi (As := []) (r := (Hchief (sHf1 h (nI b)))) hF (c_X1_chiefAsker l g ah (sHf1 h (nI b))) (cwV 0 hts gX3_setPresent_X1_chiefAsker rfl rfl rfl (by decide +kernel) ⟨Nat.le_of_ble_eq_true rfl, Nat.le_of_ble_eq_true rfl⟩) hE hP hD hS hA (pm_5_1 _ _ _ _ _) ((pm_5_1 _ _ _ _ _).symm) 1 rfl rfl rfl rfl hl.1 rfl (Nat.le_of_ble_eq_true rfl) dX3_setPresent_59 ⟨Nat.le_of_ble_eq_true rfl, Nat.le_of_ble_eq_true rfl⟩ (fun H locs hP hD hS => ?_)
      have hP : va_P g.1 vwCl ((wU u (ah 0) (a0 0) (at9 0)) ++ ((wH g ah (sHf1 h (nI b))) ++ ((wT g at9 (sg, (nI n))) ++ ((wK0 g a0 ak ((nI od), (nI (sz + 1)))) ++ (wHs g ak (va_up hs ((od + sz) % 6) h) 6))))) _ := hP
      have hD : va_D A ((wU u (ah 0) (a0 0) (at9 0)) ++ ((wH g ah (sHf1 h (nI b))) ++ ((wT g at9 (sg, (nI n))) ++ ((wK0 g a0 ak ((nI od), (nI (sz + 1)))) ++ (wHs g ak (va_up hs ((od + sz) % 6) h) 6))))) := hD
      have e3 : (Lpres w9 b h) = (sHf1 h (nI b)) := (by first | (simp only [Lpres, if_pos c1, if_neg (not_not_intro c1), if_pos c2, if_neg (not_not_intro c2)]; done) | (simp only [Lpres, if_pos c1, if_neg (not_not_intro c1), if_pos c2, if_neg (not_not_intro c2)]; rfl) | rfl | (simp [Lpres, if_pos c1, if_neg (not_not_intro c1), if_pos c2, if_neg (not_not_intro c2)]; done))
      have e4 : (nI od, nI (sz + 1)) = ((nI od), (nI (sz + 1))) := (by first | (simp only [Lpres, if_pos c1, if_neg (not_not_intro c1), if_pos c2, if_neg (not_not_intro c2)]; done) | (simp only [Lpres, if_pos c1, if_neg (not_not_intro c1), if_pos c2, if_neg (not_not_intro c2)]; rfl) | rfl | (simp [Lpres, if_pos c1, if_neg (not_not_intro c1), if_pos c2, if_neg (not_not_intro c2)]; done))
      have hP : va_P g.1 vwCl ((wU u (ah 0) (a0 0) (at9 0)) ++ ((wH g ah (Lpres w9 b h)) ++ ((wT g at9 (sg, (nI n))) ++ ((wK0 g a0 ak (nI od, nI (sz + 1))) ++ (wHs g ak (va_up hs ((od + sz) % 6) h) 6))))) H := by rw [e3, e4]; exact hP
      have hD : va_D A ((wU u (ah 0) (a0 0) (at9 0)) ++ ((wH g ah (Lpres w9 b h)) ++ ((wT g at9 (sg, (nI n))) ++ ((wK0 g a0 ak (nI od, nI (sz + 1))) ++ (wHs g ak (va_up hs ((od + sz) % 6) h) 6))))) := by rw [e3, e4]; exact hD
      exact k_iret hx hb hr hlocks rfl (by first | (simp only [Lpres, bI, if_pos c1, if_neg (not_not_intro c1), if_pos c2, if_neg (not_not_intro c2)]; done) | (simp only [Lpres, bI, if_pos c1, if_neg (not_not_intro c1), if_pos c2, if_neg (not_not_intro c2)]; rfl) | rfl | (simp [Lpres, bI, if_pos c1, if_neg (not_not_intro c1), if_pos c2, if_neg (not_not_intro c2)]; done)) hP hD hS (Nat.le_of_ble_eq_true rfl) (Nat.le_of_ble_eq_true rfl) dX3_setPresent_62
  ·
    refine lv_iload_n hx hb dX3_setPresent_5 rfl (lv_at hl 1 rfl) ?_
    refine lv_iconst (v := (nI 2)) hx hb dX3_setPresent_6 (by decide) ?_
    refine k_eqN (tgt := 20) hx hb (by omega) (by decide) dX3_setPresent_7 (by decide) (fun c5 => ?_) (fun c5 => ?_)
    ·
      refine lv_aload_n hx hb dX3_setPresent_20 rfl (lv_at hl 0 rfl) ?_
      refine va_get (D := g.1) (ci := 3) (v := .ref (a0 0)) (C := RX3) (T := TX3) (N := 3) hx hb hts hiX3 hown hE.1 hP 0 rfl rfl 1 (by decide) f19 (fun _ h9 => h9) rfl dX3_setPresent_21 ?_
      refine lv_aload_n hx hb dX3_setPresent_24 rfl (lv_at hl 0 rfl) ?_
      refine va_get (D := g.1) (ci := 3) (v := .ref (ah 0)) (C := RX3) (T := TX3) (N := 3) hx hb hts hiX3 hown hE.1 hP 0 rfl rfl 0 (by decide) f12 (fun _ h9 => h9) rfl dX3_setPresent_25 ?_
      refine k_Vv (As := [.ref (ah 0)]) hF (c_X2_keep l g a0 ak ah od sz (by omega) (by omega) hs h hbo) (cwV 1 hts gX3_setPresent_X2_keep rfl rfl rfl (by decide +kernel) ⟨Nat.le_of_ble_eq_true rfl, Nat.le_of_ble_eq_true rfl⟩) hE hP hD hS hA (pm_5_341 _ _ _ _ _) ((pm_5_341 _ _ _ _ _).symm) 7 rfl rfl rfl rfl hl.1 rfl (Nat.le_of_ble_eq_true rfl) dX3_setPresent_28 ⟨Nat.le_of_ble_eq_true rfl, Nat.le_of_ble_eq_true rfl⟩ (fun H locs hP hD hS => ?_)
      have hP : va_P g.1 vwCl ((wU u (ah 0) (a0 0) (at9 0)) ++ ((wH g ah h) ++ ((wT g at9 (sg, (nI n))) ++ ((wK0 g a0 ak ((nI (kOd od sz)), (nI (kSz sz)))) ++ (wHs g ak (va_up hs (kJ od sz) h) 6))))) _ := hP
      have hD : va_D A ((wU u (ah 0) (a0 0) (at9 0)) ++ ((wH g ah h) ++ ((wT g at9 (sg, (nI n))) ++ ((wK0 g a0 ak ((nI (kOd od sz)), (nI (kSz sz)))) ++ (wHs g ak (va_up hs (kJ od sz) h) 6))))) := hD
      rw [kOd5 sz5, kSz5 sz5, kJ5 sz5] at hP hD
      refine lv_iload_n hx hb dX3_setPresent_31 rfl (lv_at hl 1 rfl) ?_
      refine lv_iconst (v := (nI 1)) hx hb dX3_setPresent_32 (by decide) ?_
      refine k_neN (tgt := 47) hx hb (by omega) (by decide) dX3_setPresent_33 (by decide) (fun c6 => ?_) (fun c6 => ?_)
      ·
        refine lv_aload_n hx hb dX3_setPresent_47 rfl (lv_at hl 0 rfl) ?_
        refine va_get (D := g.1) (ci := 3) (v := .ref (ah 0)) (C := RX3) (T := TX3) (N := 3) hx hb hts hiX3 hown hE.1 hP 0 rfl rfl 0 (by decide) f12 (fun _ h9 => h9) rfl dX3_setPresent_48 ?_
        refine lv_iload_n hx hb dX3_setPresent_51 rfl (lv_at hl 2 rfl) ?_
        refine va_put (D := g.1) (ci := 1) (v := .int (nI b)) (ty := .boolean) (C := RX1) (T := TX1) (N := 12) hx hb hts hiX1 tyX1 tyX1_ok nmX1 hown hE.1 hP hD hS 1 rfl rfl 6 (by decide) f109 (fun _ h9 => h9) rfl (tyX1_ok 6 (by decide)) (bo_nar (k_b2 hb2)) (bo_fits (k_b2 hb2)) (Nat.le_of_ble_eq_true rfl) dX3_setPresent_52 (fun H locs hP hD hS => ?_)
        have hP : va_P g.1 vwCl ((wU u (ah 0) (a0 0) (at9 0)) ++ ((wH g ah (sHf2 h (nI b))) ++ ((wT g at9 (sg, (nI n))) ++ ((wK0 g a0 ak ((nI od), (nI (sz + 1)))) ++ (wHs g ak (va_up hs ((od + sz) % 6) h) 6))))) _ := hP
        have hD : va_D A ((wU u (ah 0) (a0 0) (at9 0)) ++ ((wH g ah (sHf2 h (nI b))) ++ ((wT g at9 (sg, (nI n))) ++ ((wK0 g a0 ak ((nI od), (nI (sz + 1)))) ++ (wHs g ak (va_up hs ((od + sz) % 6) h) 6))))) := hD
        refine lv_aload_n hx hb dX3_setPresent_55 rfl (lv_at hl 0 rfl) ?_
        refine va_get (D := g.1) (ci := 3) (v := .ref (ah 0)) (C := RX3) (T := TX3) (N := 3) hx hb hts hiX3 hown hE.1 hP 0 rfl rfl 0 (by decide) f12 (fun _ h9 => h9) rfl dX3_setPresent_56 ?_
        refine k_Vi (As := []) (r := (Hchief (sHf2 h (nI b)))) hF (c_X1_chiefAsker l g ah (sHf2 h (nI b))) (cwV 0 hts gX3_setPresent_X1_chiefAsker rfl rfl rfl (by decide +kernel) ⟨Nat.le_of_ble_eq_true rfl, Nat.le_of_ble_eq_true rfl⟩) hE hP hD hS hA (pm_5_1 _ _ _ _ _) ((pm_5_1 _ _ _ _ _).symm) 1 rfl rfl rfl rfl hl.1 rfl (Nat.le_of_ble_eq_true rfl) dX3_setPresent_59 ⟨Nat.le_of_ble_eq_true rfl, Nat.le_of_ble_eq_true rfl⟩ (fun H locs hP hD hS => ?_)
        have hP : va_P g.1 vwCl ((wU u (ah 0) (a0 0) (at9 0)) ++ ((wH g ah (sHf2 h (nI b))) ++ ((wT g at9 (sg, (nI n))) ++ ((wK0 g a0 ak ((nI od), (nI (sz + 1)))) ++ (wHs g ak (va_up hs ((od + sz) % 6) h) 6))))) _ := hP
        have hD : va_D A ((wU u (ah 0) (a0 0) (at9 0)) ++ ((wH g ah (sHf2 h (nI b))) ++ ((wT g at9 (sg, (nI n))) ++ ((wK0 g a0 ak ((nI od), (nI (sz + 1)))) ++ (wHs g ak (va_up hs ((od + sz) % 6) h) 6))))) := hD
        have e7 : (Lpres w9 b h) = (sHf2 h (nI b)) := (by first | (simp only [Lpres, if_neg c1, if_pos c1, if_pos c5, if_neg (not_not_intro c5), if_neg c6, if_pos c6]; done) | (simp only [Lpres, if_neg c1, if_pos c1, if_pos c5, if_neg (not_not_intro c5), if_neg c6, if_pos c6]; rfl) | rfl | (simp [Lpres, if_neg c1, if_pos c1, if_pos c5, if_neg (not_not_intro c5), if_neg c6, if_pos c6]; done))
        have e8 : (nI od, nI (sz + 1)) = ((nI od), (nI (sz + 1))) := (by first | (simp only [Lpres, if_neg c1, if_pos c1, if_pos c5, if_neg (not_not_intro c5), if_neg c6, if_pos c6]; done) | (simp only [Lpres, if_neg c1, if_pos c1, if_pos c5, if_neg (not_not_intro c5), if_neg c6, if_pos c6]; rfl) | rfl | (simp [Lpres, if_neg c1, if_pos c1, if_pos c5, if_neg (not_not_intro c5), if_neg c6, if_pos c6]; done))
        have hP : va_P g.1 vwCl ((wU u (ah 0) (a0 0) (at9 0)) ++ ((wH g ah (Lpres w9 b h)) ++ ((wT g at9 (sg, (nI n))) ++ ((wK0 g a0 ak (nI od, nI (sz + 1))) ++ (wHs g ak (va_up hs ((od + sz) % 6) h) 6))))) H := by rw [e7, e8]; exact hP
        have hD : va_D A ((wU u (ah 0) (a0 0) (at9 0)) ++ ((wH g ah (Lpres w9 b h)) ++ ((wT g at9 (sg, (nI n))) ++ ((wK0 g a0 ak (nI od, nI (sz + 1))) ++ (wHs g ak (va_up hs ((od + sz) % 6) h) 6))))) := by rw [e7, e8]; exact hD
        exact k_iret hx hb hr hlocks rfl (by first | (simp only [Lpres, bI, if_neg c1, if_pos c1, if_pos c5, if_neg (not_not_intro c5), if_neg c6, if_pos c6]; done) | (simp only [Lpres, bI, if_neg c1, if_pos c1, if_pos c5, if_neg (not_not_intro c5), if_neg c6, if_pos c6]; rfl) | rfl | (simp [Lpres, bI, if_neg c1, if_pos c1, if_pos c5, if_neg (not_not_intro c5), if_neg c6, if_pos c6]; done)) hP hD hS (Nat.le_of_ble_eq_true rfl) (Nat.le_of_ble_eq_true rfl) dX3_setPresent_62
      ·
        exact absurd c6 (by omega)
    ·
      exact absurd hw9 (by omega)
set_option maxHeartbeats 4000000 in
set_option maxRecDepth 100000 in
theorem c_X3_rows (l : Launch) (g : kG) (u : Nat) (ah at9 a0 : Nat → Nat) (ak : Nat → Nat → Nat) (h : HSt) (sg : Nat → Int32) (n od sz : Nat) (hs : Nat → HSt) (c9 : Nat) (hc9 : c9 < 6) : KI l yX3_rows wsX3_rows ({ frames := 2, cells := 0, slots := 0, locals := 44 }) g [.ref u, .int (nI c9)] ((wU u (ah 0) (a0 0) (at9 0)) ++ ((wH g ah h) ++ ((wT g at9 (sg, (nI n))) ++ ((wK0 g a0 ak ((nI od), (nI sz))) ++ (wHs g ak hs 6))))) (Hget h c9 8) ((wU u (ah 0) (a0 0) (at9 0)) ++ ((wH g ah h) ++ ((wT g at9 (sg, (nI n))) ++ ((wK0 g a0 ak ((nI od), (nI sz))) ++ (wHs g ak hs 6))))) 0 0 := by
  refine k_begin (cc := cX3_rows) (maxL := 2) (ret := (some .int)) (Qc := fun A => kQi g (Hget h c9 8) ((wU u (ah 0) (a0 0) (at9 0)) ++ ((wH g ah h) ++ ((wT g at9 (sg, (nI n))) ++ ((wK0 g a0 ak ((nI od), (nI sz))) ++ (wHs g ak hs 6))))) A) (by decide) rfl (Nat.le_of_ble_eq_true rfl) ?_
  intro p e s m below meth c A ls hF hr hlocks hin hE hP hD hS hA hl
  obtain ⟨hx, hb, hml, hown, hts⟩ := id hF
  have hown : s.vm.findClass RX3 = some m.cls := hown
  have hl : lv_has ls 2 [(0, .ref u), (1, .int (nI c9))] := hl
  have hiX3 : ∀ w ∈ wsX30, w ∈ wsX3_rows := fun _ h => List.mem_cons_of_mem _ (List.mem_append_left _ (List.mem_append_left _ (List.mem_append_right _ (h))))
  have f12 : (Cond.fieldLink RX3 12 "ConcertUsher" "hall" "LConcertUsher$Hall;").before _ s = true := hts _ (List.mem_of_getElem? (i := 1) rfl)
  refine lv_iload_n hx hb dX3_rows_0 rfl (lv_at hl 1 rfl) ?_
  refine k_Sv (w0 := []) (w1 := []) (As := [.int (nI c9)]) hF (c_X3_checkConcert l g c9 (by omega)) (va_cwS 1 hts gX3_rows_X3_checkConcert rfl rfl rfl (by decide +kernel) ⟨Nat.le_of_ble_eq_true rfl, Nat.le_of_ble_eq_true rfl⟩) hE hP hD hS hA (List.Perm.refl _) (List.Perm.refl _) rfl hl.1 rfl (Nat.le_of_ble_eq_true rfl) dX3_rows_1 ⟨Nat.le_of_ble_eq_true rfl, Nat.le_of_ble_eq_true rfl⟩ (fun H locs hP hD hS => ?_)
  have hP : va_P g.1 vwCl ((wU u (ah 0) (a0 0) (at9 0)) ++ ((wH g ah h) ++ ((wT g at9 (sg, (nI n))) ++ ((wK0 g a0 ak ((nI od), (nI sz))) ++ (wHs g ak hs 6))))) _ := hP
  have hD : va_D A ((wU u (ah 0) (a0 0) (at9 0)) ++ ((wH g ah h) ++ ((wT g at9 (sg, (nI n))) ++ ((wK0 g a0 ak ((nI od), (nI sz))) ++ (wHs g ak hs 6))))) := hD
  refine lv_aload_n hx hb dX3_rows_4 rfl (lv_at hl 0 rfl) ?_
  refine va_get (D := g.1) (ci := 3) (v := .ref (ah 0)) (C := RX3) (T := TX3) (N := 3) hx hb hts hiX3 hown hE.1 hP 0 rfl rfl 0 (by decide) f12 (fun _ h9 => h9) rfl dX3_rows_5 ?_
  refine lv_iload_n hx hb dX3_rows_8 rfl (lv_at hl 1 rfl) ?_
  refine k_Vi (As := [.int (nI c9)]) (r := (Hget h c9 8)) hF (c_X1_rowsThatGet l g ah h c9 (by omega)) (cwV 1 hts gX3_rows_X1_rowsThatGet rfl rfl rfl (by decide +kernel) ⟨Nat.le_of_ble_eq_true rfl, Nat.le_of_ble_eq_true rfl⟩) hE hP hD hS hA (pm_5_1 _ _ _ _ _) ((pm_5_1 _ _ _ _ _).symm) 1 rfl rfl rfl rfl hl.1 rfl (Nat.le_of_ble_eq_true rfl) dX3_rows_9 ⟨Nat.le_of_ble_eq_true rfl, Nat.le_of_ble_eq_true rfl⟩ (fun H locs hP hD hS => ?_)
  have hP : va_P g.1 vwCl ((wU u (ah 0) (a0 0) (at9 0)) ++ ((wH g ah h) ++ ((wT g at9 (sg, (nI n))) ++ ((wK0 g a0 ak ((nI od), (nI sz))) ++ (wHs g ak hs 6))))) _ := hP
  have hD : va_D A ((wU u (ah 0) (a0 0) (at9 0)) ++ ((wH g ah h) ++ ((wT g at9 (sg, (nI n))) ++ ((wK0 g a0 ak ((nI od), (nI sz))) ++ (wHs g ak hs 6))))) := hD
  have hP : va_P g.1 vwCl ((wU u (ah 0) (a0 0) (at9 0)) ++ ((wH g ah h) ++ ((wT g at9 (sg, (nI n))) ++ ((wK0 g a0 ak ((nI od), (nI sz))) ++ (wHs g ak hs 6))))) _ := hP
  have hD : va_D A ((wU u (ah 0) (a0 0) (at9 0)) ++ ((wH g ah h) ++ ((wT g at9 (sg, (nI n))) ++ ((wK0 g a0 ak ((nI od), (nI sz))) ++ (wHs g ak hs 6))))) := hD
  exact k_iret hx hb hr hlocks rfl rfl hP hD hS (Nat.le_of_ble_eq_true rfl) (Nat.le_of_ble_eq_true rfl) dX3_rows_12
set_option maxHeartbeats 4000000 in
set_option maxRecDepth 100000 in
theorem c_X3_wanted (l : Launch) (g : kG) (u : Nat) (ah at9 a0 : Nat → Nat) (ak : Nat → Nat → Nat) (h : HSt) (sg : Nat → Int32) (n od sz : Nat) (hs : Nat → HSt) (c9 : Nat) (hc9 : c9 < 6) : KI l yX3_wanted wsX3_wanted ({ frames := 2, cells := 0, slots := 0, locals := 44 }) g [.ref u, .int (nI c9)] ((wU u (ah 0) (a0 0) (at9 0)) ++ ((wH g ah h) ++ ((wT g at9 (sg, (nI n))) ++ ((wK0 g a0 ak ((nI od), (nI sz))) ++ (wHs g ak hs 6))))) (Hwant h c9 8) ((wU u (ah 0) (a0 0) (at9 0)) ++ ((wH g ah h) ++ ((wT g at9 (sg, (nI n))) ++ ((wK0 g a0 ak ((nI od), (nI sz))) ++ (wHs g ak hs 6))))) 0 0 := by
  refine k_begin (cc := cX3_wanted) (maxL := 2) (ret := (some .int)) (Qc := fun A => kQi g (Hwant h c9 8) ((wU u (ah 0) (a0 0) (at9 0)) ++ ((wH g ah h) ++ ((wT g at9 (sg, (nI n))) ++ ((wK0 g a0 ak ((nI od), (nI sz))) ++ (wHs g ak hs 6))))) A) (by decide) rfl (Nat.le_of_ble_eq_true rfl) ?_
  intro p e s m below meth c A ls hF hr hlocks hin hE hP hD hS hA hl
  obtain ⟨hx, hb, hml, hown, hts⟩ := id hF
  have hown : s.vm.findClass RX3 = some m.cls := hown
  have hl : lv_has ls 2 [(0, .ref u), (1, .int (nI c9))] := hl
  have hiX3 : ∀ w ∈ wsX30, w ∈ wsX3_wanted := fun _ h => List.mem_cons_of_mem _ (List.mem_append_left _ (List.mem_append_left _ (List.mem_append_right _ (h))))
  have f12 : (Cond.fieldLink RX3 12 "ConcertUsher" "hall" "LConcertUsher$Hall;").before _ s = true := hts _ (List.mem_of_getElem? (i := 1) rfl)
  refine lv_iload_n hx hb dX3_wanted_0 rfl (lv_at hl 1 rfl) ?_
  refine k_Sv (w0 := []) (w1 := []) (As := [.int (nI c9)]) hF (c_X3_checkConcert l g c9 (by omega)) (va_cwS 1 hts gX3_wanted_X3_checkConcert rfl rfl rfl (by decide +kernel) ⟨Nat.le_of_ble_eq_true rfl, Nat.le_of_ble_eq_true rfl⟩) hE hP hD hS hA (List.Perm.refl _) (List.Perm.refl _) rfl hl.1 rfl (Nat.le_of_ble_eq_true rfl) dX3_wanted_1 ⟨Nat.le_of_ble_eq_true rfl, Nat.le_of_ble_eq_true rfl⟩ (fun H locs hP hD hS => ?_)
  have hP : va_P g.1 vwCl ((wU u (ah 0) (a0 0) (at9 0)) ++ ((wH g ah h) ++ ((wT g at9 (sg, (nI n))) ++ ((wK0 g a0 ak ((nI od), (nI sz))) ++ (wHs g ak hs 6))))) _ := hP
  have hD : va_D A ((wU u (ah 0) (a0 0) (at9 0)) ++ ((wH g ah h) ++ ((wT g at9 (sg, (nI n))) ++ ((wK0 g a0 ak ((nI od), (nI sz))) ++ (wHs g ak hs 6))))) := hD
  refine lv_aload_n hx hb dX3_wanted_4 rfl (lv_at hl 0 rfl) ?_
  refine va_get (D := g.1) (ci := 3) (v := .ref (ah 0)) (C := RX3) (T := TX3) (N := 3) hx hb hts hiX3 hown hE.1 hP 0 rfl rfl 0 (by decide) f12 (fun _ h9 => h9) rfl dX3_wanted_5 ?_
  refine lv_iload_n hx hb dX3_wanted_8 rfl (lv_at hl 1 rfl) ?_
  refine k_Vi (As := [.int (nI c9)]) (r := (Hwant h c9 8)) hF (c_X1_rowsThatWant l g ah h c9 (by omega)) (cwV 1 hts gX3_wanted_X1_rowsThatWant rfl rfl rfl (by decide +kernel) ⟨Nat.le_of_ble_eq_true rfl, Nat.le_of_ble_eq_true rfl⟩) hE hP hD hS hA (pm_5_1 _ _ _ _ _) ((pm_5_1 _ _ _ _ _).symm) 1 rfl rfl rfl rfl hl.1 rfl (Nat.le_of_ble_eq_true rfl) dX3_wanted_9 ⟨Nat.le_of_ble_eq_true rfl, Nat.le_of_ble_eq_true rfl⟩ (fun H locs hP hD hS => ?_)
  have hP : va_P g.1 vwCl ((wU u (ah 0) (a0 0) (at9 0)) ++ ((wH g ah h) ++ ((wT g at9 (sg, (nI n))) ++ ((wK0 g a0 ak ((nI od), (nI sz))) ++ (wHs g ak hs 6))))) _ := hP
  have hD : va_D A ((wU u (ah 0) (a0 0) (at9 0)) ++ ((wH g ah h) ++ ((wT g at9 (sg, (nI n))) ++ ((wK0 g a0 ak ((nI od), (nI sz))) ++ (wHs g ak hs 6))))) := hD
  have hP : va_P g.1 vwCl ((wU u (ah 0) (a0 0) (at9 0)) ++ ((wH g ah h) ++ ((wT g at9 (sg, (nI n))) ++ ((wK0 g a0 ak ((nI od), (nI sz))) ++ (wHs g ak hs 6))))) _ := hP
  have hD : va_D A ((wU u (ah 0) (a0 0) (at9 0)) ++ ((wH g ah h) ++ ((wT g at9 (sg, (nI n))) ++ ((wK0 g a0 ak ((nI od), (nI sz))) ++ (wHs g ak hs 6))))) := hD
  exact k_iret hx hb hr hlocks rfl rfl hP hD hS (Nat.le_of_ble_eq_true rfl) (Nat.le_of_ble_eq_true rfl) dX3_wanted_12
set_option maxHeartbeats 4000000 in
set_option maxRecDepth 100000 in
theorem c_X3_play (l : Launch) (g : kG) (u : Nat) (ah at9 a0 : Nat → Nat) (ak : Nat → Nat → Nat) (h : HSt) (sg : Nat → Int32) (n od sz : Nat) (hs : Nat → HSt) (hod : od < 6) (sz5 : sz ≤ 5) (hbo : Hbo h) (c9 : Nat) (hc9 : c9 < 6) : KI l yX3_play wsX3_play ({ frames := 3, cells := 0, slots := 0, locals := 102 }) g [.ref u, .int (nI c9)] ((wU u (ah 0) (a0 0) (at9 0)) ++ ((wH g ah h) ++ ((wT g at9 (sg, (nI n))) ++ ((wK0 g a0 ak ((nI od), (nI sz))) ++ (wHs g ak hs 6))))) (bc (Hget h c9 8)) ((wU u (ah 0) (a0 0) (at9 0)) ++ ((wH g ah (Hperf c9 h)) ++ ((wT g at9 (sg, (nI n))) ++ ((wK0 g a0 ak (nI od, nI (sz + 1))) ++ (wHs g ak (va_up hs ((od + sz) % 6) h) 6))))) 0 0 := by
  refine k_begin (cc := cX3_play) (maxL := 2) (ret := (some .int)) (Qc := fun A => kQi g (bc (Hget h c9 8)) ((wU u (ah 0) (a0 0) (at9 0)) ++ ((wH g ah (Hperf c9 h)) ++ ((wT g at9 (sg, (nI n))) ++ ((wK0 g a0 ak (nI od, nI (sz + 1))) ++ (wHs g ak (va_up hs ((od + sz) % 6) h) 6))))) A) (by decide) rfl (Nat.le_of_ble_eq_true rfl) ?_
  intro p e s m below meth c A ls hF hr hlocks hin hE hP hD hS hA hl
  obtain ⟨hx, hb, hml, hown, hts⟩ := id hF
  have hown : s.vm.findClass RX3 = some m.cls := hown
  have hl : lv_has ls 2 [(0, .ref u), (1, .int (nI c9))] := hl
  have hiX3 : ∀ w ∈ wsX30, w ∈ wsX3_play := fun _ h => List.mem_cons_of_mem _ (List.mem_append_left _ (List.mem_append_left _ (List.mem_append_left _ (List.mem_append_right _ (h)))))
  have f19 : (Cond.fieldLink RX3 19 "ConcertUsher" "history" "LConcertUsher$History;").before _ s = true := hts _ (List.mem_of_getElem? (i := 1) rfl)
  have f12 : (Cond.fieldLink RX3 12 "ConcertUsher" "hall" "LConcertUsher$Hall;").before _ s = true := hts _ (List.mem_of_getElem? (i := 2) rfl)
  refine lv_iload_n hx hb dX3_play_0 rfl (lv_at hl 1 rfl) ?_
  refine k_Sv (w0 := []) (w1 := []) (As := [.int (nI c9)]) hF (c_X3_checkConcert l g c9 (by omega)) (va_cwS 1 hts gX3_play_X3_checkConcert rfl rfl rfl (by decide +kernel) ⟨Nat.le_of_ble_eq_true rfl, Nat.le_of_ble_eq_true rfl⟩) hE hP hD hS hA (List.Perm.refl _) (List.Perm.refl _) rfl hl.1 rfl (Nat.le_of_ble_eq_true rfl) dX3_play_1 ⟨Nat.le_of_ble_eq_true rfl, Nat.le_of_ble_eq_true rfl⟩ (fun H locs hP hD hS => ?_)
  have hP : va_P g.1 vwCl ((wU u (ah 0) (a0 0) (at9 0)) ++ ((wH g ah h) ++ ((wT g at9 (sg, (nI n))) ++ ((wK0 g a0 ak ((nI od), (nI sz))) ++ (wHs g ak hs 6))))) _ := hP
  have hD : va_D A ((wU u (ah 0) (a0 0) (at9 0)) ++ ((wH g ah h) ++ ((wT g at9 (sg, (nI n))) ++ ((wK0 g a0 ak ((nI od), (nI sz))) ++ (wHs g ak hs 6))))) := hD
  refine lv_aload_n hx hb dX3_play_4 rfl (lv_at hl 0 rfl) ?_
  refine va_get (D := g.1) (ci := 3) (v := .ref (a0 0)) (C := RX3) (T := TX3) (N := 3) hx hb hts hiX3 hown hE.1 hP 0 rfl rfl 1 (by decide) f19 (fun _ h9 => h9) rfl dX3_play_5 ?_
  refine lv_aload_n hx hb dX3_play_8 rfl (lv_at hl 0 rfl) ?_
  refine va_get (D := g.1) (ci := 3) (v := .ref (ah 0)) (C := RX3) (T := TX3) (N := 3) hx hb hts hiX3 hown hE.1 hP 0 rfl rfl 0 (by decide) f12 (fun _ h9 => h9) rfl dX3_play_9 ?_
  refine k_Vv (As := [.ref (ah 0)]) hF (c_X2_keep l g a0 ak ah od sz (by omega) (by omega) hs h hbo) (cwV 1 hts gX3_play_X2_keep rfl rfl rfl (by decide +kernel) ⟨Nat.le_of_ble_eq_true rfl, Nat.le_of_ble_eq_true rfl⟩) hE hP hD hS hA (pm_5_341 _ _ _ _ _) ((pm_5_341 _ _ _ _ _).symm) 7 rfl rfl rfl rfl hl.1 rfl (Nat.le_of_ble_eq_true rfl) dX3_play_12 ⟨Nat.le_of_ble_eq_true rfl, Nat.le_of_ble_eq_true rfl⟩ (fun H locs hP hD hS => ?_)
  have hP : va_P g.1 vwCl ((wU u (ah 0) (a0 0) (at9 0)) ++ ((wH g ah h) ++ ((wT g at9 (sg, (nI n))) ++ ((wK0 g a0 ak ((nI (kOd od sz)), (nI (kSz sz)))) ++ (wHs g ak (va_up hs (kJ od sz) h) 6))))) _ := hP
  have hD : va_D A ((wU u (ah 0) (a0 0) (at9 0)) ++ ((wH g ah h) ++ ((wT g at9 (sg, (nI n))) ++ ((wK0 g a0 ak ((nI (kOd od sz)), (nI (kSz sz)))) ++ (wHs g ak (va_up hs (kJ od sz) h) 6))))) := hD
  rw [kOd5 sz5, kSz5 sz5, kJ5 sz5] at hP hD
  refine lv_aload_n hx hb dX3_play_15 rfl (lv_at hl 0 rfl) ?_
  refine va_get (D := g.1) (ci := 3) (v := .ref (ah 0)) (C := RX3) (T := TX3) (N := 3) hx hb hts hiX3 hown hE.1 hP 0 rfl rfl 0 (by decide) f12 (fun _ h9 => h9) rfl dX3_play_16 ?_
  refine lv_iload_n hx hb dX3_play_19 rfl (lv_at hl 1 rfl) ?_
  refine k_Vi (As := [.int (nI c9)]) (r := (bc (Hget h c9 8))) hF (c_X1_perform l g ah h c9 (by omega)) (cwV 1 hts gX3_play_X1_perform rfl rfl rfl (by decide +kernel) ⟨Nat.le_of_ble_eq_true rfl, Nat.le_of_ble_eq_true rfl⟩) hE hP hD hS hA (pm_5_1 _ _ _ _ _) ((pm_5_1 _ _ _ _ _).symm) 1 rfl rfl rfl rfl hl.1 rfl (Nat.le_of_ble_eq_true rfl) dX3_play_20 ⟨Nat.le_of_ble_eq_true rfl, Nat.le_of_ble_eq_true rfl⟩ (fun H locs hP hD hS => ?_)
  have hP : va_P g.1 vwCl ((wU u (ah 0) (a0 0) (at9 0)) ++ ((wH g ah (Hperf c9 h)) ++ ((wT g at9 (sg, (nI n))) ++ ((wK0 g a0 ak ((nI od), (nI (sz + 1)))) ++ (wHs g ak (va_up hs ((od + sz) % 6) h) 6))))) _ := hP
  have hD : va_D A ((wU u (ah 0) (a0 0) (at9 0)) ++ ((wH g ah (Hperf c9 h)) ++ ((wT g at9 (sg, (nI n))) ++ ((wK0 g a0 ak ((nI od), (nI (sz + 1)))) ++ (wHs g ak (va_up hs ((od + sz) % 6) h) 6))))) := hD
  obtain ⟨z1, ez1⟩ : ∃ x : HSt, (Hperf c9 h) = x := ⟨_, rfl⟩
  rw [ez1] at hP hD
  have e2 : (Hperf c9 h) = z1 := (by subst ez1; first | rfl | (simp only [if_true]; done) | (simp only [if_true]; rfl) | (simp [if_true]; done))
  have e3 : (nI od, nI (sz + 1)) = ((nI od), (nI (sz + 1))) := (by subst ez1; first | rfl | (simp only [if_true]; done) | (simp only [if_true]; rfl) | (simp [if_true]; done))
  have hP : va_P g.1 vwCl ((wU u (ah 0) (a0 0) (at9 0)) ++ ((wH g ah (Hperf c9 h)) ++ ((wT g at9 (sg, (nI n))) ++ ((wK0 g a0 ak (nI od, nI (sz + 1))) ++ (wHs g ak (va_up hs ((od + sz) % 6) h) 6))))) H := by rw [e2, e3]; exact hP
  have hD : va_D A ((wU u (ah 0) (a0 0) (at9 0)) ++ ((wH g ah (Hperf c9 h)) ++ ((wT g at9 (sg, (nI n))) ++ ((wK0 g a0 ak (nI od, nI (sz + 1))) ++ (wHs g ak (va_up hs ((od + sz) % 6) h) 6))))) := by rw [e2, e3]; exact hD
  exact k_iret hx hb hr hlocks rfl (by subst ez1; first | rfl | (simp only [bI]; done) | (simp only [bI]; rfl) | (simp [bI]; done)) hP hD hS (Nat.le_of_ble_eq_true rfl) (Nat.le_of_ble_eq_true rfl) dX3_play_23
set_option maxHeartbeats 4000000 in
set_option maxRecDepth 100000 in
theorem c_X3_pass (l : Launch) (g : kG) (u : Nat) (ah at9 a0 : Nat → Nat) (ak : Nat → Nat → Nat) (h : HSt) (sg : Nat → Int32) (n od sz : Nat) (hs : Nat → HSt) (hod : od < 6) (sz5 : sz ≤ 5) (hbo : Hbo h) (m9 : Nat) (g1 : 1 ≤ m9) (g2 : m9 ≤ 60) : KI l yX3_pass wsX3_pass ({ frames := 3, cells := 0, slots := 0, locals := 102 }) g [.ref u, .int (nI m9)] ((wU u (ah 0) (a0 0) (at9 0)) ++ ((wH g ah h) ++ ((wT g at9 (sg, (nI n))) ++ ((wK0 g a0 ak ((nI od), (nI sz))) ++ (wHs g ak hs 6))))) (nI (HpassQ h m9)) ((wU u (ah 0) (a0 0) (at9 0)) ++ ((wH g ah (HpassN h m9)) ++ ((wT g at9 (sg, (nI n))) ++ ((wK0 g a0 ak (nI od, nI (sz + 1))) ++ (wHs g ak (va_up hs ((od + sz) % 6) h) 6))))) 0 0 := by
  refine k_begin (cc := cX3_pass) (maxL := 2) (ret := (some .int)) (Qc := fun A => kQi g (nI (HpassQ h m9)) ((wU u (ah 0) (a0 0) (at9 0)) ++ ((wH g ah (HpassN h m9)) ++ ((wT g at9 (sg, (nI n))) ++ ((wK0 g a0 ak (nI od, nI (sz + 1))) ++ (wHs g ak (va_up hs ((od + sz) % 6) h) 6))))) A) (by decide) rfl (Nat.le_of_ble_eq_true rfl) ?_
  intro p e s m below meth c A ls hF hr hlocks hin hE hP hD hS hA hl
  obtain ⟨hx, hb, hml, hown, hts⟩ := id hF
  have hown : s.vm.findClass RX3 = some m.cls := hown
  have hl : lv_has ls 2 [(0, .ref u), (1, .int (nI m9))] := hl
  have hiX3 : ∀ w ∈ wsX30, w ∈ wsX3_pass := fun _ h => List.mem_cons_of_mem _ (List.mem_append_left _ (List.mem_append_left _ (List.mem_append_left _ (List.mem_append_right _ (h)))))
  have f19 : (Cond.fieldLink RX3 19 "ConcertUsher" "history" "LConcertUsher$History;").before _ s = true := hts _ (List.mem_of_getElem? (i := 1) rfl)
  have f12 : (Cond.fieldLink RX3 12 "ConcertUsher" "hall" "LConcertUsher$Hall;").before _ s = true := hts _ (List.mem_of_getElem? (i := 2) rfl)
  refine lv_iload_n hx hb dX3_pass_0 rfl (lv_at hl 1 rfl) ?_
  refine k_Sv (w0 := []) (w1 := []) (As := [.int (nI m9)]) hF (c_X3_checkMinutes l g m9 (by omega) (by omega)) (va_cwS 1 hts gX3_pass_X3_checkMinutes rfl rfl rfl (by decide +kernel) ⟨Nat.le_of_ble_eq_true rfl, Nat.le_of_ble_eq_true rfl⟩) hE hP hD hS hA (List.Perm.refl _) (List.Perm.refl _) rfl hl.1 rfl (Nat.le_of_ble_eq_true rfl) dX3_pass_1 ⟨Nat.le_of_ble_eq_true rfl, Nat.le_of_ble_eq_true rfl⟩ (fun H locs hP hD hS => ?_)
  have hP : va_P g.1 vwCl ((wU u (ah 0) (a0 0) (at9 0)) ++ ((wH g ah h) ++ ((wT g at9 (sg, (nI n))) ++ ((wK0 g a0 ak ((nI od), (nI sz))) ++ (wHs g ak hs 6))))) _ := hP
  have hD : va_D A ((wU u (ah 0) (a0 0) (at9 0)) ++ ((wH g ah h) ++ ((wT g at9 (sg, (nI n))) ++ ((wK0 g a0 ak ((nI od), (nI sz))) ++ (wHs g ak hs 6))))) := hD
  refine lv_aload_n hx hb dX3_pass_4 rfl (lv_at hl 0 rfl) ?_
  refine va_get (D := g.1) (ci := 3) (v := .ref (a0 0)) (C := RX3) (T := TX3) (N := 3) hx hb hts hiX3 hown hE.1 hP 0 rfl rfl 1 (by decide) f19 (fun _ h9 => h9) rfl dX3_pass_5 ?_
  refine lv_aload_n hx hb dX3_pass_8 rfl (lv_at hl 0 rfl) ?_
  refine va_get (D := g.1) (ci := 3) (v := .ref (ah 0)) (C := RX3) (T := TX3) (N := 3) hx hb hts hiX3 hown hE.1 hP 0 rfl rfl 0 (by decide) f12 (fun _ h9 => h9) rfl dX3_pass_9 ?_
  refine k_Vv (As := [.ref (ah 0)]) hF (c_X2_keep l g a0 ak ah od sz (by omega) (by omega) hs h hbo) (cwV 1 hts gX3_pass_X2_keep rfl rfl rfl (by decide +kernel) ⟨Nat.le_of_ble_eq_true rfl, Nat.le_of_ble_eq_true rfl⟩) hE hP hD hS hA (pm_5_341 _ _ _ _ _) ((pm_5_341 _ _ _ _ _).symm) 7 rfl rfl rfl rfl hl.1 rfl (Nat.le_of_ble_eq_true rfl) dX3_pass_12 ⟨Nat.le_of_ble_eq_true rfl, Nat.le_of_ble_eq_true rfl⟩ (fun H locs hP hD hS => ?_)
  have hP : va_P g.1 vwCl ((wU u (ah 0) (a0 0) (at9 0)) ++ ((wH g ah h) ++ ((wT g at9 (sg, (nI n))) ++ ((wK0 g a0 ak ((nI (kOd od sz)), (nI (kSz sz)))) ++ (wHs g ak (va_up hs (kJ od sz) h) 6))))) _ := hP
  have hD : va_D A ((wU u (ah 0) (a0 0) (at9 0)) ++ ((wH g ah h) ++ ((wT g at9 (sg, (nI n))) ++ ((wK0 g a0 ak ((nI (kOd od sz)), (nI (kSz sz)))) ++ (wHs g ak (va_up hs (kJ od sz) h) 6))))) := hD
  rw [kOd5 sz5, kSz5 sz5, kJ5 sz5] at hP hD
  refine lv_aload_n hx hb dX3_pass_15 rfl (lv_at hl 0 rfl) ?_
  refine va_get (D := g.1) (ci := 3) (v := .ref (ah 0)) (C := RX3) (T := TX3) (N := 3) hx hb hts hiX3 hown hE.1 hP 0 rfl rfl 0 (by decide) f12 (fun _ h9 => h9) rfl dX3_pass_16 ?_
  refine lv_iload_n hx hb dX3_pass_19 rfl (lv_at hl 1 rfl) ?_
  refine k_Vi (As := [.int (nI m9)]) (r := (nI (HpassQ h m9))) hF (c_X1_letPass l g ah h m9 (by omega)) (cwV 1 hts gX3_pass_X1_letPass rfl rfl rfl (by decide +kernel) ⟨Nat.le_of_ble_eq_true rfl, Nat.le_of_ble_eq_true rfl⟩) hE hP hD hS hA (pm_5_1 _ _ _ _ _) ((pm_5_1 _ _ _ _ _).symm) 1 rfl rfl rfl rfl hl.1 rfl (Nat.le_of_ble_eq_true rfl) dX3_pass_20 ⟨Nat.le_of_ble_eq_true rfl, Nat.le_of_ble_eq_true rfl⟩ (fun H locs hP hD hS => ?_)
  have hP : va_P g.1 vwCl ((wU u (ah 0) (a0 0) (at9 0)) ++ ((wH g ah (HpassN h m9)) ++ ((wT g at9 (sg, (nI n))) ++ ((wK0 g a0 ak ((nI od), (nI (sz + 1)))) ++ (wHs g ak (va_up hs ((od + sz) % 6) h) 6))))) _ := hP
  have hD : va_D A ((wU u (ah 0) (a0 0) (at9 0)) ++ ((wH g ah (HpassN h m9)) ++ ((wT g at9 (sg, (nI n))) ++ ((wK0 g a0 ak ((nI od), (nI (sz + 1)))) ++ (wHs g ak (va_up hs ((od + sz) % 6) h) 6))))) := hD
  obtain ⟨z1, ez1⟩ : ∃ x : HSt, (HpassN h m9) = x := ⟨_, rfl⟩
  rw [ez1] at hP hD
  have e2 : (HpassN h m9) = z1 := (by subst ez1; first | rfl | (simp only [if_true]; done) | (simp only [if_true]; rfl) | (simp [if_true]; done))
  have e3 : (nI od, nI (sz + 1)) = ((nI od), (nI (sz + 1))) := (by subst ez1; first | rfl | (simp only [if_true]; done) | (simp only [if_true]; rfl) | (simp [if_true]; done))
  have hP : va_P g.1 vwCl ((wU u (ah 0) (a0 0) (at9 0)) ++ ((wH g ah (HpassN h m9)) ++ ((wT g at9 (sg, (nI n))) ++ ((wK0 g a0 ak (nI od, nI (sz + 1))) ++ (wHs g ak (va_up hs ((od + sz) % 6) h) 6))))) H := by rw [e2, e3]; exact hP
  have hD : va_D A ((wU u (ah 0) (a0 0) (at9 0)) ++ ((wH g ah (HpassN h m9)) ++ ((wT g at9 (sg, (nI n))) ++ ((wK0 g a0 ak (nI od, nI (sz + 1))) ++ (wHs g ak (va_up hs ((od + sz) % 6) h) 6))))) := by rw [e2, e3]; exact hD
  exact k_iret hx hb hr hlocks rfl (by subst ez1; first | rfl | (simp only [bI]; done) | (simp only [bI]; rfl) | (simp [bI]; done)) hP hD hS (Nat.le_of_ble_eq_true rfl) (Nat.le_of_ble_eq_true rfl) dX3_pass_23
set_option maxHeartbeats 4000000 in
set_option maxRecDepth 100000 in
theorem c_X3_count (l : Launch) (g : kG) (u : Nat) (ah at9 a0 : Nat → Nat) (ak : Nat → Nat → Nat) (h : HSt) (sg : Nat → Int32) (n od sz : Nat) (hs : Nat → HSt) (q9 : Nat) (hq9 : q9 < 6) : KI l yX3_count wsX3_count ({ frames := 0, cells := 0, slots := 0, locals := 0 }) g [.ref u, .int (nI q9)] ((wU u (ah 0) (a0 0) (at9 0)) ++ ((wH g ah h) ++ ((wT g at9 (sg, (nI n))) ++ ((wK0 g a0 ak ((nI od), (nI sz))) ++ (wHs g ak hs 6))))) ((hC h) q9) ((wU u (ah 0) (a0 0) (at9 0)) ++ ((wH g ah h) ++ ((wT g at9 (sg, (nI n))) ++ ((wK0 g a0 ak ((nI od), (nI sz))) ++ (wHs g ak hs 6))))) 0 0 := by
  refine k_begin (cc := cX3_count) (maxL := 2) (ret := (some .int)) (Qc := fun A => kQi g ((hC h) q9) ((wU u (ah 0) (a0 0) (at9 0)) ++ ((wH g ah h) ++ ((wT g at9 (sg, (nI n))) ++ ((wK0 g a0 ak ((nI od), (nI sz))) ++ (wHs g ak hs 6))))) A) (by decide) rfl (Nat.le_of_ble_eq_true rfl) ?_
  intro p e s m below meth c A ls hF hr hlocks hin hE hP hD hS hA hl
  obtain ⟨hx, hb, hml, hown, hts⟩ := id hF
  have hown : s.vm.findClass RX3 = some m.cls := hown
  have hl : lv_has ls 2 [(0, .ref u), (1, .int (nI q9))] := hl
  have hiX3 : ∀ w ∈ wsX30, w ∈ wsX3_count := fun _ h => List.mem_cons_of_mem _ (List.mem_append_left _ (List.mem_append_left _ (List.mem_append_right _ (h))))
  have hiX1 : ∀ w ∈ wsX10, w ∈ wsX3_count := fun _ h => List.mem_cons_of_mem _ (List.mem_append_left _ (List.mem_append_right _ (h)))
  have f12 : (Cond.fieldLink RX3 12 "ConcertUsher" "hall" "LConcertUsher$Hall;").before _ s = true := hts _ (List.mem_of_getElem? (i := 3) rfl)
  have f146 : (Cond.fieldLink RX3 146 "ConcertUsher$Hall" "counts" "[I").before _ s = true := hts _ (List.mem_of_getElem? (i := 4) rfl)
  refine lv_iload_n hx hb dX3_count_0 rfl (lv_at hl 1 rfl) ?_
  refine lv_if_lt (tgt := 10) hx hb dX3_count_1 (by decide) (fun c1 => ?_) (fun c1 => ?_)
  ·
    exact absurd c1 (nI_pos (by omega))
  ·
    refine lv_iload_n hx hb dX3_count_4 rfl (lv_at hl 1 rfl) ?_
    refine lv_bipush (v := (nI 6)) hx hb dX3_count_5 (by decide) ?_
    refine k_ltN (tgt := 20) hx hb (by omega) (by decide) dX3_count_7 (by decide) (fun c2 => ?_) (fun c2 => ?_)
    ·
      refine lv_aload_n hx hb dX3_count_20 rfl (lv_at hl 0 rfl) ?_
      refine va_get (D := g.1) (ci := 3) (v := .ref (ah 0)) (C := RX3) (T := TX3) (N := 3) hx hb hts hiX3 hown hE.1 hP 0 rfl rfl 0 (by decide) f12 (fun _ h9 => h9) rfl dX3_count_21 ?_
      refine va_get (D := g.1) (ci := 1) (v := .ref (ah 3)) (C := RX1) (T := TX1) (N := 12) hx hb hts hiX1 hown hE.1 hP 1 rfl rfl 2 (by decide) f146 (fun _ h9 => h9) rfl dX3_count_24 ?_
      refine lv_iload_n hx hb dX3_count_27 rfl (lv_at hl 1 rfl) ?_
      refine k_iald (f := (hC h)) hx hb hE hP 4 rfl q9 rfl (by omega) (by decide) dX3_count_28 ?_
      have hP : va_P g.1 vwCl ((wU u (ah 0) (a0 0) (at9 0)) ++ ((wH g ah h) ++ ((wT g at9 (sg, (nI n))) ++ ((wK0 g a0 ak ((nI od), (nI sz))) ++ (wHs g ak hs 6))))) _ := hP
      have hD : va_D A ((wU u (ah 0) (a0 0) (at9 0)) ++ ((wH g ah h) ++ ((wT g at9 (sg, (nI n))) ++ ((wK0 g a0 ak ((nI od), (nI sz))) ++ (wHs g ak hs 6))))) := hD
      exact k_iret hx hb hr hlocks rfl rfl hP hD hS (Nat.le_of_ble_eq_true rfl) (Nat.le_of_ble_eq_true rfl) dX3_count_29
    ·
      exact absurd c2 (by omega)
set_option maxHeartbeats 4000000 in
set_option maxRecDepth 100000 in
theorem c_X3_undo (l : Launch) (g : kG) (u : Nat) (ah at9 a0 : Nat → Nat) (ak : Nat → Nat → Nat) (h : HSt) (sg : Nat → Int32) (n od sz : Nat) (hs : Nat → HSt) (hod : od < 6) (hsz : sz + 1 ≤ 6) (hbs : ∀ j, Hbo (hs j)) : KI l yX3_undo wsX3_undo ({ frames := 3, cells := 0, slots := 0, locals := 102 }) g [.ref u] ((wU u (ah 0) (a0 0) (at9 0)) ++ ((wH g ah h) ++ ((wT g at9 (sg, (nI n))) ++ ((wK0 g a0 ak ((nI od), (nI (sz + 1)))) ++ (wHs g ak hs 6))))) (nI sz) ((wU u (ah 0) (a0 0) (at9 0)) ++ ((wH g ah (hs ((od + sz) % 6))) ++ ((wT g at9 (sg, (nI n))) ++ ((wK0 g a0 ak (nI od, nI sz)) ++ (wHs g ak hs 6))))) 0 0 := by
  refine k_begin (cc := cX3_undo) (maxL := 1) (ret := (some .int)) (Qc := fun A => kQi g (nI sz) ((wU u (ah 0) (a0 0) (at9 0)) ++ ((wH g ah (hs ((od + sz) % 6))) ++ ((wT g at9 (sg, (nI n))) ++ ((wK0 g a0 ak (nI od, nI sz)) ++ (wHs g ak hs 6))))) A) (by decide) rfl (Nat.le_of_ble_eq_true rfl) ?_
  intro p e s m below meth c A ls hF hr hlocks hin hE hP hD hS hA hl
  obtain ⟨hx, hb, hml, hown, hts⟩ := id hF
  have hown : s.vm.findClass RX3 = some m.cls := hown
  have hl : lv_has ls 1 [(0, .ref u)] := hl
  have hiX3 : ∀ w ∈ wsX30, w ∈ wsX3_undo := fun _ h => List.mem_cons_of_mem _ (List.mem_append_left _ (List.mem_append_left _ (List.mem_append_left _ (List.mem_append_right _ (h)))))
  have hiX2 : ∀ w ∈ wsX20, w ∈ wsX3_undo := fun _ h => List.mem_cons_of_mem _ (List.mem_append_left _ (List.mem_append_left _ (List.mem_append_right _ (h))))
  have f19 : (Cond.fieldLink RX3 19 "ConcertUsher" "history" "LConcertUsher$History;").before _ s = true := hts _ (List.mem_of_getElem? (i := 3) rfl)
  have f181 : (Cond.fieldLink RX3 181 "ConcertUsher$History" "size" "I").before _ s = true := hts _ (List.mem_of_getElem? (i := 4) rfl)
  have f12 : (Cond.fieldLink RX3 12 "ConcertUsher" "hall" "LConcertUsher$Hall;").before _ s = true := hts _ (List.mem_of_getElem? (i := 5) rfl)
  refine lv_aload_n hx hb dX3_undo_0 rfl (lv_at hl 0 rfl) ?_
  refine va_get (D := g.1) (ci := 3) (v := .ref (a0 0)) (C := RX3) (T := TX3) (N := 3) hx hb hts hiX3 hown hE.1 hP 0 rfl rfl 1 (by decide) f19 (fun _ h9 => h9) rfl dX3_undo_1 ?_
  refine va_get (D := g.1) (ci := 2) (v := .int (nI (sz + 1))) (C := RX2) (T := TX2) (N := 3) hx hb hts hiX2 hown hE.1 hP 7 rfl rfl 2 (by decide) f181 (fun _ h9 => h9) rfl dX3_undo_4 ?_
  refine k_ifn0 (tgt := 20) hx hb (by omega) dX3_undo_7 (by decide) (fun c1 => ?_) (fun c1 => ?_)
  ·
    refine lv_aload_n hx hb dX3_undo_20 rfl (lv_at hl 0 rfl) ?_
    refine va_get (D := g.1) (ci := 3) (v := .ref (a0 0)) (C := RX3) (T := TX3) (N := 3) hx hb hts hiX3 hown hE.1 hP 0 rfl rfl 1 (by decide) f19 (fun _ h9 => h9) rfl dX3_undo_21 ?_
    refine lv_aload_n hx hb dX3_undo_24 rfl (lv_at hl 0 rfl) ?_
    refine va_get (D := g.1) (ci := 3) (v := .ref (ah 0)) (C := RX3) (T := TX3) (N := 3) hx hb hts hiX3 hown hE.1 hP 0 rfl rfl 0 (by decide) f12 (fun _ h9 => h9) rfl dX3_undo_25 ?_
    refine k_Vv (As := [.ref (ah 0)]) hF (c_X2_takeBack l g a0 ak ah od (sz + 1) (by omega) (by omega) hs h (by omega) hbs) (cwV 1 hts gX3_undo_X2_takeBack rfl rfl rfl (by decide +kernel) ⟨Nat.le_of_ble_eq_true rfl, Nat.le_of_ble_eq_true rfl⟩) hE hP hD hS hA (pm_5_341 _ _ _ _ _) ((pm_5_341 _ _ _ _ _).symm) 7 rfl rfl rfl rfl hl.1 rfl (Nat.le_of_ble_eq_true rfl) dX3_undo_28 ⟨Nat.le_of_ble_eq_true rfl, Nat.le_of_ble_eq_true rfl⟩ (fun H locs hP hD hS => ?_)
    have hP : va_P g.1 vwCl ((wU u (ah 0) (a0 0) (at9 0)) ++ ((wH g ah (hs ((od + ((sz + 1) - 1)) % 6))) ++ ((wT g at9 (sg, (nI n))) ++ ((wK0 g a0 ak ((nI od), (nI ((sz + 1) - 1)))) ++ (wHs g ak hs 6))))) _ := hP
    have hD : va_D A ((wU u (ah 0) (a0 0) (at9 0)) ++ ((wH g ah (hs ((od + ((sz + 1) - 1)) % 6))) ++ ((wT g at9 (sg, (nI n))) ++ ((wK0 g a0 ak ((nI od), (nI ((sz + 1) - 1)))) ++ (wHs g ak hs 6))))) := hD
    obtain ⟨z2, ez2⟩ : ∃ x : HSt, (hs ((od + ((sz + 1) - 1)) % 6)) = x := ⟨_, rfl⟩
    rw [ez2] at hP hD
    refine lv_aload_n hx hb dX3_undo_31 rfl (lv_at hl 0 rfl) ?_
    refine va_get (D := g.1) (ci := 3) (v := .ref (a0 0)) (C := RX3) (T := TX3) (N := 3) hx hb hts hiX3 hown hE.1 hP 0 rfl rfl 1 (by decide) f19 (fun _ h9 => h9) rfl dX3_undo_32 ?_
    refine va_get (D := g.1) (ci := 2) (v := .int (nI ((sz + 1) - 1))) (C := RX2) (T := TX2) (N := 3) hx hb hts hiX2 hown hE.1 hP 7 rfl rfl 2 (by decide) f181 (fun _ h9 => h9) rfl dX3_undo_35 ?_
    have e3 : (hs ((od + sz) % 6)) = z2 := (by subst ez2; first | (simp only [if_neg c1, if_pos c1]; done) | (simp only [if_neg c1, if_pos c1]; rfl) | rfl | (simp [if_neg c1, if_pos c1]; done))
    have e4 : (nI od, nI sz) = ((nI od), (nI ((sz + 1) - 1))) := (by subst ez2; first | (simp only [if_neg c1, if_pos c1]; done) | (simp only [if_neg c1, if_pos c1]; rfl) | rfl | (simp [if_neg c1, if_pos c1]; done))
    have hP : va_P g.1 vwCl ((wU u (ah 0) (a0 0) (at9 0)) ++ ((wH g ah (hs ((od + sz) % 6))) ++ ((wT g at9 (sg, (nI n))) ++ ((wK0 g a0 ak (nI od, nI sz)) ++ (wHs g ak hs 6))))) H := by rw [e3, e4]; exact hP
    have hD : va_D A ((wU u (ah 0) (a0 0) (at9 0)) ++ ((wH g ah (hs ((od + sz) % 6))) ++ ((wT g at9 (sg, (nI n))) ++ ((wK0 g a0 ak (nI od, nI sz)) ++ (wHs g ak hs 6))))) := by rw [e3, e4]; exact hD
    exact k_iret hx hb hr hlocks rfl (by subst ez2; first | (simp only [bI, if_neg c1, if_pos c1]; done) | (simp only [bI, if_neg c1, if_pos c1]; rfl) | rfl | (simp [bI, if_neg c1, if_pos c1]; done)) hP hD hS (Nat.le_of_ble_eq_true rfl) (Nat.le_of_ble_eq_true rfl) dX3_undo_38
  ·
    exact absurd c1 (by omega)
set_option maxHeartbeats 4000000 in
set_option maxRecDepth 100000 in
theorem c_X3_chief (l : Launch) (g : kG) (u : Nat) (ah at9 a0 : Nat → Nat) (ak : Nat → Nat → Nat) (h : HSt) (sg : Nat → Int32) (n od sz : Nat) (hs : Nat → HSt) : KI l yX3_chief wsX3_chief ({ frames := 1, cells := 0, slots := 0, locals := 20 }) g [.ref u] ((wU u (ah 0) (a0 0) (at9 0)) ++ ((wH g ah h) ++ ((wT g at9 (sg, (nI n))) ++ ((wK0 g a0 ak ((nI od), (nI sz))) ++ (wHs g ak hs 6))))) (Hchief h) ((wU u (ah 0) (a0 0) (at9 0)) ++ ((wH g ah h) ++ ((wT g at9 (sg, (nI n))) ++ ((wK0 g a0 ak ((nI od), (nI sz))) ++ (wHs g ak hs 6))))) 0 0 := by
  refine k_begin (cc := cX3_chief) (maxL := 1) (ret := (some .int)) (Qc := fun A => kQi g (Hchief h) ((wU u (ah 0) (a0 0) (at9 0)) ++ ((wH g ah h) ++ ((wT g at9 (sg, (nI n))) ++ ((wK0 g a0 ak ((nI od), (nI sz))) ++ (wHs g ak hs 6))))) A) (by decide) rfl (Nat.le_of_ble_eq_true rfl) ?_
  intro p e s m below meth c A ls hF hr hlocks hin hE hP hD hS hA hl
  obtain ⟨hx, hb, hml, hown, hts⟩ := id hF
  have hown : s.vm.findClass RX3 = some m.cls := hown
  have hl : lv_has ls 1 [(0, .ref u)] := hl
  have hiX3 : ∀ w ∈ wsX30, w ∈ wsX3_chief := fun _ h => List.mem_cons_of_mem _ (List.mem_append_left _ (List.mem_append_right _ (h)))
  have f12 : (Cond.fieldLink RX3 12 "ConcertUsher" "hall" "LConcertUsher$Hall;").before _ s = true := hts _ (List.mem_of_getElem? (i := 1) rfl)
  refine lv_aload_n hx hb dX3_chief_0 rfl (lv_at hl 0 rfl) ?_
  refine va_get (D := g.1) (ci := 3) (v := .ref (ah 0)) (C := RX3) (T := TX3) (N := 3) hx hb hts hiX3 hown hE.1 hP 0 rfl rfl 0 (by decide) f12 (fun _ h9 => h9) rfl dX3_chief_1 ?_
  refine k_Vi (As := []) (r := (Hchief h)) hF (c_X1_chiefAsker l g ah h) (cwV 0 hts gX3_chief_X1_chiefAsker rfl rfl rfl (by decide +kernel) ⟨Nat.le_of_ble_eq_true rfl, Nat.le_of_ble_eq_true rfl⟩) hE hP hD hS hA (pm_5_1 _ _ _ _ _) ((pm_5_1 _ _ _ _ _).symm) 1 rfl rfl rfl rfl hl.1 rfl (Nat.le_of_ble_eq_true rfl) dX3_chief_4 ⟨Nat.le_of_ble_eq_true rfl, Nat.le_of_ble_eq_true rfl⟩ (fun H locs hP hD hS => ?_)
  have hP : va_P g.1 vwCl ((wU u (ah 0) (a0 0) (at9 0)) ++ ((wH g ah h) ++ ((wT g at9 (sg, (nI n))) ++ ((wK0 g a0 ak ((nI od), (nI sz))) ++ (wHs g ak hs 6))))) _ := hP
  have hD : va_D A ((wU u (ah 0) (a0 0) (at9 0)) ++ ((wH g ah h) ++ ((wT g at9 (sg, (nI n))) ++ ((wK0 g a0 ak ((nI od), (nI sz))) ++ (wHs g ak hs 6))))) := hD
  have hP : va_P g.1 vwCl ((wU u (ah 0) (a0 0) (at9 0)) ++ ((wH g ah h) ++ ((wT g at9 (sg, (nI n))) ++ ((wK0 g a0 ak ((nI od), (nI sz))) ++ (wHs g ak hs 6))))) _ := hP
  have hD : va_D A ((wU u (ah 0) (a0 0) (at9 0)) ++ ((wH g ah h) ++ ((wT g at9 (sg, (nI n))) ++ ((wK0 g a0 ak ((nI od), (nI sz))) ++ (wHs g ak hs 6))))) := hD
  exact k_iret hx hb hr hlocks rfl rfl hP hD hS (Nat.le_of_ble_eq_true rfl) (Nat.le_of_ble_eq_true rfl) dX3_chief_7
set_option maxHeartbeats 4000000 in
set_option maxRecDepth 100000 in
theorem c_X3_minutes (l : Launch) (g : kG) (u : Nat) (ah at9 a0 : Nat → Nat) (ak : Nat → Nat → Nat) (h : HSt) (sg : Nat → Int32) (n od sz : Nat) (hs : Nat → HSt) : KI l yX3_minutes wsX3_minutes ({ frames := 0, cells := 0, slots := 0, locals := 0 }) g [.ref u] ((wU u (ah 0) (a0 0) (at9 0)) ++ ((wH g ah h) ++ ((wT g at9 (sg, (nI n))) ++ ((wK0 g a0 ak ((nI od), (nI sz))) ++ (wHs g ak hs 6))))) (hmn h) ((wU u (ah 0) (a0 0) (at9 0)) ++ ((wH g ah h) ++ ((wT g at9 (sg, (nI n))) ++ ((wK0 g a0 ak ((nI od), (nI sz))) ++ (wHs g ak hs 6))))) 0 0 := by
  refine k_begin (cc := cX3_minutes) (maxL := 1) (ret := (some .int)) (Qc := fun A => kQi g (hmn h) ((wU u (ah 0) (a0 0) (at9 0)) ++ ((wH g ah h) ++ ((wT g at9 (sg, (nI n))) ++ ((wK0 g a0 ak ((nI od), (nI sz))) ++ (wHs g ak hs 6))))) A) (by decide) rfl (Nat.le_of_ble_eq_true rfl) ?_
  intro p e s m below meth c A ls hF hr hlocks hin hE hP hD hS hA hl
  obtain ⟨hx, hb, hml, hown, hts⟩ := id hF
  have hown : s.vm.findClass RX3 = some m.cls := hown
  have hl : lv_has ls 1 [(0, .ref u)] := hl
  have hiX3 : ∀ w ∈ wsX30, w ∈ wsX3_minutes := fun _ h => List.mem_cons_of_mem _ (List.mem_append_left _ (List.mem_append_right _ (h)))
  have hiX1 : ∀ w ∈ wsX10, w ∈ wsX3_minutes := fun _ h => List.mem_cons_of_mem _ (List.mem_append_right _ (h))
  have f12 : (Cond.fieldLink RX3 12 "ConcertUsher" "hall" "LConcertUsher$Hall;").before _ s = true := hts _ (List.mem_of_getElem? (i := 1) rfl)
  have f138 : (Cond.fieldLink RX3 138 "ConcertUsher$Hall" "minutes" "I").before _ s = true := hts _ (List.mem_of_getElem? (i := 2) rfl)
  refine lv_aload_n hx hb dX3_minutes_0 rfl (lv_at hl 0 rfl) ?_
  refine va_get (D := g.1) (ci := 3) (v := .ref (ah 0)) (C := RX3) (T := TX3) (N := 3) hx hb hts hiX3 hown hE.1 hP 0 rfl rfl 0 (by decide) f12 (fun _ h9 => h9) rfl dX3_minutes_1 ?_
  refine va_get (D := g.1) (ci := 1) (v := .int (hmn h)) (C := RX1) (T := TX1) (N := 12) hx hb hts hiX1 hown hE.1 hP 1 rfl rfl 10 (by decide) f138 (fun _ h9 => h9) rfl dX3_minutes_4 ?_
  have hP : va_P g.1 vwCl ((wU u (ah 0) (a0 0) (at9 0)) ++ ((wH g ah h) ++ ((wT g at9 (sg, (nI n))) ++ ((wK0 g a0 ak ((nI od), (nI sz))) ++ (wHs g ak hs 6))))) _ := hP
  have hD : va_D A ((wU u (ah 0) (a0 0) (at9 0)) ++ ((wH g ah h) ++ ((wT g at9 (sg, (nI n))) ++ ((wK0 g a0 ak ((nI od), (nI sz))) ++ (wHs g ak hs 6))))) := hD
  exact k_iret hx hb hr hlocks rfl rfl hP hD hS (Nat.le_of_ble_eq_true rfl) (Nat.le_of_ble_eq_true rfl) dX3_minutes_7
set_option maxHeartbeats 4000000 in
set_option maxRecDepth 100000 in
theorem c_X3_sinceQuestion (l : Launch) (g : kG) (u : Nat) (ah at9 a0 : Nat → Nat) (ak : Nat → Nat → Nat) (h : HSt) (sg : Nat → Int32) (n od sz : Nat) (hs : Nat → HSt) : KI l yX3_sinceQuestion wsX3_sinceQuestion ({ frames := 0, cells := 0, slots := 0, locals := 0 }) g [.ref u] ((wU u (ah 0) (a0 0) (at9 0)) ++ ((wH g ah h) ++ ((wT g at9 (sg, (nI n))) ++ ((wK0 g a0 ak ((nI od), (nI sz))) ++ (wHs g ak hs 6))))) (hsn h) ((wU u (ah 0) (a0 0) (at9 0)) ++ ((wH g ah h) ++ ((wT g at9 (sg, (nI n))) ++ ((wK0 g a0 ak ((nI od), (nI sz))) ++ (wHs g ak hs 6))))) 0 0 := by
  refine k_begin (cc := cX3_sinceQuestion) (maxL := 1) (ret := (some .int)) (Qc := fun A => kQi g (hsn h) ((wU u (ah 0) (a0 0) (at9 0)) ++ ((wH g ah h) ++ ((wT g at9 (sg, (nI n))) ++ ((wK0 g a0 ak ((nI od), (nI sz))) ++ (wHs g ak hs 6))))) A) (by decide) rfl (Nat.le_of_ble_eq_true rfl) ?_
  intro p e s m below meth c A ls hF hr hlocks hin hE hP hD hS hA hl
  obtain ⟨hx, hb, hml, hown, hts⟩ := id hF
  have hown : s.vm.findClass RX3 = some m.cls := hown
  have hl : lv_has ls 1 [(0, .ref u)] := hl
  have hiX3 : ∀ w ∈ wsX30, w ∈ wsX3_sinceQuestion := fun _ h => List.mem_cons_of_mem _ (List.mem_append_left _ (List.mem_append_right _ (h)))
  have hiX1 : ∀ w ∈ wsX10, w ∈ wsX3_sinceQuestion := fun _ h => List.mem_cons_of_mem _ (List.mem_append_right _ (h))
  have f12 : (Cond.fieldLink RX3 12 "ConcertUsher" "hall" "LConcertUsher$Hall;").before _ s = true := hts _ (List.mem_of_getElem? (i := 1) rfl)
  have f141 : (Cond.fieldLink RX3 141 "ConcertUsher$Hall" "sinceQuestion" "I").before _ s = true := hts _ (List.mem_of_getElem? (i := 2) rfl)
  refine lv_aload_n hx hb dX3_sinceQuestion_0 rfl (lv_at hl 0 rfl) ?_
  refine va_get (D := g.1) (ci := 3) (v := .ref (ah 0)) (C := RX3) (T := TX3) (N := 3) hx hb hts hiX3 hown hE.1 hP 0 rfl rfl 0 (by decide) f12 (fun _ h9 => h9) rfl dX3_sinceQuestion_1 ?_
  refine va_get (D := g.1) (ci := 1) (v := .int (hsn h)) (C := RX1) (T := TX1) (N := 12) hx hb hts hiX1 hown hE.1 hP 1 rfl rfl 11 (by decide) f141 (fun _ h9 => h9) rfl dX3_sinceQuestion_4 ?_
  have hP : va_P g.1 vwCl ((wU u (ah 0) (a0 0) (at9 0)) ++ ((wH g ah h) ++ ((wT g at9 (sg, (nI n))) ++ ((wK0 g a0 ak ((nI od), (nI sz))) ++ (wHs g ak hs 6))))) _ := hP
  have hD : va_D A ((wU u (ah 0) (a0 0) (at9 0)) ++ ((wH g ah h) ++ ((wT g at9 (sg, (nI n))) ++ ((wK0 g a0 ak ((nI od), (nI sz))) ++ (wHs g ak hs 6))))) := hD
  exact k_iret hx hb hr hlocks rfl rfl hP hD hS (Nat.le_of_ble_eq_true rfl) (Nat.le_of_ble_eq_true rfl) dX3_sinceQuestion_7
set_option maxHeartbeats 4000000 in
set_option maxRecDepth 100000 in
theorem c_X3_minutesToQuestion (l : Launch) (g : kG) (u : Nat) (ah at9 a0 : Nat → Nat) (ak : Nat → Nat → Nat) (h : HSt) (sg : Nat → Int32) (n od sz : Nat) (hs : Nat → HSt) : KI l yX3_minutesToQuestion wsX3_minutesToQuestion ({ frames := 3, cells := 0, slots := 0, locals := 60 }) g [.ref u] ((wU u (ah 0) (a0 0) (at9 0)) ++ ((wH g ah h) ++ ((wT g at9 (sg, (nI n))) ++ ((wK0 g a0 ak ((nI od), (nI sz))) ++ (wHs g ak hs 6))))) (HasksIn h) ((wU u (ah 0) (a0 0) (at9 0)) ++ ((wH g ah h) ++ ((wT g at9 (sg, (nI n))) ++ ((wK0 g a0 ak ((nI od), (nI sz))) ++ (wHs g ak hs 6))))) 0 0 := by
  refine k_begin (cc := cX3_minutesToQuestion) (maxL := 1) (ret := (some .int)) (Qc := fun A => kQi g (HasksIn h) ((wU u (ah 0) (a0 0) (at9 0)) ++ ((wH g ah h) ++ ((wT g at9 (sg, (nI n))) ++ ((wK0 g a0 ak ((nI od), (nI sz))) ++ (wHs g ak hs 6))))) A) (by decide) rfl (Nat.le_of_ble_eq_true rfl) ?_
  intro p e s m below meth c A ls hF hr hlocks hin hE hP hD hS hA hl
  obtain ⟨hx, hb, hml, hown, hts⟩ := id hF
  have hown : s.vm.findClass RX3 = some m.cls := hown
  have hl : lv_has ls 1 [(0, .ref u)] := hl
  have hiX3 : ∀ w ∈ wsX30, w ∈ wsX3_minutesToQuestion := fun _ h => List.mem_cons_of_mem _ (List.mem_append_left _ (List.mem_append_right _ (h)))
  have f12 : (Cond.fieldLink RX3 12 "ConcertUsher" "hall" "LConcertUsher$Hall;").before _ s = true := hts _ (List.mem_of_getElem? (i := 1) rfl)
  refine lv_aload_n hx hb dX3_minutesToQuestion_0 rfl (lv_at hl 0 rfl) ?_
  refine va_get (D := g.1) (ci := 3) (v := .ref (ah 0)) (C := RX3) (T := TX3) (N := 3) hx hb hts hiX3 hown hE.1 hP 0 rfl rfl 0 (by decide) f12 (fun _ h9 => h9) rfl dX3_minutesToQuestion_1 ?_
  refine k_Vi (As := []) (r := (HasksIn h)) hF (c_X1_asksIn l g ah h) (cwV 0 hts gX3_minutesToQuestion_X1_asksIn rfl rfl rfl (by decide +kernel) ⟨Nat.le_of_ble_eq_true rfl, Nat.le_of_ble_eq_true rfl⟩) hE hP hD hS hA (pm_5_1 _ _ _ _ _) ((pm_5_1 _ _ _ _ _).symm) 1 rfl rfl rfl rfl hl.1 rfl (Nat.le_of_ble_eq_true rfl) dX3_minutesToQuestion_4 ⟨Nat.le_of_ble_eq_true rfl, Nat.le_of_ble_eq_true rfl⟩ (fun H locs hP hD hS => ?_)
  have hP : va_P g.1 vwCl ((wU u (ah 0) (a0 0) (at9 0)) ++ ((wH g ah h) ++ ((wT g at9 (sg, (nI n))) ++ ((wK0 g a0 ak ((nI od), (nI sz))) ++ (wHs g ak hs 6))))) _ := hP
  have hD : va_D A ((wU u (ah 0) (a0 0) (at9 0)) ++ ((wH g ah h) ++ ((wT g at9 (sg, (nI n))) ++ ((wK0 g a0 ak ((nI od), (nI sz))) ++ (wHs g ak hs 6))))) := hD
  have hP : va_P g.1 vwCl ((wU u (ah 0) (a0 0) (at9 0)) ++ ((wH g ah h) ++ ((wT g at9 (sg, (nI n))) ++ ((wK0 g a0 ak ((nI od), (nI sz))) ++ (wHs g ak hs 6))))) _ := hP
  have hD : va_D A ((wU u (ah 0) (a0 0) (at9 0)) ++ ((wH g ah h) ++ ((wT g at9 (sg, (nI n))) ++ ((wK0 g a0 ak ((nI od), (nI sz))) ++ (wHs g ak hs 6))))) := hD
  exact k_iret hx hb hr hlocks rfl rfl hP hD hS (Nat.le_of_ble_eq_true rfl) (Nat.le_of_ble_eq_true rfl) dX3_minutesToQuestion_7
set_option maxHeartbeats 4000000 in
set_option maxRecDepth 100000 in
theorem c_X3_entries (l : Launch) (g : kG) (u : Nat) (ah at9 a0 : Nat → Nat) (ak : Nat → Nat → Nat) (h : HSt) (sg : Nat → Int32) (n od sz : Nat) (hs : Nat → HSt) : KI l yX3_entries wsX3_entries ({ frames := 1, cells := 0, slots := 0, locals := 22 }) g [.ref u] ((wU u (ah 0) (a0 0) (at9 0)) ++ ((wH g ah h) ++ ((wT g at9 (sg, (nI n))) ++ ((wK0 g a0 ak ((nI od), (nI sz))) ++ (wHs g ak hs 6))))) (nI (Hent (hR h) 48)) ((wU u (ah 0) (a0 0) (at9 0)) ++ ((wH g ah h) ++ ((wT g at9 (sg, (nI n))) ++ ((wK0 g a0 ak ((nI od), (nI sz))) ++ (wHs g ak hs 6))))) 0 0 := by
  refine k_begin (cc := cX3_entries) (maxL := 1) (ret := (some .int)) (Qc := fun A => kQi g (nI (Hent (hR h) 48)) ((wU u (ah 0) (a0 0) (at9 0)) ++ ((wH g ah h) ++ ((wT g at9 (sg, (nI n))) ++ ((wK0 g a0 ak ((nI od), (nI sz))) ++ (wHs g ak hs 6))))) A) (by decide) rfl (Nat.le_of_ble_eq_true rfl) ?_
  intro p e s m below meth c A ls hF hr hlocks hin hE hP hD hS hA hl
  obtain ⟨hx, hb, hml, hown, hts⟩ := id hF
  have hown : s.vm.findClass RX3 = some m.cls := hown
  have hl : lv_has ls 1 [(0, .ref u)] := hl
  have hiX3 : ∀ w ∈ wsX30, w ∈ wsX3_entries := fun _ h => List.mem_cons_of_mem _ (List.mem_append_left _ (List.mem_append_right _ (h)))
  have f12 : (Cond.fieldLink RX3 12 "ConcertUsher" "hall" "LConcertUsher$Hall;").before _ s = true := hts _ (List.mem_of_getElem? (i := 1) rfl)
  refine lv_aload_n hx hb dX3_entries_0 rfl (lv_at hl 0 rfl) ?_
  refine va_get (D := g.1) (ci := 3) (v := .ref (ah 0)) (C := RX3) (T := TX3) (N := 3) hx hb hts hiX3 hown hE.1 hP 0 rfl rfl 0 (by decide) f12 (fun _ h9 => h9) rfl dX3_entries_1 ?_
  refine k_Vi (As := []) (r := (nI (Hent (hR h) 48))) hF (c_X1_entriesInAll l g ah h) (cwV 0 hts gX3_entries_X1_entriesInAll rfl rfl rfl (by decide +kernel) ⟨Nat.le_of_ble_eq_true rfl, Nat.le_of_ble_eq_true rfl⟩) hE hP hD hS hA (pm_5_1 _ _ _ _ _) ((pm_5_1 _ _ _ _ _).symm) 1 rfl rfl rfl rfl hl.1 rfl (Nat.le_of_ble_eq_true rfl) dX3_entries_4 ⟨Nat.le_of_ble_eq_true rfl, Nat.le_of_ble_eq_true rfl⟩ (fun H locs hP hD hS => ?_)
  have hP : va_P g.1 vwCl ((wU u (ah 0) (a0 0) (at9 0)) ++ ((wH g ah h) ++ ((wT g at9 (sg, (nI n))) ++ ((wK0 g a0 ak ((nI od), (nI sz))) ++ (wHs g ak hs 6))))) _ := hP
  have hD : va_D A ((wU u (ah 0) (a0 0) (at9 0)) ++ ((wH g ah h) ++ ((wT g at9 (sg, (nI n))) ++ ((wK0 g a0 ak ((nI od), (nI sz))) ++ (wHs g ak hs 6))))) := hD
  have hP : va_P g.1 vwCl ((wU u (ah 0) (a0 0) (at9 0)) ++ ((wH g ah h) ++ ((wT g at9 (sg, (nI n))) ++ ((wK0 g a0 ak ((nI od), (nI sz))) ++ (wHs g ak hs 6))))) _ := hP
  have hD : va_D A ((wU u (ah 0) (a0 0) (at9 0)) ++ ((wH g ah h) ++ ((wT g at9 (sg, (nI n))) ++ ((wK0 g a0 ak ((nI od), (nI sz))) ++ (wHs g ak hs 6))))) := hD
  exact k_iret hx hb hr hlocks rfl rfl hP hD hS (Nat.le_of_ble_eq_true rfl) (Nat.le_of_ble_eq_true rfl) dX3_entries_7
set_option maxHeartbeats 4000000 in
set_option maxRecDepth 100000 in
theorem c_X3_savedStates (l : Launch) (g : kG) (u : Nat) (ah at9 a0 : Nat → Nat) (ak : Nat → Nat → Nat) (h : HSt) (sg : Nat → Int32) (n od sz : Nat) (hs : Nat → HSt) : KI l yX3_savedStates wsX3_savedStates ({ frames := 0, cells := 0, slots := 0, locals := 0 }) g [.ref u] ((wU u (ah 0) (a0 0) (at9 0)) ++ ((wH g ah h) ++ ((wT g at9 (sg, (nI n))) ++ ((wK0 g a0 ak ((nI od), (nI sz))) ++ (wHs g ak hs 6))))) (nI sz) ((wU u (ah 0) (a0 0) (at9 0)) ++ ((wH g ah h) ++ ((wT g at9 (sg, (nI n))) ++ ((wK0 g a0 ak ((nI od), (nI sz))) ++ (wHs g ak hs 6))))) 0 0 := by
  refine k_begin (cc := cX3_savedStates) (maxL := 1) (ret := (some .int)) (Qc := fun A => kQi g (nI sz) ((wU u (ah 0) (a0 0) (at9 0)) ++ ((wH g ah h) ++ ((wT g at9 (sg, (nI n))) ++ ((wK0 g a0 ak ((nI od), (nI sz))) ++ (wHs g ak hs 6))))) A) (by decide) rfl (Nat.le_of_ble_eq_true rfl) ?_
  intro p e s m below meth c A ls hF hr hlocks hin hE hP hD hS hA hl
  obtain ⟨hx, hb, hml, hown, hts⟩ := id hF
  have hown : s.vm.findClass RX3 = some m.cls := hown
  have hl : lv_has ls 1 [(0, .ref u)] := hl
  have hiX3 : ∀ w ∈ wsX30, w ∈ wsX3_savedStates := fun _ h => List.mem_cons_of_mem _ (List.mem_append_left _ (List.mem_append_right _ (h)))
  have hiX2 : ∀ w ∈ wsX20, w ∈ wsX3_savedStates := fun _ h => List.mem_cons_of_mem _ (List.mem_append_right _ (h))
  have f19 : (Cond.fieldLink RX3 19 "ConcertUsher" "history" "LConcertUsher$History;").before _ s = true := hts _ (List.mem_of_getElem? (i := 1) rfl)
  have f181 : (Cond.fieldLink RX3 181 "ConcertUsher$History" "size" "I").before _ s = true := hts _ (List.mem_of_getElem? (i := 2) rfl)
  refine lv_aload_n hx hb dX3_savedStates_0 rfl (lv_at hl 0 rfl) ?_
  refine va_get (D := g.1) (ci := 3) (v := .ref (a0 0)) (C := RX3) (T := TX3) (N := 3) hx hb hts hiX3 hown hE.1 hP 0 rfl rfl 1 (by decide) f19 (fun _ h9 => h9) rfl dX3_savedStates_1 ?_
  refine va_get (D := g.1) (ci := 2) (v := .int (nI sz)) (C := RX2) (T := TX2) (N := 3) hx hb hts hiX2 hown hE.1 hP 7 rfl rfl 2 (by decide) f181 (fun _ h9 => h9) rfl dX3_savedStates_4 ?_
  have hP : va_P g.1 vwCl ((wU u (ah 0) (a0 0) (at9 0)) ++ ((wH g ah h) ++ ((wT g at9 (sg, (nI n))) ++ ((wK0 g a0 ak ((nI od), (nI sz))) ++ (wHs g ak hs 6))))) _ := hP
  have hD : va_D A ((wU u (ah 0) (a0 0) (at9 0)) ++ ((wH g ah h) ++ ((wT g at9 (sg, (nI n))) ++ ((wK0 g a0 ak ((nI od), (nI sz))) ++ (wHs g ak hs 6))))) := hD
  exact k_iret hx hb hr hlocks rfl rfl hP hD hS (Nat.le_of_ble_eq_true rfl) (Nat.le_of_ble_eq_true rfl) dX3_savedStates_7
set_option maxHeartbeats 4000000 in
set_option maxRecDepth 100000 in
theorem c_X3_usefulShare (l : Launch) (g : kG) (u : Nat) (ah at9 a0 : Nat → Nat) (ak : Nat → Nat → Nat) (h : HSt) (sg : Nat → Int32) (n od sz : Nat) (hs : Nat → HSt) : KD l yX3_usefulShare wsX3_usefulShare ({ frames := 0, cells := 0, slots := 0, locals := 0 }) g [.ref u] ((wU u (ah 0) (a0 0) (at9 0)) ++ ((wH g ah h) ++ ((wT g at9 (sg, (nI n))) ++ ((wK0 g a0 ak ((nI od), (nI sz))) ++ (wHs g ak hs 6))))) (dSh ((hC h) 0) ((hC h) 1)) ((wU u (ah 0) (a0 0) (at9 0)) ++ ((wH g ah h) ++ ((wT g at9 (sg, (nI n))) ++ ((wK0 g a0 ak ((nI od), (nI sz))) ++ (wHs g ak hs 6))))) 0 0 := by
  refine k_begin (cc := cX3_usefulShare) (maxL := 3) (ret := (some .double)) (Qc := fun A => kQd g (dSh ((hC h) 0) ((hC h) 1)) ((wU u (ah 0) (a0 0) (at9 0)) ++ ((wH g ah h) ++ ((wT g at9 (sg, (nI n))) ++ ((wK0 g a0 ak ((nI od), (nI sz))) ++ (wHs g ak hs 6))))) A) (by decide) rfl (Nat.le_of_ble_eq_true rfl) ?_
  intro p e s m below meth c A ls hF hr hlocks hin hE hP hD hS hA hl
  obtain ⟨hx, hb, hml, hown, hts⟩ := id hF
  have hown : s.vm.findClass RX3 = some m.cls := hown
  have hl : lv_has ls 3 [(0, .ref u)] := hl
  have hiX3 : ∀ w ∈ wsX30, w ∈ wsX3_usefulShare := fun _ h => List.mem_cons_of_mem _ (List.mem_append_left _ (List.mem_append_right _ (h)))
  have hiX1 : ∀ w ∈ wsX10, w ∈ wsX3_usefulShare := fun _ h => List.mem_cons_of_mem _ (List.mem_append_right _ (h))
  have f12 : (Cond.fieldLink RX3 12 "ConcertUsher" "hall" "LConcertUsher$Hall;").before _ s = true := hts _ (List.mem_of_getElem? (i := 1) rfl)
  have f146 : (Cond.fieldLink RX3 146 "ConcertUsher$Hall" "counts" "[I").before _ s = true := hts _ (List.mem_of_getElem? (i := 2) rfl)
  refine lv_aload_n hx hb dX3_usefulShare_0 rfl (lv_at hl 0 rfl) ?_
  refine va_get (D := g.1) (ci := 3) (v := .ref (ah 0)) (C := RX3) (T := TX3) (N := 3) hx hb hts hiX3 hown hE.1 hP 0 rfl rfl 0 (by decide) f12 (fun _ h9 => h9) rfl dX3_usefulShare_1 ?_
  refine va_get (D := g.1) (ci := 1) (v := .ref (ah 3)) (C := RX1) (T := TX1) (N := 12) hx hb hts hiX1 hown hE.1 hP 1 rfl rfl 2 (by decide) f146 (fun _ h9 => h9) rfl dX3_usefulShare_4 ?_
  refine lv_iconst (v := (nI 0)) hx hb dX3_usefulShare_7 (by decide) ?_
  refine k_iald (f := (hC h)) hx hb hE hP 4 rfl 0 rfl (by decide) (by decide) dX3_usefulShare_8 ?_
  refine lv_istore_n (lv' := [(1, .int ((hC h) 0)), (0, .ref u)]) hx hb dX3_usefulShare_9 rfl hl (by decide) rfl (fun ls hl => ?_)
  refine lv_iload_n hx hb dX3_usefulShare_10 rfl (lv_at hl 0 rfl) ?_
  refine lv_aload_n hx hb dX3_usefulShare_11 rfl (lv_at hl 1 rfl) ?_
  refine va_get (D := g.1) (ci := 3) (v := .ref (ah 0)) (C := RX3) (T := TX3) (N := 3) hx hb hts hiX3 hown hE.1 hP 0 rfl rfl 0 (by decide) f12 (fun _ h9 => h9) rfl dX3_usefulShare_12 ?_
  refine va_get (D := g.1) (ci := 1) (v := .ref (ah 3)) (C := RX1) (T := TX1) (N := 12) hx hb hts hiX1 hown hE.1 hP 1 rfl rfl 2 (by decide) f146 (fun _ h9 => h9) rfl dX3_usefulShare_15 ?_
  refine lv_iconst (v := (nI 1)) hx hb dX3_usefulShare_18 (by decide) ?_
  refine k_iald (f := (hC h)) hx hb hE hP 4 rfl 1 rfl (by decide) (by decide) dX3_usefulShare_19 ?_
  refine lv_iadd hx hb dX3_usefulShare_20 ?_
  refine lv_istore_n (lv' := [(2, .int (((hC h) 0) + ((hC h) 1))), (1, .int ((hC h) 0)), (0, .ref u)]) hx hb dX3_usefulShare_21 rfl hl (by decide) rfl (fun ls hl => ?_)
  refine lv_iload_n hx hb dX3_usefulShare_22 rfl (lv_at hl 0 rfl) ?_
  refine lv_if_ne (tgt := 28) hx hb dX3_usefulShare_23 (by decide) (fun c1 => ?_) (fun c1 => ?_)
  ·
    refine lv_iload_n hx hb dX3_usefulShare_28 rfl (lv_at hl 1 rfl) ?_
    refine lv_i2d hx hb dX3_usefulShare_29 ?_
    refine lv_iload_n hx hb dX3_usefulShare_30 rfl (lv_at hl 0 rfl) ?_
    refine lv_i2d hx hb dX3_usefulShare_31 ?_
    refine lv_ddiv hx hb dX3_usefulShare_32 (dSh_n64 ‹_›) ?_
    have hP : va_P g.1 vwCl ((wU u (ah 0) (a0 0) (at9 0)) ++ ((wH g ah h) ++ ((wT g at9 (sg, (nI n))) ++ ((wK0 g a0 ak ((nI od), (nI sz))) ++ (wHs g ak hs 6))))) _ := hP
    have hD : va_D A ((wU u (ah 0) (a0 0) (at9 0)) ++ ((wH g ah h) ++ ((wT g at9 (sg, (nI n))) ++ ((wK0 g a0 ak ((nI od), (nI sz))) ++ (wHs g ak hs 6))))) := hD
    exact k_dret hx hb hr hlocks (if_neg c1).symm hP hD hS (Nat.le_of_ble_eq_true rfl) (Nat.le_of_ble_eq_true rfl) dX3_usefulShare_33
  ·
    refine lv_dconst1 hx hb dX3_usefulShare_26 ?_
    have hP : va_P g.1 vwCl ((wU u (ah 0) (a0 0) (at9 0)) ++ ((wH g ah h) ++ ((wT g at9 (sg, (nI n))) ++ ((wK0 g a0 ak ((nI od), (nI sz))) ++ (wHs g ak hs 6))))) _ := hP
    have hD : va_D A ((wU u (ah 0) (a0 0) (at9 0)) ++ ((wH g ah h) ++ ((wT g at9 (sg, (nI n))) ++ ((wK0 g a0 ak ((nI od), (nI sz))) ++ (wHs g ak hs 6))))) := hD
    exact k_dret hx hb hr hlocks (if_pos c1).symm hP hD hS (Nat.le_of_ble_eq_true rfl) (Nat.le_of_ble_eq_true rfl) dX3_usefulShare_27
end
section
/-! new objects -/
def ad2 (x0 x1 : Nat) : Nat → Nat
  | 0 => x0
  | _ => x1
def ad4 (x0 x1 x2 x3 : Nat) : Nat → Nat
  | 0 => x0
  | 1 => x1
  | 2 => x2
  | _ => x3
def ad6 (x0 x1 x2 x3 x4 x5 : Nat) : Nat → Nat
  | 0 => x0
  | 1 => x1
  | 2 => x2
  | 3 => x3
  | 4 => x4
  | _ => x5
def ak6 (x0 x1 x2 x3 x4 x5 : Nat → Nat) : Nat → Nat → Nat
  | 0 => x0
  | 1 => x1
  | 2 => x2
  | 3 => x3
  | 4 => x4
  | _ => x5
abbrev z0 : Nat → Int32 := fun _ => nI 0
abbrev raw0 : List Value := [.null, .int (nI 0)]
abbrev raw1 : List Value := [.null, .null, .null, .int (nI 0), .int (nI 0), .int (nI 0), .int (nI 0), .int (nI 0), .int (nI 0), .int (nI 0), .int (nI 0), .int (nI 0)]
abbrev raw2 : List Value := [.null, .int (nI 0), .int (nI 0)]
abbrev raw3 : List Value := [.null, .null, .null]
abbrev raw4 : List Value := [.int (nI 0), .null, .null, .null, .int (nI 0), .null, .int (nI 0), .int (nI 0), .int (nI 0), .null, .int (nI 0), .long 0]
abbrev H0 : HSt := (z0, z0, z0, nI 0, nI 0, nI 0, nI 0, nI 20, nI 3, nI 10, nI 0, nI 0)
abbrev M0 : MSt := (nI 0, upd (upd (upd z0 0 (nI 20)) 1 (nI 3)) 2 (nI 10), z0, z0, nI 0, z0, nI 0, nI 0, nI 0, z0, nI 0, 0)
abbrev T0 : TSt := (z0, nI 0)
abbrev K0 : KSt := (nI 0, nI 0)
theorem va_RA_inj {U : State} {cA cB : ClassId} {ty : FieldType} (h1 : va_RA U cA ty) (h2 : va_RA U cB ty) : cA = cB := by
  cases ty with
  | object C =>
    obtain ⟨_, _, _, _, _, e1⟩ := h1
    obtain ⟨_, _, _, _, _, e2⟩ := h2
    exact Option.some.inj (e1.symm.trans e2)
  | _ => exact Option.some.inj (Eq.trans (Eq.symm h1) h2)
section KCt
variable {p : Program} {l : Launch} {e : Env} {R : Room} {s : State} {m : MethodId} {args : Array Value} {below : List Frame} {meth : Method} {c : Code} {H : Heap} {locs : List Loc} {cells slots : Nat} {Q : State → Prop}
variable {cc : ByteArray} {pc : Nat} {ls : Array Slot} {rest : List Value} {g : kG} {A : Nat → Prop} {ws : va_W}
theorem k_newi (hexec : p.tables.exec = Jvm.exec) (hb : c.code = cc) (harr : (Cond.arrayClass .int).before args s = true) (hE : kE g s) (hP : va_P g.1 vwCl ws H) (hD : va_D A ws) (hS : va_S A s.heap H locs) (hA : ∀ q : Nat, s.heap.size ≤ q → A q) (N : Nat) (hN : N < 2 ^ 31) (hbytes : N * componentBytes .int ≤ 536870912) (hcells : cells + 1 ≤ R.cells) (hslots : slots + N ≤ R.slots) (hdg : decode cc pc = .ok (.newarray .int, 2))
    (kk : ∀ (q : Nat) (H1 : Heap), va_P g.1 vwCl (ws ++ [(q, .inl (g.2.1, N, .inl z0))]) H1 → va_D A (ws ++ [(q, .inl (g.2.1, N, .inl z0))]) → va_S A s.heap H1 locs → W p l e R s m args below meth c H1 locs (cells + 1) (slots + N) Q (F0 m (pc + 2) ls (.ref q :: rest))) : W p l e R s m args below meth c H locs cells slots Q (F0 m pc ls (.int (nI N) :: rest)) := by
  refine va_newa (atype := .int) (ty := .int) hexec hb harr rfl hE.1 hP hD hS hA (N' := N) (a0 := (N, .inl z0)) (fun cA => vp_cell_i cA N z0) (nI_pos hN) (nI_clamp hN) hbytes hcells hslots hdg (fun q cA H1 hK1 hP1 hD1 hS1 => ?_)
  have e1 : cA = g.2.1 := va_RA_inj (hK1.2 4 (cA, .int) rfl).2 (hE.1.2 0 (g.2.1, .int) rfl).2
  subst e1
  exact kk q H1 hP1 hD1 hS1
theorem k_newc (hexec : p.tables.exec = Jvm.exec) (hb : c.code = cc) (harr : (Cond.arrayClass .char).before args s = true) (hE : kE g s) (hP : va_P g.1 vwCl ws H) (hD : va_D A ws) (hS : va_S A s.heap H locs) (hA : ∀ q : Nat, s.heap.size ≤ q → A q) (N : Nat) (hN : N < 2 ^ 31) (hbytes : N * componentBytes .char ≤ 536870912) (hcells : cells + 1 ≤ R.cells) (hslots : slots + N ≤ R.slots) (hdg : decode cc pc = .ok (.newarray .char, 2))
    (kk : ∀ (q : Nat) (H1 : Heap), va_P g.1 vwCl (ws ++ [(q, .inl (g.2.2.1, N, .inl z0))]) H1 → va_D A (ws ++ [(q, .inl (g.2.2.1, N, .inl z0))]) → va_S A s.heap H1 locs → W p l e R s m args below meth c H1 locs (cells + 1) (slots + N) Q (F0 m (pc + 2) ls (.ref q :: rest))) : W p l e R s m args below meth c H locs cells slots Q (F0 m pc ls (.int (nI N) :: rest)) := by
  refine va_newa (atype := .char) (ty := .char) hexec hb harr rfl hE.1 hP hD hS hA (N' := N) (a0 := (N, .inl z0)) (fun cA => vp_cell_i cA N z0) (nI_pos hN) (nI_clamp hN) hbytes hcells hslots hdg (fun q cA H1 hK1 hP1 hD1 hS1 => ?_)
  have e1 : cA = g.2.2.1 := va_RA_inj (hK1.2 4 (cA, .char) rfl).2 (hE.1.2 1 (g.2.2.1, .char) rfl).2
  subst e1
  exact kk q H1 hP1 hD1 hS1
theorem k_newq (hexec : p.tables.exec = Jvm.exec) (hb : c.code = cc) {own : String} {index : Nat} (hown : s.vm.findClass own = some m.cls) (hclink : (Cond.classLink own index RX1).before args s = true) (hE : kE g s) (hP : va_P g.1 vwCl ws H) (hD : va_D A ws) (hS : va_S A s.heap H locs) (hA : ∀ q : Nat, s.heap.size ≤ q → A q) (N : Nat) (hN : N < 2 ^ 31) (hbytes : N * 4 ≤ 536870912) (hcells : cells + 1 ≤ R.cells) (hslots : slots + N ≤ R.slots) (hdg : decode cc pc = .ok (.anewarray index, 3))
    (kk : ∀ (q : Nat) (H1 : Heap), va_P g.1 vwCl (ws ++ [(q, .inl (g.2.2.2.1, N, .inr (.inr (.inr (.inr (fun _ => none))))))]) H1 → va_D A (ws ++ [(q, .inl (g.2.2.2.1, N, .inr (.inr (.inr (.inr (fun _ => none))))))]) → va_S A s.heap H1 locs → W p l e R s m args below meth c H1 locs (cells + 1) (slots + N) Q (F0 m (pc + 3) ls (.ref q :: rest))) : W p l e R s m args below meth c H locs cells slots Q (F0 m pc ls (.int (nI N) :: rest)) := by
  refine va_newq hexec hb hown hclink hE.2.2 hE.1 hP hD hS hA (N' := N) (nI_pos hN) (nI_clamp hN) hbytes hcells hslots hdg (fun q cA H1 hK1 hP1 hD1 hS1 => ?_)
  have e1 : cA = g.2.2.2.1 := va_RA_inj (hK1.2 4 (cA, .object RX1) rfl).2 (hE.1.2 2 (g.2.2.2.1, .object RX1) rfl).2
  subst e1
  exact kk q H1 hP1 hD1 hS1
theorem k_astq (hexec : p.tables.exec = Jvm.exec) (hb : c.code = cc) (hE : kE g s) (hP : va_P g.1 vwCl ws H) (hD : va_D A ws) (hS : va_S A s.heap H locs) (q0 qk : Nat) {a n v : Nat} {vs : List Value} {f : Nat → Option Nat} (ha : ws[q0]? = some (a, .inl (g.2.2.2.1, n, .inr (.inr (.inr (.inr f)))))) (hv : ws[qk]? = some (v, .inr (1, vs))) (k : Nat) (hk : k < n) (hn : n < 2 ^ 31) (hdg : decode cc pc = .ok (.aastore, 1))
    (kk : ∀ (H1 : Heap) (locs1 : List Loc), va_P g.1 vwCl (ws.set q0 (a, .inl (g.2.2.2.1, n, .inr (.inr (.inr (.inr (va_up f k (some v)))))))) H1 → va_D A (ws.set q0 (a, .inl (g.2.2.2.1, n, .inr (.inr (.inr (.inr (va_up f k (some v)))))))) → va_S A s.heap H1 locs1 → W p l e R s m args below meth c H1 locs1 cells slots Q (F0 m (pc + 1) ls rest)) : W p l e R s m args below meth c H locs cells slots Q (F0 m pc ls (.ref v :: .int (nI k) :: .ref a :: rest)) := by
  refine va_astq hexec hb hE.1 hP hD hS q0 2 qk 1 ha rfl hv rfl (vp_in_nI hk hn) hdg ?_
  rw [nI_clamp (Nat.lt_trans hk hn)]
  exact kk
end KCt
theorem k_PQ_ext {D : va_G} {cl : List vw_C} {p a n : Nat} {cA : ClassId} {ws ws2 : va_W} {f f2 : Nat → Option Nat} {H : Heap} (hq : ws[p]? = some (a, .inl (cA, n, .inr (.inr (.inr (.inr f)))))) (hw : ws.set p (a, .inl (cA, n, .inr (.inr (.inr (.inr f2))))) = ws2) (hf : ∀ k, k < n → f k = f2 k) (hP : va_P D cl ws H) : va_P D cl ws2 H := by
  subst hw
  have hp : p < ws.length := by
    by_cases c : p < ws.length
    · exact c
    · rw [List.getElem?_eq_none (by omega)] at hq; cases hq
  intro k q hq2
  by_cases hk : k = p
  · subst hk
    rw [List.getElem?_set_self hp] at hq2
    cases hq2
    have e : arrV cA n (fun j => va_rf (f j)) = arrV cA n (fun j => va_rf (f2 j)) := by
      have h9 : (fun j : Fin n => (fun j => va_rf (f j)) j.val) = (fun j : Fin n => (fun j => va_rf (f2 j)) j.val) := funext fun j => congrArg va_rf (hf j.val j.isLt)
      exact congrArg (fun z => ({ cls := cA, slots := Array.ofFn z, vm := .none } : Cell)) h9
    show H[a]? = some (arrV cA n (fun j => va_rf (f2 j)))
    rw [← e]
    exact hP k _ hq
  · rw [List.getElem?_set_ne (Ne.symm hk)] at hq2
    exact hP k q hq2
theorem k_pm3 {α : Type} (x B R : List α) : (x ++ (B ++ R)).Perm (B ++ (x ++ R)) := by
  classical exact List.perm_iff_count.mpr (fun y => by simp only [List.count_append]; omega)
theorem k_pm3r {α : Type} (B R x : List α) : (B ++ (R ++ x)).Perm (x ++ (B ++ R)) := by
  classical exact List.perm_iff_count.mpr (fun y => by simp only [List.count_append]; omega)
theorem k_pmX {α : Type} (o h k t : List α) : (o ++ (h ++ (k ++ t))).Perm (o ++ (h ++ (t ++ k))) := by
  classical exact List.perm_iff_count.mpr (fun y => by simp only [List.count_append]; omega)
end
section
set_option maxHeartbeats 4000000 in
set_option maxRecDepth 100000 in
theorem c_X0_init (l : Launch) (g : kG) (b : Nat) : KN l yX0_init wsX0_init ({ frames := 1, cells := 1, slots := 60, locals := 20 }) g [.ref b] [(b, .inr (0, raw0))] (fun u : Nat → Nat => u 0 = b) (fun u => wT g u T0) 1 60 := by
  refine k_begin (cc := cX0_init) (maxL := 1) (ret := none) (Qc := fun A => kQn g (fun u : Nat → Nat => u 0 = b) (fun u => wT g u T0) A) (by decide) rfl (Nat.le_of_ble_eq_true rfl) ?_
  intro p e s m below meth c A ls hF hr hlocks hin hE hP hD hS hA hl
  obtain ⟨hx, hb, hml, hown, hts⟩ := id hF
  have hown : s.vm.findClass RX0 = some m.cls := hown
  have hl : lv_has ls 1 [(0, .ref b)] := hl
  have hP : va_P g.1 vwCl [(b, .inr (0, [.null, .int (nI 0)]))] _ := hP
  have hD : va_D A [(b, .inr (0, [.null, .int (nI 0)]))] := hD
  have hiX0 : ∀ w ∈ wsX00, w ∈ wsX0_init := fun _ h => List.mem_cons_of_mem _ (List.mem_append_right _ (h))
  have oil : (Cond.methodLink RX0 3 objectInit).before _ s = true := hts _ (List.mem_of_getElem? (i := 1) rfl)
  have oii : (Cond.instanceMethod objectInit).before _ s = true := hts _ (List.mem_of_getElem? (i := 2) rfl)
  have ac_char : (Cond.arrayClass .char).before _ s = true := hts _ (List.mem_of_getElem? (i := 4) rfl)
  have f9 : (Cond.fieldLink RX0 9 "ConcertUsher$EventText" "signs" "[C").before _ s = true := hts _ (List.mem_of_getElem? (i := 5) rfl)
  have f15 : (Cond.fieldLink RX0 15 "ConcertUsher$EventText" "length" "I").before _ s = true := hts _ (List.mem_of_getElem? (i := 6) rfl)
  refine lv_aload_n hx hb dX0_init_0 rfl (lv_at hl 0 rfl) ?_
  refine W.objInit hx hb hown oil oii (hts _ (List.mem_of_getElem? (i := 3) rfl)) rfl (by rw [hml]; exact hl.1) rfl dX0_init_1 (Nat.le_of_ble_eq_true rfl) (Nat.le_of_ble_eq_true rfl) ?_
  refine W.eq (g2 := F0 m 4 ls []) rfl ?_
  refine lv_aload_n hx hb dX0_init_4 rfl (lv_at hl 0 rfl) ?_
  refine lv_bipush (v := (nI 60)) hx hb dX0_init_5 (by decide) ?_
  refine k_newc hx hb ac_char hE hP hD hS hA 60 (by decide) (by decide) (Nat.le_of_ble_eq_true rfl) (Nat.le_of_ble_eq_true rfl) dX0_init_7 (fun q1 H hP hD hS => ?_)
  have hP : va_P g.1 vwCl ([(b, .inr (0, [.null, .int (nI 0)]))] ++ [(q1, .inl (g.2.2.1, 60, .inl z0))]) _ := hP
  have hD : va_D A ([(b, .inr (0, [.null, .int (nI 0)]))] ++ [(q1, .inl (g.2.2.1, 60, .inl z0))]) := hD
  refine va_putF (D := g.1) (ci := 0) (v := .ref q1) (ty := tyX0 0) (C := RX0) (T := TX0) (N := 2) hx hb hts hiX0 tyX0 tyX0_ok nmX0 hown hE.1 hP hD hS 0 rfl rfl 0 (by decide) f9 (fun _ h9 => h9) rfl hin rfl (tyX0_ok 0 (by decide)) rfl rfl (Nat.le_of_ble_eq_true rfl) dX0_init_9 (fun H locs hP hD hS => ?_)
  have hP : va_P g.1 vwCl ([(b, .inr (0, [.ref q1, .int (nI 0)]))] ++ [(q1, .inl (g.2.2.1, 60, .inl z0))]) _ := hP
  have hD : va_D A ([(b, .inr (0, [.ref q1, .int (nI 0)]))] ++ [(q1, .inl (g.2.2.1, 60, .inl z0))]) := hD
  refine lv_aload_n hx hb dX0_init_12 rfl (lv_at hl 0 rfl) ?_
  refine lv_iconst (v := (nI 0)) hx hb dX0_init_13 (by decide) ?_
  refine va_put (D := g.1) (ci := 0) (v := .int (nI 0)) (ty := tyX0 1) (C := RX0) (T := TX0) (N := 2) hx hb hts hiX0 tyX0 tyX0_ok nmX0 hown hE.1 hP hD hS 0 rfl rfl 1 (by decide) f15 (fun _ h9 => h9) rfl (tyX0_ok 1 (by decide)) rfl rfl (Nat.le_of_ble_eq_true rfl) dX0_init_14 (fun H locs hP hD hS => ?_)
  have hP : va_P g.1 vwCl ([(b, .inr (0, [.ref q1, .int (nI 0)]))] ++ [(q1, .inl (g.2.2.1, 60, .inl z0))]) _ := hP
  have hD : va_D A ([(b, .inr (0, [.ref q1, .int (nI 0)]))] ++ [(q1, .inl (g.2.2.1, 60, .inl z0))]) := hD
  exact k_nret (ad2 b q1) hx hb hr hlocks rfl hP hD hS (Nat.le_of_ble_eq_true rfl) (Nat.le_of_ble_eq_true rfl) dX0_init_17
end
section
set_option maxHeartbeats 4000000 in
set_option maxRecDepth 100000 in
theorem c_X1_init (l : Launch) (g : kG) (b : Nat) : KN l yX1_init wsX1_init ({ frames := 1, cells := 3, slots := 102, locals := 20 }) g [.ref b] [(b, .inr (1, raw1))] (fun u : Nat → Nat => u 0 = b) (fun u => wH g u H0) 3 102 := by
  refine k_begin (cc := cX1_init) (maxL := 1) (ret := none) (Qc := fun A => kQn g (fun u : Nat → Nat => u 0 = b) (fun u => wH g u H0) A) (by decide) rfl (Nat.le_of_ble_eq_true rfl) ?_
  intro p e s m below meth c A ls hF hr hlocks hin hE hP hD hS hA hl
  obtain ⟨hx, hb, hml, hown, hts⟩ := id hF
  have hown : s.vm.findClass RX1 = some m.cls := hown
  have hl : lv_has ls 1 [(0, .ref b)] := hl
  have hP : va_P g.1 vwCl [(b, .inr (1, [.null, .null, .null, .int (nI 0), .int (nI 0), .int (nI 0), .int (nI 0), .int (nI 0), .int (nI 0), .int (nI 0), .int (nI 0), .int (nI 0)]))] _ := hP
  have hD : va_D A [(b, .inr (1, [.null, .null, .null, .int (nI 0), .int (nI 0), .int (nI 0), .int (nI 0), .int (nI 0), .int (nI 0), .int (nI 0), .int (nI 0), .int (nI 0)]))] := hD
  have hiX1 : ∀ w ∈ wsX10, w ∈ wsX1_init := fun _ h => List.mem_cons_of_mem _ (List.mem_append_right _ (h))
  have oil : (Cond.methodLink RX1 3 objectInit).before _ s = true := hts _ (List.mem_of_getElem? (i := 1) rfl)
  have oii : (Cond.instanceMethod objectInit).before _ s = true := hts _ (List.mem_of_getElem? (i := 2) rfl)
  have ac_int : (Cond.arrayClass .int).before _ s = true := hts _ (List.mem_of_getElem? (i := 4) rfl)
  have f9 : (Cond.fieldLink RX1 9 "ConcertUsher$Hall" "listeners" "[I").before _ s = true := hts _ (List.mem_of_getElem? (i := 5) rfl)
  have f15 : (Cond.fieldLink RX1 15 "ConcertUsher$Hall" "rests" "[I").before _ s = true := hts _ (List.mem_of_getElem? (i := 6) rfl)
  have f18 : (Cond.fieldLink RX1 18 "ConcertUsher$Hall" "counts" "[I").before _ s = true := hts _ (List.mem_of_getElem? (i := 7) rfl)
  have f21 : (Cond.fieldLink RX1 21 "ConcertUsher$Hall" "openRows" "I").before _ s = true := hts _ (List.mem_of_getElem? (i := 8) rfl)
  have f25 : (Cond.fieldLink RX1 25 "ConcertUsher$Hall" "isQuick" "Z").before _ s = true := hts _ (List.mem_of_getElem? (i := 9) rfl)
  have f29 : (Cond.fieldLink RX1 29 "ConcertUsher$Hall" "isFirstPresent" "Z").before _ s = true := hts _ (List.mem_of_getElem? (i := 10) rfl)
  have f32 : (Cond.fieldLink RX1 32 "ConcertUsher$Hall" "isSecondPresent" "Z").before _ s = true := hts _ (List.mem_of_getElem? (i := 11) rfl)
  have f35 : (Cond.fieldLink RX1 35 "ConcertUsher$Hall" "fading" "I").before _ s = true := hts _ (List.mem_of_getElem? (i := 12) rfl)
  have f38 : (Cond.fieldLink RX1 38 "ConcertUsher$Hall" "patience" "I").before _ s = true := hts _ (List.mem_of_getElem? (i := 13) rfl)
  have f41 : (Cond.fieldLink RX1 41 "ConcertUsher$Hall" "asking" "I").before _ s = true := hts _ (List.mem_of_getElem? (i := 14) rfl)
  have f44 : (Cond.fieldLink RX1 44 "ConcertUsher$Hall" "minutes" "I").before _ s = true := hts _ (List.mem_of_getElem? (i := 15) rfl)
  have f47 : (Cond.fieldLink RX1 47 "ConcertUsher$Hall" "sinceQuestion" "I").before _ s = true := hts _ (List.mem_of_getElem? (i := 16) rfl)
  refine lv_aload_n hx hb dX1_init_0 rfl (lv_at hl 0 rfl) ?_
  refine W.objInit hx hb hown oil oii (hts _ (List.mem_of_getElem? (i := 3) rfl)) rfl (by rw [hml]; exact hl.1) rfl dX1_init_1 (Nat.le_of_ble_eq_true rfl) (Nat.le_of_ble_eq_true rfl) ?_
  refine W.eq (g2 := F0 m 4 ls []) rfl ?_
  refine lv_aload_n hx hb dX1_init_4 rfl (lv_at hl 0 rfl) ?_
  refine lv_bipush (v := (nI 48)) hx hb dX1_init_5 (by decide) ?_
  refine k_newi hx hb ac_int hE hP hD hS hA 48 (by decide) (by decide) (Nat.le_of_ble_eq_true rfl) (Nat.le_of_ble_eq_true rfl) dX1_init_7 (fun q1 H hP hD hS => ?_)
  have hP : va_P g.1 vwCl ([(b, .inr (1, [.null, .null, .null, .int (nI 0), .int (nI 0), .int (nI 0), .int (nI 0), .int (nI 0), .int (nI 0), .int (nI 0), .int (nI 0), .int (nI 0)]))] ++ [(q1, .inl (g.2.1, 48, .inl z0))]) _ := hP
  have hD : va_D A ([(b, .inr (1, [.null, .null, .null, .int (nI 0), .int (nI 0), .int (nI 0), .int (nI 0), .int (nI 0), .int (nI 0), .int (nI 0), .int (nI 0), .int (nI 0)]))] ++ [(q1, .inl (g.2.1, 48, .inl z0))]) := hD
  refine va_putF (D := g.1) (ci := 1) (v := .ref q1) (ty := tyX1 0) (C := RX1) (T := TX1) (N := 12) hx hb hts hiX1 tyX1 tyX1_ok nmX1 hown hE.1 hP hD hS 0 rfl rfl 0 (by decide) f9 (fun _ h9 => h9) rfl hin rfl (tyX1_ok 0 (by decide)) rfl rfl (Nat.le_of_ble_eq_true rfl) dX1_init_9 (fun H locs hP hD hS => ?_)
  have hP : va_P g.1 vwCl ([(b, .inr (1, [.ref q1, .null, .null, .int (nI 0), .int (nI 0), .int (nI 0), .int (nI 0), .int (nI 0), .int (nI 0), .int (nI 0), .int (nI 0), .int (nI 0)]))] ++ [(q1, .inl (g.2.1, 48, .inl z0))]) _ := hP
  have hD : va_D A ([(b, .inr (1, [.ref q1, .null, .null, .int (nI 0), .int (nI 0), .int (nI 0), .int (nI 0), .int (nI 0), .int (nI 0), .int (nI 0), .int (nI 0), .int (nI 0)]))] ++ [(q1, .inl (g.2.1, 48, .inl z0))]) := hD
  refine lv_aload_n hx hb dX1_init_12 rfl (lv_at hl 0 rfl) ?_
  refine lv_bipush (v := (nI 48)) hx hb dX1_init_13 (by decide) ?_
  refine k_newi hx hb ac_int hE hP hD hS hA 48 (by decide) (by decide) (Nat.le_of_ble_eq_true rfl) (Nat.le_of_ble_eq_true rfl) dX1_init_15 (fun q2 H hP hD hS => ?_)
  have hP : va_P g.1 vwCl ([(b, .inr (1, [.ref q1, .null, .null, .int (nI 0), .int (nI 0), .int (nI 0), .int (nI 0), .int (nI 0), .int (nI 0), .int (nI 0), .int (nI 0), .int (nI 0)]))] ++ ([(q1, .inl (g.2.1, 48, .inl z0))] ++ [(q2, .inl (g.2.1, 48, .inl z0))])) _ := hP
  have hD : va_D A ([(b, .inr (1, [.ref q1, .null, .null, .int (nI 0), .int (nI 0), .int (nI 0), .int (nI 0), .int (nI 0), .int (nI 0), .int (nI 0), .int (nI 0), .int (nI 0)]))] ++ ([(q1, .inl (g.2.1, 48, .inl z0))] ++ [(q2, .inl (g.2.1, 48, .inl z0))])) := hD
  refine va_putF (D := g.1) (ci := 1) (v := .ref q2) (ty := tyX1 1) (C := RX1) (T := TX1) (N := 12) hx hb hts hiX1 tyX1 tyX1_ok nmX1 hown hE.1 hP hD hS 0 rfl rfl 1 (by decide) f15 (fun _ h9 => h9) rfl hin rfl (tyX1_ok 1 (by decide)) rfl rfl (Nat.le_of_ble_eq_true rfl) dX1_init_17 (fun H locs hP hD hS => ?_)
  have hP : va_P g.1 vwCl ([(b, .inr (1, [.ref q1, .ref q2, .null, .int (nI 0), .int (nI 0), .int (nI 0), .int (nI 0), .int (nI 0), .int (nI 0), .int (nI 0), .int (nI 0), .int (nI 0)]))] ++ ([(q1, .inl (g.2.1, 48, .inl z0))] ++ [(q2, .inl (g.2.1, 48, .inl z0))])) _ := hP
  have hD : va_D A ([(b, .inr (1, [.ref q1, .ref q2, .null, .int (nI 0), .int (nI 0), .int (nI 0), .int (nI 0), .int (nI 0), .int (nI 0), .int (nI 0), .int (nI 0), .int (nI 0)]))] ++ ([(q1, .inl (g.2.1, 48, .inl z0))] ++ [(q2, .inl (g.2.1, 48, .inl z0))])) := hD
  refine lv_aload_n hx hb dX1_init_20 rfl (lv_at hl 0 rfl) ?_
  refine lv_bipush (v := (nI 6)) hx hb dX1_init_21 (by decide) ?_
  refine k_newi hx hb ac_int hE hP hD hS hA 6 (by decide) (by decide) (Nat.le_of_ble_eq_true rfl) (Nat.le_of_ble_eq_true rfl) dX1_init_23 (fun q3 H hP hD hS => ?_)
  have hP : va_P g.1 vwCl ([(b, .inr (1, [.ref q1, .ref q2, .null, .int (nI 0), .int (nI 0), .int (nI 0), .int (nI 0), .int (nI 0), .int (nI 0), .int (nI 0), .int (nI 0), .int (nI 0)]))] ++ ([(q1, .inl (g.2.1, 48, .inl z0))] ++ ([(q2, .inl (g.2.1, 48, .inl z0))] ++ [(q3, .inl (g.2.1, 6, .inl z0))]))) _ := hP
  have hD : va_D A ([(b, .inr (1, [.ref q1, .ref q2, .null, .int (nI 0), .int (nI 0), .int (nI 0), .int (nI 0), .int (nI 0), .int (nI 0), .int (nI 0), .int (nI 0), .int (nI 0)]))] ++ ([(q1, .inl (g.2.1, 48, .inl z0))] ++ ([(q2, .inl (g.2.1, 48, .inl z0))] ++ [(q3, .inl (g.2.1, 6, .inl z0))]))) := hD
  refine va_putF (D := g.1) (ci := 1) (v := .ref q3) (ty := tyX1 2) (C := RX1) (T := TX1) (N := 12) hx hb hts hiX1 tyX1 tyX1_ok nmX1 hown hE.1 hP hD hS 0 rfl rfl 2 (by decide) f18 (fun _ h9 => h9) rfl hin rfl (tyX1_ok 2 (by decide)) rfl rfl (Nat.le_of_ble_eq_true rfl) dX1_init_25 (fun H locs hP hD hS => ?_)
  have hP : va_P g.1 vwCl ([(b, .inr (1, [.ref q1, .ref q2, .ref q3, .int (nI 0), .int (nI 0), .int (nI 0), .int (nI 0), .int (nI 0), .int (nI 0), .int (nI 0), .int (nI 0), .int (nI 0)]))] ++ ([(q1, .inl (g.2.1, 48, .inl z0))] ++ ([(q2, .inl (g.2.1, 48, .inl z0))] ++ [(q3, .inl (g.2.1, 6, .inl z0))]))) _ := hP
  have hD : va_D A ([(b, .inr (1, [.ref q1, .ref q2, .ref q3, .int (nI 0), .int (nI 0), .int (nI 0), .int (nI 0), .int (nI 0), .int (nI 0), .int (nI 0), .int (nI 0), .int (nI 0)]))] ++ ([(q1, .inl (g.2.1, 48, .inl z0))] ++ ([(q2, .inl (g.2.1, 48, .inl z0))] ++ [(q3, .inl (g.2.1, 6, .inl z0))]))) := hD
  refine lv_aload_n hx hb dX1_init_28 rfl (lv_at hl 0 rfl) ?_
  refine lv_iconst (v := (nI 0)) hx hb dX1_init_29 (by decide) ?_
  refine va_put (D := g.1) (ci := 1) (v := .int (nI 0)) (ty := tyX1 3) (C := RX1) (T := TX1) (N := 12) hx hb hts hiX1 tyX1 tyX1_ok nmX1 hown hE.1 hP hD hS 0 rfl rfl 3 (by decide) f21 (fun _ h9 => h9) rfl (tyX1_ok 3 (by decide)) rfl rfl (Nat.le_of_ble_eq_true rfl) dX1_init_30 (fun H locs hP hD hS => ?_)
  have hP : va_P g.1 vwCl ([(b, .inr (1, [.ref q1, .ref q2, .ref q3, .int (nI 0), .int (nI 0), .int (nI 0), .int (nI 0), .int (nI 0), .int (nI 0), .int (nI 0), .int (nI 0), .int (nI 0)]))] ++ ([(q1, .inl (g.2.1, 48, .inl z0))] ++ ([(q2, .inl (g.2.1, 48, .inl z0))] ++ [(q3, .inl (g.2.1, 6, .inl z0))]))) _ := hP
  have hD : va_D A ([(b, .inr (1, [.ref q1, .ref q2, .ref q3, .int (nI 0), .int (nI 0), .int (nI 0), .int (nI 0), .int (nI 0), .int (nI 0), .int (nI 0), .int (nI 0), .int (nI 0)]))] ++ ([(q1, .inl (g.2.1, 48, .inl z0))] ++ ([(q2, .inl (g.2.1, 48, .inl z0))] ++ [(q3, .inl (g.2.1, 6, .inl z0))]))) := hD
  refine lv_aload_n hx hb dX1_init_33 rfl (lv_at hl 0 rfl) ?_
  refine lv_iconst (v := (nI 0)) hx hb dX1_init_34 (by decide) ?_
  refine va_put (D := g.1) (ci := 1) (v := .int (nI 0)) (ty := tyX1 4) (C := RX1) (T := TX1) (N := 12) hx hb hts hiX1 tyX1 tyX1_ok nmX1 hown hE.1 hP hD hS 0 rfl rfl 4 (by decide) f25 (fun _ h9 => h9) rfl (tyX1_ok 4 (by decide)) rfl rfl (Nat.le_of_ble_eq_true rfl) dX1_init_35 (fun H locs hP hD hS => ?_)
  have hP : va_P g.1 vwCl ([(b, .inr (1, [.ref q1, .ref q2, .ref q3, .int (nI 0), .int (nI 0), .int (nI 0), .int (nI 0), .int (nI 0), .int (nI 0), .int (nI 0), .int (nI 0), .int (nI 0)]))] ++ ([(q1, .inl (g.2.1, 48, .inl z0))] ++ ([(q2, .inl (g.2.1, 48, .inl z0))] ++ [(q3, .inl (g.2.1, 6, .inl z0))]))) _ := hP
  have hD : va_D A ([(b, .inr (1, [.ref q1, .ref q2, .ref q3, .int (nI 0), .int (nI 0), .int (nI 0), .int (nI 0), .int (nI 0), .int (nI 0), .int (nI 0), .int (nI 0), .int (nI 0)]))] ++ ([(q1, .inl (g.2.1, 48, .inl z0))] ++ ([(q2, .inl (g.2.1, 48, .inl z0))] ++ [(q3, .inl (g.2.1, 6, .inl z0))]))) := hD
  refine lv_aload_n hx hb dX1_init_38 rfl (lv_at hl 0 rfl) ?_
  refine lv_iconst (v := (nI 0)) hx hb dX1_init_39 (by decide) ?_
  refine va_put (D := g.1) (ci := 1) (v := .int (nI 0)) (ty := tyX1 5) (C := RX1) (T := TX1) (N := 12) hx hb hts hiX1 tyX1 tyX1_ok nmX1 hown hE.1 hP hD hS 0 rfl rfl 5 (by decide) f29 (fun _ h9 => h9) rfl (tyX1_ok 5 (by decide)) rfl rfl (Nat.le_of_ble_eq_true rfl) dX1_init_40 (fun H locs hP hD hS => ?_)
  have hP : va_P g.1 vwCl ([(b, .inr (1, [.ref q1, .ref q2, .ref q3, .int (nI 0), .int (nI 0), .int (nI 0), .int (nI 0), .int (nI 0), .int (nI 0), .int (nI 0), .int (nI 0), .int (nI 0)]))] ++ ([(q1, .inl (g.2.1, 48, .inl z0))] ++ ([(q2, .inl (g.2.1, 48, .inl z0))] ++ [(q3, .inl (g.2.1, 6, .inl z0))]))) _ := hP
  have hD : va_D A ([(b, .inr (1, [.ref q1, .ref q2, .ref q3, .int (nI 0), .int (nI 0), .int (nI 0), .int (nI 0), .int (nI 0), .int (nI 0), .int (nI 0), .int (nI 0), .int (nI 0)]))] ++ ([(q1, .inl (g.2.1, 48, .inl z0))] ++ ([(q2, .inl (g.2.1, 48, .inl z0))] ++ [(q3, .inl (g.2.1, 6, .inl z0))]))) := hD
  refine lv_aload_n hx hb dX1_init_43 rfl (lv_at hl 0 rfl) ?_
  refine lv_iconst (v := (nI 0)) hx hb dX1_init_44 (by decide) ?_
  refine va_put (D := g.1) (ci := 1) (v := .int (nI 0)) (ty := tyX1 6) (C := RX1) (T := TX1) (N := 12) hx hb hts hiX1 tyX1 tyX1_ok nmX1 hown hE.1 hP hD hS 0 rfl rfl 6 (by decide) f32 (fun _ h9 => h9) rfl (tyX1_ok 6 (by decide)) rfl rfl (Nat.le_of_ble_eq_true rfl) dX1_init_45 (fun H locs hP hD hS => ?_)
  have hP : va_P g.1 vwCl ([(b, .inr (1, [.ref q1, .ref q2, .ref q3, .int (nI 0), .int (nI 0), .int (nI 0), .int (nI 0), .int (nI 0), .int (nI 0), .int (nI 0), .int (nI 0), .int (nI 0)]))] ++ ([(q1, .inl (g.2.1, 48, .inl z0))] ++ ([(q2, .inl (g.2.1, 48, .inl z0))] ++ [(q3, .inl (g.2.1, 6, .inl z0))]))) _ := hP
  have hD : va_D A ([(b, .inr (1, [.ref q1, .ref q2, .ref q3, .int (nI 0), .int (nI 0), .int (nI 0), .int (nI 0), .int (nI 0), .int (nI 0), .int (nI 0), .int (nI 0), .int (nI 0)]))] ++ ([(q1, .inl (g.2.1, 48, .inl z0))] ++ ([(q2, .inl (g.2.1, 48, .inl z0))] ++ [(q3, .inl (g.2.1, 6, .inl z0))]))) := hD
  refine lv_aload_n hx hb dX1_init_48 rfl (lv_at hl 0 rfl) ?_
  refine lv_bipush (v := (nI 20)) hx hb dX1_init_49 (by decide) ?_
  refine va_put (D := g.1) (ci := 1) (v := .int (nI 20)) (ty := tyX1 7) (C := RX1) (T := TX1) (N := 12) hx hb hts hiX1 tyX1 tyX1_ok nmX1 hown hE.1 hP hD hS 0 rfl rfl 7 (by decide) f35 (fun _ h9 => h9) rfl (tyX1_ok 7 (by decide)) rfl rfl (Nat.le_of_ble_eq_true rfl) dX1_init_51 (fun H locs hP hD hS => ?_)
  have hP : va_P g.1 vwCl ([(b, .inr (1, [.ref q1, .ref q2, .ref q3, .int (nI 0), .int (nI 0), .int (nI 0), .int (nI 0), .int (nI 20), .int (nI 0), .int (nI 0), .int (nI 0), .int (nI 0)]))] ++ ([(q1, .inl (g.2.1, 48, .inl z0))] ++ ([(q2, .inl (g.2.1, 48, .inl z0))] ++ [(q3, .inl (g.2.1, 6, .inl z0))]))) _ := hP
  have hD : va_D A ([(b, .inr (1, [.ref q1, .ref q2, .ref q3, .int (nI 0), .int (nI 0), .int (nI 0), .int (nI 0), .int (nI 20), .int (nI 0), .int (nI 0), .int (nI 0), .int (nI 0)]))] ++ ([(q1, .inl (g.2.1, 48, .inl z0))] ++ ([(q2, .inl (g.2.1, 48, .inl z0))] ++ [(q3, .inl (g.2.1, 6, .inl z0))]))) := hD
  refine lv_aload_n hx hb dX1_init_54 rfl (lv_at hl 0 rfl) ?_
  refine lv_iconst (v := (nI 3)) hx hb dX1_init_55 (by decide) ?_
  refine va_put (D := g.1) (ci := 1) (v := .int (nI 3)) (ty := tyX1 8) (C := RX1) (T := TX1) (N := 12) hx hb hts hiX1 tyX1 tyX1_ok nmX1 hown hE.1 hP hD hS 0 rfl rfl 8 (by decide) f38 (fun _ h9 => h9) rfl (tyX1_ok 8 (by decide)) rfl rfl (Nat.le_of_ble_eq_true rfl) dX1_init_56 (fun H locs hP hD hS => ?_)
  have hP : va_P g.1 vwCl ([(b, .inr (1, [.ref q1, .ref q2, .ref q3, .int (nI 0), .int (nI 0), .int (nI 0), .int (nI 0), .int (nI 20), .int (nI 3), .int (nI 0), .int (nI 0), .int (nI 0)]))] ++ ([(q1, .inl (g.2.1, 48, .inl z0))] ++ ([(q2, .inl (g.2.1, 48, .inl z0))] ++ [(q3, .inl (g.2.1, 6, .inl z0))]))) _ := hP
  have hD : va_D A ([(b, .inr (1, [.ref q1, .ref q2, .ref q3, .int (nI 0), .int (nI 0), .int (nI 0), .int (nI 0), .int (nI 20), .int (nI 3), .int (nI 0), .int (nI 0), .int (nI 0)]))] ++ ([(q1, .inl (g.2.1, 48, .inl z0))] ++ ([(q2, .inl (g.2.1, 48, .inl z0))] ++ [(q3, .inl (g.2.1, 6, .inl z0))]))) := hD
  refine lv_aload_n hx hb dX1_init_59 rfl (lv_at hl 0 rfl) ?_
  refine lv_bipush (v := (nI 10)) hx hb dX1_init_60 (by decide) ?_
  refine va_put (D := g.1) (ci := 1) (v := .int (nI 10)) (ty := tyX1 9) (C := RX1) (T := TX1) (N := 12) hx hb hts hiX1 tyX1 tyX1_ok nmX1 hown hE.1 hP hD hS 0 rfl rfl 9 (by decide) f41 (fun _ h9 => h9) rfl (tyX1_ok 9 (by decide)) rfl rfl (Nat.le_of_ble_eq_true rfl) dX1_init_62 (fun H locs hP hD hS => ?_)
  have hP : va_P g.1 vwCl ([(b, .inr (1, [.ref q1, .ref q2, .ref q3, .int (nI 0), .int (nI 0), .int (nI 0), .int (nI 0), .int (nI 20), .int (nI 3), .int (nI 10), .int (nI 0), .int (nI 0)]))] ++ ([(q1, .inl (g.2.1, 48, .inl z0))] ++ ([(q2, .inl (g.2.1, 48, .inl z0))] ++ [(q3, .inl (g.2.1, 6, .inl z0))]))) _ := hP
  have hD : va_D A ([(b, .inr (1, [.ref q1, .ref q2, .ref q3, .int (nI 0), .int (nI 0), .int (nI 0), .int (nI 0), .int (nI 20), .int (nI 3), .int (nI 10), .int (nI 0), .int (nI 0)]))] ++ ([(q1, .inl (g.2.1, 48, .inl z0))] ++ ([(q2, .inl (g.2.1, 48, .inl z0))] ++ [(q3, .inl (g.2.1, 6, .inl z0))]))) := hD
  refine lv_aload_n hx hb dX1_init_65 rfl (lv_at hl 0 rfl) ?_
  refine lv_iconst (v := (nI 0)) hx hb dX1_init_66 (by decide) ?_
  refine va_put (D := g.1) (ci := 1) (v := .int (nI 0)) (ty := tyX1 10) (C := RX1) (T := TX1) (N := 12) hx hb hts hiX1 tyX1 tyX1_ok nmX1 hown hE.1 hP hD hS 0 rfl rfl 10 (by decide) f44 (fun _ h9 => h9) rfl (tyX1_ok 10 (by decide)) rfl rfl (Nat.le_of_ble_eq_true rfl) dX1_init_67 (fun H locs hP hD hS => ?_)
  have hP : va_P g.1 vwCl ([(b, .inr (1, [.ref q1, .ref q2, .ref q3, .int (nI 0), .int (nI 0), .int (nI 0), .int (nI 0), .int (nI 20), .int (nI 3), .int (nI 10), .int (nI 0), .int (nI 0)]))] ++ ([(q1, .inl (g.2.1, 48, .inl z0))] ++ ([(q2, .inl (g.2.1, 48, .inl z0))] ++ [(q3, .inl (g.2.1, 6, .inl z0))]))) _ := hP
  have hD : va_D A ([(b, .inr (1, [.ref q1, .ref q2, .ref q3, .int (nI 0), .int (nI 0), .int (nI 0), .int (nI 0), .int (nI 20), .int (nI 3), .int (nI 10), .int (nI 0), .int (nI 0)]))] ++ ([(q1, .inl (g.2.1, 48, .inl z0))] ++ ([(q2, .inl (g.2.1, 48, .inl z0))] ++ [(q3, .inl (g.2.1, 6, .inl z0))]))) := hD
  refine lv_aload_n hx hb dX1_init_70 rfl (lv_at hl 0 rfl) ?_
  refine lv_iconst (v := (nI 0)) hx hb dX1_init_71 (by decide) ?_
  refine va_put (D := g.1) (ci := 1) (v := .int (nI 0)) (ty := tyX1 11) (C := RX1) (T := TX1) (N := 12) hx hb hts hiX1 tyX1 tyX1_ok nmX1 hown hE.1 hP hD hS 0 rfl rfl 11 (by decide) f47 (fun _ h9 => h9) rfl (tyX1_ok 11 (by decide)) rfl rfl (Nat.le_of_ble_eq_true rfl) dX1_init_72 (fun H locs hP hD hS => ?_)
  have hP : va_P g.1 vwCl ([(b, .inr (1, [.ref q1, .ref q2, .ref q3, .int (nI 0), .int (nI 0), .int (nI 0), .int (nI 0), .int (nI 20), .int (nI 3), .int (nI 10), .int (nI 0), .int (nI 0)]))] ++ ([(q1, .inl (g.2.1, 48, .inl z0))] ++ ([(q2, .inl (g.2.1, 48, .inl z0))] ++ [(q3, .inl (g.2.1, 6, .inl z0))]))) _ := hP
  have hD : va_D A ([(b, .inr (1, [.ref q1, .ref q2, .ref q3, .int (nI 0), .int (nI 0), .int (nI 0), .int (nI 0), .int (nI 20), .int (nI 3), .int (nI 10), .int (nI 0), .int (nI 0)]))] ++ ([(q1, .inl (g.2.1, 48, .inl z0))] ++ ([(q2, .inl (g.2.1, 48, .inl z0))] ++ [(q3, .inl (g.2.1, 6, .inl z0))]))) := hD
  exact k_nret (ad4 b q1 q2 q3) hx hb hr hlocks rfl hP hD hS (Nat.le_of_ble_eq_true rfl) (Nat.le_of_ble_eq_true rfl) dX1_init_75
end
section
set_option maxHeartbeats 4000000 in
set_option maxRecDepth 100000 in
theorem c_X2_init (l : Launch) (g : kG) (b : Nat) : KN l yX2_init wsX2_init ({ frames := 2, cells := 25, slots := 690, locals := 40 }) g [.ref b] [(b, .inr (2, raw2))] (fun u : (Nat → Nat) × (Nat → Nat → Nat) => u.1 0 = b) (fun u => (wK0 g u.1 u.2 K0) ++ (wHs g u.2 (fun _ => H0) 6)) 25 690 := by
  refine k_begin (cc := cX2_init) (maxL := 2) (ret := none) (Qc := fun A => kQn g (fun u : (Nat → Nat) × (Nat → Nat → Nat) => u.1 0 = b) (fun u => (wK0 g u.1 u.2 K0) ++ (wHs g u.2 (fun _ => H0) 6)) A) (by decide) rfl (Nat.le_of_ble_eq_true rfl) ?_
  intro p e s m below meth c A ls hF hr hlocks hin hE hP hD hS hA hl
  obtain ⟨hx, hb, hml, hown, hts⟩ := id hF
  have hown : s.vm.findClass RX2 = some m.cls := hown
  have hl : lv_has ls 2 [(0, .ref b)] := hl
  have hP : va_P g.1 vwCl [(b, .inr (2, [.null, .int (nI 0), .int (nI 0)]))] _ := hP
  have hD : va_D A [(b, .inr (2, [.null, .int (nI 0), .int (nI 0)]))] := hD
  have hiX2 : ∀ w ∈ wsX20, w ∈ wsX2_init := fun _ h => List.mem_cons_of_mem _ (List.mem_append_left _ (List.mem_append_right _ (h)))
  have hiX1 : ∀ w ∈ wsX10, w ∈ wsX2_init := fun _ h => List.mem_cons_of_mem _ (List.mem_append_right _ (h))
  have oil : (Cond.methodLink RX2 3 objectInit).before _ s = true := hts _ (List.mem_of_getElem? (i := 1) rfl)
  have oii : (Cond.instanceMethod objectInit).before _ s = true := hts _ (List.mem_of_getElem? (i := 2) rfl)
  have cl9 : (Cond.classLink RX2 9 RX1).before _ s = true := hts _ (List.mem_of_getElem? (i := 4) rfl)
  have f11 : (Cond.fieldLink RX2 11 "ConcertUsher$History" "halls" "[LConcertUsher$Hall;").before _ s = true := hts _ (List.mem_of_getElem? (i := 5) rfl)
  have f17 : (Cond.fieldLink RX2 17 "ConcertUsher$History" "oldest" "I").before _ s = true := hts _ (List.mem_of_getElem? (i := 6) rfl)
  have f21 : (Cond.fieldLink RX2 21 "ConcertUsher$History" "size" "I").before _ s = true := hts _ (List.mem_of_getElem? (i := 7) rfl)
  have inX1 : (Cond.instantiable RX1 12).before _ s = true := hts _ (List.mem_of_getElem? (i := 8) rfl)
  have iniX1 : (Cond.initialized RX1).before _ s = true := hts _ (List.mem_of_getElem? (i := 9) rfl)
  have imX1 : (Cond.instanceMethod yX1_init).before _ s = true := hts _ (List.mem_of_getElem? (i := 10) rfl)
  refine lv_aload_n hx hb dX2_init_0 rfl (lv_at hl 0 rfl) ?_
  refine W.objInit hx hb hown oil oii (hts _ (List.mem_of_getElem? (i := 3) rfl)) rfl (by rw [hml]; exact hl.1) rfl dX2_init_1 (Nat.le_of_ble_eq_true rfl) (Nat.le_of_ble_eq_true rfl) ?_
  refine W.eq (g2 := F0 m 4 ls []) rfl ?_
  refine lv_aload_n hx hb dX2_init_4 rfl (lv_at hl 0 rfl) ?_
  refine lv_bipush (v := (nI 6)) hx hb dX2_init_5 (by decide) ?_
  refine k_newq hx hb hown cl9 hE hP hD hS hA 6 (by decide) (by decide) (Nat.le_of_ble_eq_true rfl) (Nat.le_of_ble_eq_true rfl) dX2_init_7 (fun q1 H hP hD hS => ?_)
  have hP : va_P g.1 vwCl ([(b, .inr (2, [.null, .int (nI 0), .int (nI 0)]))] ++ [(q1, .inl (g.2.2.2.1, 6, .inr (.inr (.inr (.inr (fun _ => none))))))]) _ := hP
  have hD : va_D A ([(b, .inr (2, [.null, .int (nI 0), .int (nI 0)]))] ++ [(q1, .inl (g.2.2.2.1, 6, .inr (.inr (.inr (.inr (fun _ => none))))))]) := hD
  refine va_putF (D := g.1) (ci := 2) (v := .ref q1) (ty := tyX2 0) (C := RX2) (T := TX2) (N := 3) hx hb hts hiX2 tyX2 tyX2_ok nmX2 hown hE.1 hP hD hS 0 rfl rfl 0 (by decide) f11 (fun _ h9 => h9) rfl hin rfl (tyX2_ok 0 (by decide)) rfl rfl (Nat.le_of_ble_eq_true rfl) dX2_init_10 (fun H locs hP hD hS => ?_)
  have hP : va_P g.1 vwCl ([(b, .inr (2, [.ref q1, .int (nI 0), .int (nI 0)]))] ++ [(q1, .inl (g.2.2.2.1, 6, .inr (.inr (.inr (.inr (fun _ => none))))))]) _ := hP
  have hD : va_D A ([(b, .inr (2, [.ref q1, .int (nI 0), .int (nI 0)]))] ++ [(q1, .inl (g.2.2.2.1, 6, .inr (.inr (.inr (.inr (fun _ => none))))))]) := hD
  refine lv_aload_n hx hb dX2_init_13 rfl (lv_at hl 0 rfl) ?_
  refine lv_iconst (v := (nI 0)) hx hb dX2_init_14 (by decide) ?_
  refine va_put (D := g.1) (ci := 2) (v := .int (nI 0)) (ty := tyX2 1) (C := RX2) (T := TX2) (N := 3) hx hb hts hiX2 tyX2 tyX2_ok nmX2 hown hE.1 hP hD hS 0 rfl rfl 1 (by decide) f17 (fun _ h9 => h9) rfl (tyX2_ok 1 (by decide)) rfl rfl (Nat.le_of_ble_eq_true rfl) dX2_init_15 (fun H locs hP hD hS => ?_)
  have hP : va_P g.1 vwCl ([(b, .inr (2, [.ref q1, .int (nI 0), .int (nI 0)]))] ++ [(q1, .inl (g.2.2.2.1, 6, .inr (.inr (.inr (.inr (fun _ => none))))))]) _ := hP
  have hD : va_D A ([(b, .inr (2, [.ref q1, .int (nI 0), .int (nI 0)]))] ++ [(q1, .inl (g.2.2.2.1, 6, .inr (.inr (.inr (.inr (fun _ => none))))))]) := hD
  refine lv_aload_n hx hb dX2_init_18 rfl (lv_at hl 0 rfl) ?_
  refine lv_iconst (v := (nI 0)) hx hb dX2_init_19 (by decide) ?_
  refine va_put (D := g.1) (ci := 2) (v := .int (nI 0)) (ty := tyX2 2) (C := RX2) (T := TX2) (N := 3) hx hb hts hiX2 tyX2 tyX2_ok nmX2 hown hE.1 hP hD hS 0 rfl rfl 2 (by decide) f21 (fun _ h9 => h9) rfl (tyX2_ok 2 (by decide)) rfl rfl (Nat.le_of_ble_eq_true rfl) dX2_init_20 (fun H locs hP hD hS => ?_)
  have hP : va_P g.1 vwCl ([(b, .inr (2, [.ref q1, .int (nI 0), .int (nI 0)]))] ++ [(q1, .inl (g.2.2.2.1, 6, .inr (.inr (.inr (.inr (fun _ => none))))))]) _ := hP
  have hD : va_D A ([(b, .inr (2, [.ref q1, .int (nI 0), .int (nI 0)]))] ++ [(q1, .inl (g.2.2.2.1, 6, .inr (.inr (.inr (.inr (fun _ => none))))))]) := hD
  refine lv_iconst (v := (nI 0)) hx hb dX2_init_23 (by decide) ?_
  refine lv_istore_n (lv' := [(1, .int (nI 0)), (0, .ref b)]) hx hb dX2_init_24 rfl hl (by decide) rfl (fun ls hl => ?_)
  refine lv_iload_n hx hb dX2_init_25 rfl (lv_at hl 0 rfl) ?_
  refine lv_bipush (v := (nI 6)) hx hb dX2_init_26 (by decide) ?_
  refine k_geN (tgt := 50) hx hb (by decide) (by decide) dX2_init_28 (by decide) (fun c2 => absurd c2 (by decide)) (fun c2 => ?_)
  refine lv_aload_n hx hb dX2_init_31 rfl (lv_at hl 1 rfl) ?_
  refine va_get (D := g.1) (ci := 2) (v := .ref q1) (C := RX2) (T := TX2) (N := 3) hx hb hts hiX2 hown hE.1 hP 0 rfl rfl 0 (by decide) f11 (fun _ h9 => h9) rfl dX2_init_32 ?_
  refine lv_iload_n hx hb dX2_init_35 rfl (lv_at hl 0 rfl) ?_
  refine va_new (ci := 1) (C := RX1) (T := TX1) (N := 12) (fs := raw1) hx hb hts hiX1 tyX1 tyX1_ok hown cl9 inX1 iniX1 hE.1 hP hD hS hA rfl (fun j hj => by rcases (show j = 0 ∨ j = 1 ∨ j = 2 ∨ j = 3 ∨ j = 4 ∨ j = 5 ∨ j = 6 ∨ j = 7 ∨ j = 8 ∨ j = 9 ∨ j = 10 ∨ j = 11 by omega) with rfl | rfl | rfl | rfl | rfl | rfl | rfl | rfl | rfl | rfl | rfl | rfl <;> rfl) (Nat.le_of_ble_eq_true rfl) (Nat.le_of_ble_eq_true rfl) dX2_init_36 (fun q3 H hP hD hS => ?_)
  have hP : va_P g.1 vwCl ([(b, .inr (2, [.ref q1, .int (nI 0), .int (nI 0)]))] ++ ([(q1, .inl (g.2.2.2.1, 6, .inr (.inr (.inr (.inr (fun _ => none))))))] ++ [(q3, .inr (1, raw1))])) _ := hP
  have hD : va_D A ([(b, .inr (2, [.ref q1, .int (nI 0), .int (nI 0)]))] ++ ([(q1, .inl (g.2.2.2.1, 6, .inr (.inr (.inr (.inr (fun _ => none))))))] ++ [(q3, .inr (1, raw1))])) := hD
  refine lv_dup hx hb dX2_init_39 rfl ?_
  have hP : va_P g.1 vwCl (([(b, .inr (2, [.ref q1, .int (nI 0), .int (nI 0)]))] ++ [(q1, .inl (g.2.2.2.1, 6, .inr (.inr (.inr (.inr (fun _ => none))))))]) ++ ([] ++ [(q3, .inr (1, raw1))])) _ := hP
  have hD : va_D A (([(b, .inr (2, [.ref q1, .int (nI 0), .int (nI 0)]))] ++ [(q1, .inl (g.2.2.2.1, 6, .inr (.inr (.inr (.inr (fun _ => none))))))]) ++ ([] ++ [(q3, .inr (1, raw1))])) := hD
  refine k_INn (As := []) (ws1 := (fun u => ([(b, .inr (2, [.ref q1, .int (nI 0), .int (nI 0)]))] ++ [(q1, .inl (g.2.2.2.1, 6, .inr (.inr (.inr (.inr (fun _ => none))))))]) ++ ((wH g u H0) ++ []))) hF (c_X1_init l g q3) ⟨va_cnB 0 hts gX2_init_X1_init_n24 rfl rfl rfl hE.2.1.2.1 iniX1 (by decide +kernel) ⟨(Nat.le_of_ble_eq_true rfl), (Nat.le_of_ble_eq_true rfl)⟩, rfl, imX1⟩ hE hP hD hS hA (k_pm3r _ _ _) (fun _ => k_pm3 _ _ _) rfl hl.1 rfl (Nat.le_of_ble_eq_true rfl) dX2_init_40 ⟨(Nat.le_of_ble_eq_true rfl), (Nat.le_of_ble_eq_true rfl)⟩ (fun u4 H locs hu hP2 hD2 hS2 => ?_)
  have hu : (u4 0) = q3 := hu
  subst hu
  have hP := hP2
  have hD := hD2
  have hS := hS2
  have hP : va_P g.1 vwCl ([(b, .inr (2, [.ref q1, .int (nI 0), .int (nI 0)]))] ++ ([(q1, .inl (g.2.2.2.1, 6, .inr (.inr (.inr (.inr (fun _ => none))))))] ++ (wH g u4 H0))) _ := hP
  have hD : va_D A ([(b, .inr (2, [.ref q1, .int (nI 0), .int (nI 0)]))] ++ ([(q1, .inl (g.2.2.2.1, 6, .inr (.inr (.inr (.inr (fun _ => none))))))] ++ (wH g u4 H0))) := hD
  refine k_astq (f := (fun _ => none)) hx hb hE hP hD hS 1 2 rfl rfl 0 (by decide) (by decide) dX2_init_43 (fun H locs hP hD hS => ?_)
  have hP : va_P g.1 vwCl ([(b, .inr (2, [.ref q1, .int (nI 0), .int (nI 0)]))] ++ ([(q1, .inl (g.2.2.2.1, 6, .inr (.inr (.inr (.inr (va_up (fun _ => none) 0 (some (u4 0))))))))] ++ (wH g u4 H0))) _ := hP
  have hD : va_D A ([(b, .inr (2, [.ref q1, .int (nI 0), .int (nI 0)]))] ++ ([(q1, .inl (g.2.2.2.1, 6, .inr (.inr (.inr (.inr (va_up (fun _ => none) 0 (some (u4 0))))))))] ++ (wH g u4 H0))) := hD
  refine lv_iinc (v := (nI 1)) (lv' := [(1, .int (nI 1)), (0, .ref b)]) hx hb dX2_init_44 hl (k := 0) rfl (k_inc1 _) (by decide) rfl (fun ls hl => ?_)
  refine lv_goto (tgt := 25) hx hb dX2_init_47 (by decide) ?_
  refine lv_iload_n hx hb dX2_init_25 rfl (lv_at hl 0 rfl) ?_
  refine lv_bipush (v := (nI 6)) hx hb dX2_init_26 (by decide) ?_
  refine k_geN (tgt := 50) hx hb (by decide) (by decide) dX2_init_28 (by decide) (fun c5 => absurd c5 (by decide)) (fun c5 => ?_)
  refine lv_aload_n hx hb dX2_init_31 rfl (lv_at hl 1 rfl) ?_
  refine va_get (D := g.1) (ci := 2) (v := .ref q1) (C := RX2) (T := TX2) (N := 3) hx hb hts hiX2 hown hE.1 hP 0 rfl rfl 0 (by decide) f11 (fun _ h9 => h9) rfl dX2_init_32 ?_
  refine lv_iload_n hx hb dX2_init_35 rfl (lv_at hl 0 rfl) ?_
  refine va_new (ci := 1) (C := RX1) (T := TX1) (N := 12) (fs := raw1) hx hb hts hiX1 tyX1 tyX1_ok hown cl9 inX1 iniX1 hE.1 hP hD hS hA rfl (fun j hj => by rcases (show j = 0 ∨ j = 1 ∨ j = 2 ∨ j = 3 ∨ j = 4 ∨ j = 5 ∨ j = 6 ∨ j = 7 ∨ j = 8 ∨ j = 9 ∨ j = 10 ∨ j = 11 by omega) with rfl | rfl | rfl | rfl | rfl | rfl | rfl | rfl | rfl | rfl | rfl | rfl <;> rfl) (Nat.le_of_ble_eq_true rfl) (Nat.le_of_ble_eq_true rfl) dX2_init_36 (fun q6 H hP hD hS => ?_)
  have hP : va_P g.1 vwCl ([(b, .inr (2, [.ref q1, .int (nI 0), .int (nI 0)]))] ++ ([(q1, .inl (g.2.2.2.1, 6, .inr (.inr (.inr (.inr (va_up (fun _ => none) 0 (some (u4 0))))))))] ++ ((wH g u4 H0) ++ [(q6, .inr (1, raw1))]))) _ := hP
  have hD : va_D A ([(b, .inr (2, [.ref q1, .int (nI 0), .int (nI 0)]))] ++ ([(q1, .inl (g.2.2.2.1, 6, .inr (.inr (.inr (.inr (va_up (fun _ => none) 0 (some (u4 0))))))))] ++ ((wH g u4 H0) ++ [(q6, .inr (1, raw1))]))) := hD
  refine lv_dup hx hb dX2_init_39 rfl ?_
  have hP : va_P g.1 vwCl (([(b, .inr (2, [.ref q1, .int (nI 0), .int (nI 0)]))] ++ [(q1, .inl (g.2.2.2.1, 6, .inr (.inr (.inr (.inr (va_up (fun _ => none) 0 (some (u4 0))))))))]) ++ ((wH g u4 H0) ++ [(q6, .inr (1, raw1))])) _ := hP
  have hD : va_D A (([(b, .inr (2, [.ref q1, .int (nI 0), .int (nI 0)]))] ++ [(q1, .inl (g.2.2.2.1, 6, .inr (.inr (.inr (.inr (va_up (fun _ => none) 0 (some (u4 0))))))))]) ++ ((wH g u4 H0) ++ [(q6, .inr (1, raw1))])) := hD
  refine k_INn (As := []) (ws1 := (fun u => ([(b, .inr (2, [.ref q1, .int (nI 0), .int (nI 0)]))] ++ [(q1, .inl (g.2.2.2.1, 6, .inr (.inr (.inr (.inr (va_up (fun _ => none) 0 (some (u4 0))))))))]) ++ ((wH g u H0) ++ (wH g u4 H0)))) hF (c_X1_init l g q6) ⟨va_cnB 0 hts gX2_init_X1_init_n24 rfl rfl rfl hE.2.1.2.1 iniX1 (by decide +kernel) ⟨(Nat.le_of_ble_eq_true rfl), (Nat.le_of_ble_eq_true rfl)⟩, rfl, imX1⟩ hE hP hD hS hA (k_pm3r _ _ _) (fun _ => k_pm3 _ _ _) rfl hl.1 rfl (Nat.le_of_ble_eq_true rfl) dX2_init_40 ⟨(Nat.le_of_ble_eq_true rfl), (Nat.le_of_ble_eq_true rfl)⟩ (fun u7 H locs hu hP2 hD2 hS2 => ?_)
  have hu : (u7 0) = q6 := hu
  subst hu
  have hP := hP2
  have hD := hD2
  have hS := hS2
  have hP : va_P g.1 vwCl ([(b, .inr (2, [.ref q1, .int (nI 0), .int (nI 0)]))] ++ ([(q1, .inl (g.2.2.2.1, 6, .inr (.inr (.inr (.inr (va_up (fun _ => none) 0 (some (u4 0))))))))] ++ ((wH g u7 H0) ++ (wH g u4 H0)))) _ := hP
  have hD : va_D A ([(b, .inr (2, [.ref q1, .int (nI 0), .int (nI 0)]))] ++ ([(q1, .inl (g.2.2.2.1, 6, .inr (.inr (.inr (.inr (va_up (fun _ => none) 0 (some (u4 0))))))))] ++ ((wH g u7 H0) ++ (wH g u4 H0)))) := hD
  refine k_astq (f := (va_up (fun _ => none) 0 (some (u4 0)))) hx hb hE hP hD hS 1 2 rfl rfl 1 (by decide) (by decide) dX2_init_43 (fun H locs hP hD hS => ?_)
  have hP : va_P g.1 vwCl ([(b, .inr (2, [.ref q1, .int (nI 0), .int (nI 0)]))] ++ ([(q1, .inl (g.2.2.2.1, 6, .inr (.inr (.inr (.inr (va_up (va_up (fun _ => none) 0 (some (u4 0))) 1 (some (u7 0))))))))] ++ ((wH g u7 H0) ++ (wH g u4 H0)))) _ := hP
  have hD : va_D A ([(b, .inr (2, [.ref q1, .int (nI 0), .int (nI 0)]))] ++ ([(q1, .inl (g.2.2.2.1, 6, .inr (.inr (.inr (.inr (va_up (va_up (fun _ => none) 0 (some (u4 0))) 1 (some (u7 0))))))))] ++ ((wH g u7 H0) ++ (wH g u4 H0)))) := hD
  refine lv_iinc (v := (nI 2)) (lv' := [(1, .int (nI 2)), (0, .ref b)]) hx hb dX2_init_44 hl (k := 0) rfl (k_inc1 _) (by decide) rfl (fun ls hl => ?_)
  refine lv_goto (tgt := 25) hx hb dX2_init_47 (by decide) ?_
  refine lv_iload_n hx hb dX2_init_25 rfl (lv_at hl 0 rfl) ?_
  refine lv_bipush (v := (nI 6)) hx hb dX2_init_26 (by decide) ?_
  refine k_geN (tgt := 50) hx hb (by decide) (by decide) dX2_init_28 (by decide) (fun c8 => absurd c8 (by decide)) (fun c8 => ?_)
  refine lv_aload_n hx hb dX2_init_31 rfl (lv_at hl 1 rfl) ?_
  refine va_get (D := g.1) (ci := 2) (v := .ref q1) (C := RX2) (T := TX2) (N := 3) hx hb hts hiX2 hown hE.1 hP 0 rfl rfl 0 (by decide) f11 (fun _ h9 => h9) rfl dX2_init_32 ?_
  refine lv_iload_n hx hb dX2_init_35 rfl (lv_at hl 0 rfl) ?_
  refine va_new (ci := 1) (C := RX1) (T := TX1) (N := 12) (fs := raw1) hx hb hts hiX1 tyX1 tyX1_ok hown cl9 inX1 iniX1 hE.1 hP hD hS hA rfl (fun j hj => by rcases (show j = 0 ∨ j = 1 ∨ j = 2 ∨ j = 3 ∨ j = 4 ∨ j = 5 ∨ j = 6 ∨ j = 7 ∨ j = 8 ∨ j = 9 ∨ j = 10 ∨ j = 11 by omega) with rfl | rfl | rfl | rfl | rfl | rfl | rfl | rfl | rfl | rfl | rfl | rfl <;> rfl) (Nat.le_of_ble_eq_true rfl) (Nat.le_of_ble_eq_true rfl) dX2_init_36 (fun q9 H hP hD hS => ?_)
  have hP : va_P g.1 vwCl ([(b, .inr (2, [.ref q1, .int (nI 0), .int (nI 0)]))] ++ ([(q1, .inl (g.2.2.2.1, 6, .inr (.inr (.inr (.inr (va_up (va_up (fun _ => none) 0 (some (u4 0))) 1 (some (u7 0))))))))] ++ ((wH g u7 H0) ++ ((wH g u4 H0) ++ [(q9, .inr (1, raw1))])))) _ := hP
  have hD : va_D A ([(b, .inr (2, [.ref q1, .int (nI 0), .int (nI 0)]))] ++ ([(q1, .inl (g.2.2.2.1, 6, .inr (.inr (.inr (.inr (va_up (va_up (fun _ => none) 0 (some (u4 0))) 1 (some (u7 0))))))))] ++ ((wH g u7 H0) ++ ((wH g u4 H0) ++ [(q9, .inr (1, raw1))])))) := hD
  refine lv_dup hx hb dX2_init_39 rfl ?_
  have hP : va_P g.1 vwCl (([(b, .inr (2, [.ref q1, .int (nI 0), .int (nI 0)]))] ++ [(q1, .inl (g.2.2.2.1, 6, .inr (.inr (.inr (.inr (va_up (va_up (fun _ => none) 0 (some (u4 0))) 1 (some (u7 0))))))))]) ++ (((wH g u7 H0) ++ (wH g u4 H0)) ++ [(q9, .inr (1, raw1))])) _ := hP
  have hD : va_D A (([(b, .inr (2, [.ref q1, .int (nI 0), .int (nI 0)]))] ++ [(q1, .inl (g.2.2.2.1, 6, .inr (.inr (.inr (.inr (va_up (va_up (fun _ => none) 0 (some (u4 0))) 1 (some (u7 0))))))))]) ++ (((wH g u7 H0) ++ (wH g u4 H0)) ++ [(q9, .inr (1, raw1))])) := hD
  refine k_INn (As := []) (ws1 := (fun u => ([(b, .inr (2, [.ref q1, .int (nI 0), .int (nI 0)]))] ++ [(q1, .inl (g.2.2.2.1, 6, .inr (.inr (.inr (.inr (va_up (va_up (fun _ => none) 0 (some (u4 0))) 1 (some (u7 0))))))))]) ++ ((wH g u H0) ++ ((wH g u7 H0) ++ (wH g u4 H0))))) hF (c_X1_init l g q9) ⟨va_cnB 0 hts gX2_init_X1_init_n24 rfl rfl rfl hE.2.1.2.1 iniX1 (by decide +kernel) ⟨(Nat.le_of_ble_eq_true rfl), (Nat.le_of_ble_eq_true rfl)⟩, rfl, imX1⟩ hE hP hD hS hA (k_pm3r _ _ _) (fun _ => k_pm3 _ _ _) rfl hl.1 rfl (Nat.le_of_ble_eq_true rfl) dX2_init_40 ⟨(Nat.le_of_ble_eq_true rfl), (Nat.le_of_ble_eq_true rfl)⟩ (fun u10 H locs hu hP2 hD2 hS2 => ?_)
  have hu : (u10 0) = q9 := hu
  subst hu
  have hP := hP2
  have hD := hD2
  have hS := hS2
  have hP : va_P g.1 vwCl ([(b, .inr (2, [.ref q1, .int (nI 0), .int (nI 0)]))] ++ ([(q1, .inl (g.2.2.2.1, 6, .inr (.inr (.inr (.inr (va_up (va_up (fun _ => none) 0 (some (u4 0))) 1 (some (u7 0))))))))] ++ ((wH g u10 H0) ++ ((wH g u7 H0) ++ (wH g u4 H0))))) _ := hP
  have hD : va_D A ([(b, .inr (2, [.ref q1, .int (nI 0), .int (nI 0)]))] ++ ([(q1, .inl (g.2.2.2.1, 6, .inr (.inr (.inr (.inr (va_up (va_up (fun _ => none) 0 (some (u4 0))) 1 (some (u7 0))))))))] ++ ((wH g u10 H0) ++ ((wH g u7 H0) ++ (wH g u4 H0))))) := hD
  refine k_astq (f := (va_up (va_up (fun _ => none) 0 (some (u4 0))) 1 (some (u7 0)))) hx hb hE hP hD hS 1 2 rfl rfl 2 (by decide) (by decide) dX2_init_43 (fun H locs hP hD hS => ?_)
  have hP : va_P g.1 vwCl ([(b, .inr (2, [.ref q1, .int (nI 0), .int (nI 0)]))] ++ ([(q1, .inl (g.2.2.2.1, 6, .inr (.inr (.inr (.inr (va_up (va_up (va_up (fun _ => none) 0 (some (u4 0))) 1 (some (u7 0))) 2 (some (u10 0))))))))] ++ ((wH g u10 H0) ++ ((wH g u7 H0) ++ (wH g u4 H0))))) _ := hP
  have hD : va_D A ([(b, .inr (2, [.ref q1, .int (nI 0), .int (nI 0)]))] ++ ([(q1, .inl (g.2.2.2.1, 6, .inr (.inr (.inr (.inr (va_up (va_up (va_up (fun _ => none) 0 (some (u4 0))) 1 (some (u7 0))) 2 (some (u10 0))))))))] ++ ((wH g u10 H0) ++ ((wH g u7 H0) ++ (wH g u4 H0))))) := hD
  refine lv_iinc (v := (nI 3)) (lv' := [(1, .int (nI 3)), (0, .ref b)]) hx hb dX2_init_44 hl (k := 0) rfl (k_inc1 _) (by decide) rfl (fun ls hl => ?_)
  refine lv_goto (tgt := 25) hx hb dX2_init_47 (by decide) ?_
  refine lv_iload_n hx hb dX2_init_25 rfl (lv_at hl 0 rfl) ?_
  refine lv_bipush (v := (nI 6)) hx hb dX2_init_26 (by decide) ?_
  refine k_geN (tgt := 50) hx hb (by decide) (by decide) dX2_init_28 (by decide) (fun c11 => absurd c11 (by decide)) (fun c11 => ?_)
  refine lv_aload_n hx hb dX2_init_31 rfl (lv_at hl 1 rfl) ?_
  refine va_get (D := g.1) (ci := 2) (v := .ref q1) (C := RX2) (T := TX2) (N := 3) hx hb hts hiX2 hown hE.1 hP 0 rfl rfl 0 (by decide) f11 (fun _ h9 => h9) rfl dX2_init_32 ?_
  refine lv_iload_n hx hb dX2_init_35 rfl (lv_at hl 0 rfl) ?_
  refine va_new (ci := 1) (C := RX1) (T := TX1) (N := 12) (fs := raw1) hx hb hts hiX1 tyX1 tyX1_ok hown cl9 inX1 iniX1 hE.1 hP hD hS hA rfl (fun j hj => by rcases (show j = 0 ∨ j = 1 ∨ j = 2 ∨ j = 3 ∨ j = 4 ∨ j = 5 ∨ j = 6 ∨ j = 7 ∨ j = 8 ∨ j = 9 ∨ j = 10 ∨ j = 11 by omega) with rfl | rfl | rfl | rfl | rfl | rfl | rfl | rfl | rfl | rfl | rfl | rfl <;> rfl) (Nat.le_of_ble_eq_true rfl) (Nat.le_of_ble_eq_true rfl) dX2_init_36 (fun q12 H hP hD hS => ?_)
  have hP : va_P g.1 vwCl ([(b, .inr (2, [.ref q1, .int (nI 0), .int (nI 0)]))] ++ ([(q1, .inl (g.2.2.2.1, 6, .inr (.inr (.inr (.inr (va_up (va_up (va_up (fun _ => none) 0 (some (u4 0))) 1 (some (u7 0))) 2 (some (u10 0))))))))] ++ ((wH g u10 H0) ++ ((wH g u7 H0) ++ ((wH g u4 H0) ++ [(q12, .inr (1, raw1))]))))) _ := hP
  have hD : va_D A ([(b, .inr (2, [.ref q1, .int (nI 0), .int (nI 0)]))] ++ ([(q1, .inl (g.2.2.2.1, 6, .inr (.inr (.inr (.inr (va_up (va_up (va_up (fun _ => none) 0 (some (u4 0))) 1 (some (u7 0))) 2 (some (u10 0))))))))] ++ ((wH g u10 H0) ++ ((wH g u7 H0) ++ ((wH g u4 H0) ++ [(q12, .inr (1, raw1))]))))) := hD
  refine lv_dup hx hb dX2_init_39 rfl ?_
  have hP : va_P g.1 vwCl (([(b, .inr (2, [.ref q1, .int (nI 0), .int (nI 0)]))] ++ [(q1, .inl (g.2.2.2.1, 6, .inr (.inr (.inr (.inr (va_up (va_up (va_up (fun _ => none) 0 (some (u4 0))) 1 (some (u7 0))) 2 (some (u10 0))))))))]) ++ (((wH g u10 H0) ++ ((wH g u7 H0) ++ (wH g u4 H0))) ++ [(q12, .inr (1, raw1))])) _ := hP
  have hD : va_D A (([(b, .inr (2, [.ref q1, .int (nI 0), .int (nI 0)]))] ++ [(q1, .inl (g.2.2.2.1, 6, .inr (.inr (.inr (.inr (va_up (va_up (va_up (fun _ => none) 0 (some (u4 0))) 1 (some (u7 0))) 2 (some (u10 0))))))))]) ++ (((wH g u10 H0) ++ ((wH g u7 H0) ++ (wH g u4 H0))) ++ [(q12, .inr (1, raw1))])) := hD
  refine k_INn (As := []) (ws1 := (fun u => ([(b, .inr (2, [.ref q1, .int (nI 0), .int (nI 0)]))] ++ [(q1, .inl (g.2.2.2.1, 6, .inr (.inr (.inr (.inr (va_up (va_up (va_up (fun _ => none) 0 (some (u4 0))) 1 (some (u7 0))) 2 (some (u10 0))))))))]) ++ ((wH g u H0) ++ ((wH g u10 H0) ++ ((wH g u7 H0) ++ (wH g u4 H0)))))) hF (c_X1_init l g q12) ⟨va_cnB 0 hts gX2_init_X1_init_n24 rfl rfl rfl hE.2.1.2.1 iniX1 (by decide +kernel) ⟨(Nat.le_of_ble_eq_true rfl), (Nat.le_of_ble_eq_true rfl)⟩, rfl, imX1⟩ hE hP hD hS hA (k_pm3r _ _ _) (fun _ => k_pm3 _ _ _) rfl hl.1 rfl (Nat.le_of_ble_eq_true rfl) dX2_init_40 ⟨(Nat.le_of_ble_eq_true rfl), (Nat.le_of_ble_eq_true rfl)⟩ (fun u13 H locs hu hP2 hD2 hS2 => ?_)
  have hu : (u13 0) = q12 := hu
  subst hu
  have hP := hP2
  have hD := hD2
  have hS := hS2
  have hP : va_P g.1 vwCl ([(b, .inr (2, [.ref q1, .int (nI 0), .int (nI 0)]))] ++ ([(q1, .inl (g.2.2.2.1, 6, .inr (.inr (.inr (.inr (va_up (va_up (va_up (fun _ => none) 0 (some (u4 0))) 1 (some (u7 0))) 2 (some (u10 0))))))))] ++ ((wH g u13 H0) ++ ((wH g u10 H0) ++ ((wH g u7 H0) ++ (wH g u4 H0)))))) _ := hP
  have hD : va_D A ([(b, .inr (2, [.ref q1, .int (nI 0), .int (nI 0)]))] ++ ([(q1, .inl (g.2.2.2.1, 6, .inr (.inr (.inr (.inr (va_up (va_up (va_up (fun _ => none) 0 (some (u4 0))) 1 (some (u7 0))) 2 (some (u10 0))))))))] ++ ((wH g u13 H0) ++ ((wH g u10 H0) ++ ((wH g u7 H0) ++ (wH g u4 H0)))))) := hD
  refine k_astq (f := (va_up (va_up (va_up (fun _ => none) 0 (some (u4 0))) 1 (some (u7 0))) 2 (some (u10 0)))) hx hb hE hP hD hS 1 2 rfl rfl 3 (by decide) (by decide) dX2_init_43 (fun H locs hP hD hS => ?_)
  have hP : va_P g.1 vwCl ([(b, .inr (2, [.ref q1, .int (nI 0), .int (nI 0)]))] ++ ([(q1, .inl (g.2.2.2.1, 6, .inr (.inr (.inr (.inr (va_up (va_up (va_up (va_up (fun _ => none) 0 (some (u4 0))) 1 (some (u7 0))) 2 (some (u10 0))) 3 (some (u13 0))))))))] ++ ((wH g u13 H0) ++ ((wH g u10 H0) ++ ((wH g u7 H0) ++ (wH g u4 H0)))))) _ := hP
  have hD : va_D A ([(b, .inr (2, [.ref q1, .int (nI 0), .int (nI 0)]))] ++ ([(q1, .inl (g.2.2.2.1, 6, .inr (.inr (.inr (.inr (va_up (va_up (va_up (va_up (fun _ => none) 0 (some (u4 0))) 1 (some (u7 0))) 2 (some (u10 0))) 3 (some (u13 0))))))))] ++ ((wH g u13 H0) ++ ((wH g u10 H0) ++ ((wH g u7 H0) ++ (wH g u4 H0)))))) := hD
  refine lv_iinc (v := (nI 4)) (lv' := [(1, .int (nI 4)), (0, .ref b)]) hx hb dX2_init_44 hl (k := 0) rfl (k_inc1 _) (by decide) rfl (fun ls hl => ?_)
  refine lv_goto (tgt := 25) hx hb dX2_init_47 (by decide) ?_
  refine lv_iload_n hx hb dX2_init_25 rfl (lv_at hl 0 rfl) ?_
  refine lv_bipush (v := (nI 6)) hx hb dX2_init_26 (by decide) ?_
  refine k_geN (tgt := 50) hx hb (by decide) (by decide) dX2_init_28 (by decide) (fun c14 => absurd c14 (by decide)) (fun c14 => ?_)
  refine lv_aload_n hx hb dX2_init_31 rfl (lv_at hl 1 rfl) ?_
  refine va_get (D := g.1) (ci := 2) (v := .ref q1) (C := RX2) (T := TX2) (N := 3) hx hb hts hiX2 hown hE.1 hP 0 rfl rfl 0 (by decide) f11 (fun _ h9 => h9) rfl dX2_init_32 ?_
  refine lv_iload_n hx hb dX2_init_35 rfl (lv_at hl 0 rfl) ?_
  refine va_new (ci := 1) (C := RX1) (T := TX1) (N := 12) (fs := raw1) hx hb hts hiX1 tyX1 tyX1_ok hown cl9 inX1 iniX1 hE.1 hP hD hS hA rfl (fun j hj => by rcases (show j = 0 ∨ j = 1 ∨ j = 2 ∨ j = 3 ∨ j = 4 ∨ j = 5 ∨ j = 6 ∨ j = 7 ∨ j = 8 ∨ j = 9 ∨ j = 10 ∨ j = 11 by omega) with rfl | rfl | rfl | rfl | rfl | rfl | rfl | rfl | rfl | rfl | rfl | rfl <;> rfl) (Nat.le_of_ble_eq_true rfl) (Nat.le_of_ble_eq_true rfl) dX2_init_36 (fun q15 H hP hD hS => ?_)
  have hP : va_P g.1 vwCl ([(b, .inr (2, [.ref q1, .int (nI 0), .int (nI 0)]))] ++ ([(q1, .inl (g.2.2.2.1, 6, .inr (.inr (.inr (.inr (va_up (va_up (va_up (va_up (fun _ => none) 0 (some (u4 0))) 1 (some (u7 0))) 2 (some (u10 0))) 3 (some (u13 0))))))))] ++ ((wH g u13 H0) ++ ((wH g u10 H0) ++ ((wH g u7 H0) ++ ((wH g u4 H0) ++ [(q15, .inr (1, raw1))])))))) _ := hP
  have hD : va_D A ([(b, .inr (2, [.ref q1, .int (nI 0), .int (nI 0)]))] ++ ([(q1, .inl (g.2.2.2.1, 6, .inr (.inr (.inr (.inr (va_up (va_up (va_up (va_up (fun _ => none) 0 (some (u4 0))) 1 (some (u7 0))) 2 (some (u10 0))) 3 (some (u13 0))))))))] ++ ((wH g u13 H0) ++ ((wH g u10 H0) ++ ((wH g u7 H0) ++ ((wH g u4 H0) ++ [(q15, .inr (1, raw1))])))))) := hD
  refine lv_dup hx hb dX2_init_39 rfl ?_
  have hP : va_P g.1 vwCl (([(b, .inr (2, [.ref q1, .int (nI 0), .int (nI 0)]))] ++ [(q1, .inl (g.2.2.2.1, 6, .inr (.inr (.inr (.inr (va_up (va_up (va_up (va_up (fun _ => none) 0 (some (u4 0))) 1 (some (u7 0))) 2 (some (u10 0))) 3 (some (u13 0))))))))]) ++ (((wH g u13 H0) ++ ((wH g u10 H0) ++ ((wH g u7 H0) ++ (wH g u4 H0)))) ++ [(q15, .inr (1, raw1))])) _ := hP
  have hD : va_D A (([(b, .inr (2, [.ref q1, .int (nI 0), .int (nI 0)]))] ++ [(q1, .inl (g.2.2.2.1, 6, .inr (.inr (.inr (.inr (va_up (va_up (va_up (va_up (fun _ => none) 0 (some (u4 0))) 1 (some (u7 0))) 2 (some (u10 0))) 3 (some (u13 0))))))))]) ++ (((wH g u13 H0) ++ ((wH g u10 H0) ++ ((wH g u7 H0) ++ (wH g u4 H0)))) ++ [(q15, .inr (1, raw1))])) := hD
  refine k_INn (As := []) (ws1 := (fun u => ([(b, .inr (2, [.ref q1, .int (nI 0), .int (nI 0)]))] ++ [(q1, .inl (g.2.2.2.1, 6, .inr (.inr (.inr (.inr (va_up (va_up (va_up (va_up (fun _ => none) 0 (some (u4 0))) 1 (some (u7 0))) 2 (some (u10 0))) 3 (some (u13 0))))))))]) ++ ((wH g u H0) ++ ((wH g u13 H0) ++ ((wH g u10 H0) ++ ((wH g u7 H0) ++ (wH g u4 H0))))))) hF (c_X1_init l g q15) ⟨va_cnB 0 hts gX2_init_X1_init_n24 rfl rfl rfl hE.2.1.2.1 iniX1 (by decide +kernel) ⟨(Nat.le_of_ble_eq_true rfl), (Nat.le_of_ble_eq_true rfl)⟩, rfl, imX1⟩ hE hP hD hS hA (k_pm3r _ _ _) (fun _ => k_pm3 _ _ _) rfl hl.1 rfl (Nat.le_of_ble_eq_true rfl) dX2_init_40 ⟨(Nat.le_of_ble_eq_true rfl), (Nat.le_of_ble_eq_true rfl)⟩ (fun u16 H locs hu hP2 hD2 hS2 => ?_)
  have hu : (u16 0) = q15 := hu
  subst hu
  have hP := hP2
  have hD := hD2
  have hS := hS2
  have hP : va_P g.1 vwCl ([(b, .inr (2, [.ref q1, .int (nI 0), .int (nI 0)]))] ++ ([(q1, .inl (g.2.2.2.1, 6, .inr (.inr (.inr (.inr (va_up (va_up (va_up (va_up (fun _ => none) 0 (some (u4 0))) 1 (some (u7 0))) 2 (some (u10 0))) 3 (some (u13 0))))))))] ++ ((wH g u16 H0) ++ ((wH g u13 H0) ++ ((wH g u10 H0) ++ ((wH g u7 H0) ++ (wH g u4 H0))))))) _ := hP
  have hD : va_D A ([(b, .inr (2, [.ref q1, .int (nI 0), .int (nI 0)]))] ++ ([(q1, .inl (g.2.2.2.1, 6, .inr (.inr (.inr (.inr (va_up (va_up (va_up (va_up (fun _ => none) 0 (some (u4 0))) 1 (some (u7 0))) 2 (some (u10 0))) 3 (some (u13 0))))))))] ++ ((wH g u16 H0) ++ ((wH g u13 H0) ++ ((wH g u10 H0) ++ ((wH g u7 H0) ++ (wH g u4 H0))))))) := hD
  refine k_astq (f := (va_up (va_up (va_up (va_up (fun _ => none) 0 (some (u4 0))) 1 (some (u7 0))) 2 (some (u10 0))) 3 (some (u13 0)))) hx hb hE hP hD hS 1 2 rfl rfl 4 (by decide) (by decide) dX2_init_43 (fun H locs hP hD hS => ?_)
  have hP : va_P g.1 vwCl ([(b, .inr (2, [.ref q1, .int (nI 0), .int (nI 0)]))] ++ ([(q1, .inl (g.2.2.2.1, 6, .inr (.inr (.inr (.inr (va_up (va_up (va_up (va_up (va_up (fun _ => none) 0 (some (u4 0))) 1 (some (u7 0))) 2 (some (u10 0))) 3 (some (u13 0))) 4 (some (u16 0))))))))] ++ ((wH g u16 H0) ++ ((wH g u13 H0) ++ ((wH g u10 H0) ++ ((wH g u7 H0) ++ (wH g u4 H0))))))) _ := hP
  have hD : va_D A ([(b, .inr (2, [.ref q1, .int (nI 0), .int (nI 0)]))] ++ ([(q1, .inl (g.2.2.2.1, 6, .inr (.inr (.inr (.inr (va_up (va_up (va_up (va_up (va_up (fun _ => none) 0 (some (u4 0))) 1 (some (u7 0))) 2 (some (u10 0))) 3 (some (u13 0))) 4 (some (u16 0))))))))] ++ ((wH g u16 H0) ++ ((wH g u13 H0) ++ ((wH g u10 H0) ++ ((wH g u7 H0) ++ (wH g u4 H0))))))) := hD
  refine lv_iinc (v := (nI 5)) (lv' := [(1, .int (nI 5)), (0, .ref b)]) hx hb dX2_init_44 hl (k := 0) rfl (k_inc1 _) (by decide) rfl (fun ls hl => ?_)
  refine lv_goto (tgt := 25) hx hb dX2_init_47 (by decide) ?_
  refine lv_iload_n hx hb dX2_init_25 rfl (lv_at hl 0 rfl) ?_
  refine lv_bipush (v := (nI 6)) hx hb dX2_init_26 (by decide) ?_
  refine k_geN (tgt := 50) hx hb (by decide) (by decide) dX2_init_28 (by decide) (fun c17 => absurd c17 (by decide)) (fun c17 => ?_)
  refine lv_aload_n hx hb dX2_init_31 rfl (lv_at hl 1 rfl) ?_
  refine va_get (D := g.1) (ci := 2) (v := .ref q1) (C := RX2) (T := TX2) (N := 3) hx hb hts hiX2 hown hE.1 hP 0 rfl rfl 0 (by decide) f11 (fun _ h9 => h9) rfl dX2_init_32 ?_
  refine lv_iload_n hx hb dX2_init_35 rfl (lv_at hl 0 rfl) ?_
  refine va_new (ci := 1) (C := RX1) (T := TX1) (N := 12) (fs := raw1) hx hb hts hiX1 tyX1 tyX1_ok hown cl9 inX1 iniX1 hE.1 hP hD hS hA rfl (fun j hj => by rcases (show j = 0 ∨ j = 1 ∨ j = 2 ∨ j = 3 ∨ j = 4 ∨ j = 5 ∨ j = 6 ∨ j = 7 ∨ j = 8 ∨ j = 9 ∨ j = 10 ∨ j = 11 by omega) with rfl | rfl | rfl | rfl | rfl | rfl | rfl | rfl | rfl | rfl | rfl | rfl <;> rfl) (Nat.le_of_ble_eq_true rfl) (Nat.le_of_ble_eq_true rfl) dX2_init_36 (fun q18 H hP hD hS => ?_)
  have hP : va_P g.1 vwCl ([(b, .inr (2, [.ref q1, .int (nI 0), .int (nI 0)]))] ++ ([(q1, .inl (g.2.2.2.1, 6, .inr (.inr (.inr (.inr (va_up (va_up (va_up (va_up (va_up (fun _ => none) 0 (some (u4 0))) 1 (some (u7 0))) 2 (some (u10 0))) 3 (some (u13 0))) 4 (some (u16 0))))))))] ++ ((wH g u16 H0) ++ ((wH g u13 H0) ++ ((wH g u10 H0) ++ ((wH g u7 H0) ++ ((wH g u4 H0) ++ [(q18, .inr (1, raw1))]))))))) _ := hP
  have hD : va_D A ([(b, .inr (2, [.ref q1, .int (nI 0), .int (nI 0)]))] ++ ([(q1, .inl (g.2.2.2.1, 6, .inr (.inr (.inr (.inr (va_up (va_up (va_up (va_up (va_up (fun _ => none) 0 (some (u4 0))) 1 (some (u7 0))) 2 (some (u10 0))) 3 (some (u13 0))) 4 (some (u16 0))))))))] ++ ((wH g u16 H0) ++ ((wH g u13 H0) ++ ((wH g u10 H0) ++ ((wH g u7 H0) ++ ((wH g u4 H0) ++ [(q18, .inr (1, raw1))]))))))) := hD
  refine lv_dup hx hb dX2_init_39 rfl ?_
  have hP : va_P g.1 vwCl (([(b, .inr (2, [.ref q1, .int (nI 0), .int (nI 0)]))] ++ [(q1, .inl (g.2.2.2.1, 6, .inr (.inr (.inr (.inr (va_up (va_up (va_up (va_up (va_up (fun _ => none) 0 (some (u4 0))) 1 (some (u7 0))) 2 (some (u10 0))) 3 (some (u13 0))) 4 (some (u16 0))))))))]) ++ (((wH g u16 H0) ++ ((wH g u13 H0) ++ ((wH g u10 H0) ++ ((wH g u7 H0) ++ (wH g u4 H0))))) ++ [(q18, .inr (1, raw1))])) _ := hP
  have hD : va_D A (([(b, .inr (2, [.ref q1, .int (nI 0), .int (nI 0)]))] ++ [(q1, .inl (g.2.2.2.1, 6, .inr (.inr (.inr (.inr (va_up (va_up (va_up (va_up (va_up (fun _ => none) 0 (some (u4 0))) 1 (some (u7 0))) 2 (some (u10 0))) 3 (some (u13 0))) 4 (some (u16 0))))))))]) ++ (((wH g u16 H0) ++ ((wH g u13 H0) ++ ((wH g u10 H0) ++ ((wH g u7 H0) ++ (wH g u4 H0))))) ++ [(q18, .inr (1, raw1))])) := hD
  refine k_INn (As := []) (ws1 := (fun u => ([(b, .inr (2, [.ref q1, .int (nI 0), .int (nI 0)]))] ++ [(q1, .inl (g.2.2.2.1, 6, .inr (.inr (.inr (.inr (va_up (va_up (va_up (va_up (va_up (fun _ => none) 0 (some (u4 0))) 1 (some (u7 0))) 2 (some (u10 0))) 3 (some (u13 0))) 4 (some (u16 0))))))))]) ++ ((wH g u H0) ++ ((wH g u16 H0) ++ ((wH g u13 H0) ++ ((wH g u10 H0) ++ ((wH g u7 H0) ++ (wH g u4 H0)))))))) hF (c_X1_init l g q18) ⟨va_cnB 0 hts gX2_init_X1_init_n24 rfl rfl rfl hE.2.1.2.1 iniX1 (by decide +kernel) ⟨(Nat.le_of_ble_eq_true rfl), (Nat.le_of_ble_eq_true rfl)⟩, rfl, imX1⟩ hE hP hD hS hA (k_pm3r _ _ _) (fun _ => k_pm3 _ _ _) rfl hl.1 rfl (Nat.le_of_ble_eq_true rfl) dX2_init_40 ⟨(Nat.le_of_ble_eq_true rfl), (Nat.le_of_ble_eq_true rfl)⟩ (fun u19 H locs hu hP2 hD2 hS2 => ?_)
  have hu : (u19 0) = q18 := hu
  subst hu
  have hP := hP2
  have hD := hD2
  have hS := hS2
  have hP : va_P g.1 vwCl ([(b, .inr (2, [.ref q1, .int (nI 0), .int (nI 0)]))] ++ ([(q1, .inl (g.2.2.2.1, 6, .inr (.inr (.inr (.inr (va_up (va_up (va_up (va_up (va_up (fun _ => none) 0 (some (u4 0))) 1 (some (u7 0))) 2 (some (u10 0))) 3 (some (u13 0))) 4 (some (u16 0))))))))] ++ ((wH g u19 H0) ++ ((wH g u16 H0) ++ ((wH g u13 H0) ++ ((wH g u10 H0) ++ ((wH g u7 H0) ++ (wH g u4 H0)))))))) _ := hP
  have hD : va_D A ([(b, .inr (2, [.ref q1, .int (nI 0), .int (nI 0)]))] ++ ([(q1, .inl (g.2.2.2.1, 6, .inr (.inr (.inr (.inr (va_up (va_up (va_up (va_up (va_up (fun _ => none) 0 (some (u4 0))) 1 (some (u7 0))) 2 (some (u10 0))) 3 (some (u13 0))) 4 (some (u16 0))))))))] ++ ((wH g u19 H0) ++ ((wH g u16 H0) ++ ((wH g u13 H0) ++ ((wH g u10 H0) ++ ((wH g u7 H0) ++ (wH g u4 H0)))))))) := hD
  refine k_astq (f := (va_up (va_up (va_up (va_up (va_up (fun _ => none) 0 (some (u4 0))) 1 (some (u7 0))) 2 (some (u10 0))) 3 (some (u13 0))) 4 (some (u16 0)))) hx hb hE hP hD hS 1 2 rfl rfl 5 (by decide) (by decide) dX2_init_43 (fun H locs hP hD hS => ?_)
  have hP : va_P g.1 vwCl ([(b, .inr (2, [.ref q1, .int (nI 0), .int (nI 0)]))] ++ ([(q1, .inl (g.2.2.2.1, 6, .inr (.inr (.inr (.inr (va_up (va_up (va_up (va_up (va_up (va_up (fun _ => none) 0 (some (u4 0))) 1 (some (u7 0))) 2 (some (u10 0))) 3 (some (u13 0))) 4 (some (u16 0))) 5 (some (u19 0))))))))] ++ ((wH g u19 H0) ++ ((wH g u16 H0) ++ ((wH g u13 H0) ++ ((wH g u10 H0) ++ ((wH g u7 H0) ++ (wH g u4 H0)))))))) _ := hP
  have hD : va_D A ([(b, .inr (2, [.ref q1, .int (nI 0), .int (nI 0)]))] ++ ([(q1, .inl (g.2.2.2.1, 6, .inr (.inr (.inr (.inr (va_up (va_up (va_up (va_up (va_up (va_up (fun _ => none) 0 (some (u4 0))) 1 (some (u7 0))) 2 (some (u10 0))) 3 (some (u13 0))) 4 (some (u16 0))) 5 (some (u19 0))))))))] ++ ((wH g u19 H0) ++ ((wH g u16 H0) ++ ((wH g u13 H0) ++ ((wH g u10 H0) ++ ((wH g u7 H0) ++ (wH g u4 H0)))))))) := hD
  refine lv_iinc (v := (nI 6)) (lv' := [(1, .int (nI 6)), (0, .ref b)]) hx hb dX2_init_44 hl (k := 0) rfl (k_inc1 _) (by decide) rfl (fun ls hl => ?_)
  refine lv_goto (tgt := 25) hx hb dX2_init_47 (by decide) ?_
  refine lv_iload_n hx hb dX2_init_25 rfl (lv_at hl 0 rfl) ?_
  refine lv_bipush (v := (nI 6)) hx hb dX2_init_26 (by decide) ?_
  refine k_geN (tgt := 50) hx hb (by decide) (by decide) dX2_init_28 (by decide) (fun c20 => ?_) (fun c20 => absurd c20 (by decide))
  have hP : va_P g.1 vwCl ((wK0 g (ad2 b q1) (ak6 u4 u7 u10 u13 u16 u19) K0) ++ (wHs g (ak6 u4 u7 u10 u13 u16 u19) (fun _ => H0) 6)) _ := k_PQ_ext (ws := ([(b, .inr (2, [.ref q1, .int (nI 0), .int (nI 0)]))] ++ ([(q1, .inl (g.2.2.2.1, 6, .inr (.inr (.inr (.inr (va_up (va_up (va_up (va_up (va_up (va_up (fun _ => none) 0 (some (u4 0))) 1 (some (u7 0))) 2 (some (u10 0))) 3 (some (u13 0))) 4 (some (u16 0))) 5 (some (u19 0))))))))] ++ ((wH g u19 H0) ++ ((wH g u16 H0) ++ ((wH g u13 H0) ++ ((wH g u10 H0) ++ ((wH g u7 H0) ++ (wH g u4 H0))))))))) (p := 1) (a := q1) (f := (va_up (va_up (va_up (va_up (va_up (va_up (fun _ => none) 0 (some (u4 0))) 1 (some (u7 0))) 2 (some (u10 0))) 3 (some (u13 0))) 4 (some (u16 0))) 5 (some (u19 0)))) (f2 := fun i => some ((ak6 u4 u7 u10 u13 u16 u19) i 0)) rfl rfl (fun k hk => by rcases (show k = 0 ∨ k = 1 ∨ k = 2 ∨ k = 3 ∨ k = 4 ∨ k = 5 by omega) with rfl | rfl | rfl | rfl | rfl | rfl <;> rfl) hP
  have hD : va_D A ((wK0 g (ad2 b q1) (ak6 u4 u7 u10 u13 u16 u19) K0) ++ (wHs g (ak6 u4 u7 u10 u13 u16 u19) (fun _ => H0) 6)) := k_D_ext (ws := ([(b, .inr (2, [.ref q1, .int (nI 0), .int (nI 0)]))] ++ ([(q1, .inl (g.2.2.2.1, 6, .inr (.inr (.inr (.inr (va_up (va_up (va_up (va_up (va_up (va_up (fun _ => none) 0 (some (u4 0))) 1 (some (u7 0))) 2 (some (u10 0))) 3 (some (u13 0))) 4 (some (u16 0))) 5 (some (u19 0))))))))] ++ ((wH g u19 H0) ++ ((wH g u16 H0) ++ ((wH g u13 H0) ++ ((wH g u10 H0) ++ ((wH g u7 H0) ++ (wH g u4 H0))))))))) 1 rfl rfl hD
  exact k_nret ((ad2 b q1, (ak6 u4 u7 u10 u13 u16 u19)) : (Nat → Nat) × (Nat → Nat → Nat)) hx hb hr hlocks rfl hP hD hS (Nat.le_of_ble_eq_true rfl) (Nat.le_of_ble_eq_true rfl) dX2_init_50
end
section
set_option maxHeartbeats 4000000 in
set_option maxRecDepth 100000 in
theorem c_X3_init (l : Launch) (g : kG) (b : Nat) : KN l yX3_init wsX3_init ({ frames := 3, cells := 32, slots := 869, locals := 61 }) g [.ref b] [(b, .inr (3, raw3))] (fun _ : (Nat → Nat) × (Nat → Nat) × (Nat → Nat) × (Nat → Nat → Nat) => True) (fun u => (wU b (u.1 0) (u.2.2.1 0) (u.2.1 0)) ++ ((wH g u.1 H0) ++ ((wT g u.2.1 T0) ++ ((wK0 g u.2.2.1 u.2.2.2 K0) ++ (wHs g u.2.2.2 (fun _ => H0) 6))))) 32 869 := by
  refine k_begin (cc := cX3_init) (maxL := 1) (ret := none) (Qc := fun A => kQn g (fun _ : (Nat → Nat) × (Nat → Nat) × (Nat → Nat) × (Nat → Nat → Nat) => True) (fun u => (wU b (u.1 0) (u.2.2.1 0) (u.2.1 0)) ++ ((wH g u.1 H0) ++ ((wT g u.2.1 T0) ++ ((wK0 g u.2.2.1 u.2.2.2 K0) ++ (wHs g u.2.2.2 (fun _ => H0) 6))))) A) (by decide) rfl (Nat.le_of_ble_eq_true rfl) ?_
  intro p e s m below meth c A ls hF hr hlocks hin hE hP hD hS hA hl
  obtain ⟨hx, hb, hml, hown, hts⟩ := id hF
  have hown : s.vm.findClass RX3 = some m.cls := hown
  have hl : lv_has ls 1 [(0, .ref b)] := hl
  have hP : va_P g.1 vwCl [(b, .inr (3, [.null, .null, .null]))] _ := hP
  have hD : va_D A [(b, .inr (3, [.null, .null, .null]))] := hD
  have hiX1 : ∀ w ∈ wsX10, w ∈ wsX3_init := fun _ h => List.mem_cons_of_mem _ (List.mem_append_left _ (List.mem_append_left _ (List.mem_append_left _ (List.mem_append_right _ (h)))))
  have hiX3 : ∀ w ∈ wsX30, w ∈ wsX3_init := fun _ h => List.mem_cons_of_mem _ (List.mem_append_left _ (List.mem_append_left _ (List.mem_append_right _ (h))))
  have hiX2 : ∀ w ∈ wsX20, w ∈ wsX3_init := fun _ h => List.mem_cons_of_mem _ (List.mem_append_left _ (List.mem_append_right _ (h)))
  have hiX0 : ∀ w ∈ wsX00, w ∈ wsX3_init := fun _ h => List.mem_cons_of_mem _ (List.mem_append_right _ (h))
  have oil : (Cond.methodLink RX3 3 objectInit).before _ s = true := hts _ (List.mem_of_getElem? (i := 1) rfl)
  have oii : (Cond.instanceMethod objectInit).before _ s = true := hts _ (List.mem_of_getElem? (i := 2) rfl)
  have cl9 : (Cond.classLink RX3 9 RX1).before _ s = true := hts _ (List.mem_of_getElem? (i := 4) rfl)
  have inX1 : (Cond.instantiable RX1 12).before _ s = true := hts _ (List.mem_of_getElem? (i := 5) rfl)
  have iniX1 : (Cond.initialized RX1).before _ s = true := hts _ (List.mem_of_getElem? (i := 6) rfl)
  have imX1 : (Cond.instanceMethod yX1_init).before _ s = true := hts _ (List.mem_of_getElem? (i := 16) rfl)
  have f12 : (Cond.fieldLink RX3 12 "ConcertUsher" "hall" "LConcertUsher$Hall;").before _ s = true := hts _ (List.mem_of_getElem? (i := 7) rfl)
  have cl16 : (Cond.classLink RX3 16 RX2).before _ s = true := hts _ (List.mem_of_getElem? (i := 8) rfl)
  have inX2 : (Cond.instantiable RX2 3).before _ s = true := hts _ (List.mem_of_getElem? (i := 9) rfl)
  have iniX2 : (Cond.initialized RX2).before _ s = true := hts _ (List.mem_of_getElem? (i := 10) rfl)
  have imX2 : (Cond.instanceMethod yX2_init).before _ s = true := hts _ (List.mem_of_getElem? (i := 33) rfl)
  have mlX2 : (Cond.methodLink RX3 18 yX2_init).before _ s = true := hts _ (List.mem_of_getElem? (i := 32) rfl)
  have f19 : (Cond.fieldLink RX3 19 "ConcertUsher" "history" "LConcertUsher$History;").before _ s = true := hts _ (List.mem_of_getElem? (i := 11) rfl)
  have cl23 : (Cond.classLink RX3 23 RX0).before _ s = true := hts _ (List.mem_of_getElem? (i := 12) rfl)
  have inX0 : (Cond.instantiable RX0 2).before _ s = true := hts _ (List.mem_of_getElem? (i := 13) rfl)
  have iniX0 : (Cond.initialized RX0).before _ s = true := hts _ (List.mem_of_getElem? (i := 14) rfl)
  have imX0 : (Cond.instanceMethod yX0_init).before _ s = true := hts _ (List.mem_of_getElem? (i := 40) rfl)
  have f26 : (Cond.fieldLink RX3 26 "ConcertUsher" "text" "LConcertUsher$EventText;").before _ s = true := hts _ (List.mem_of_getElem? (i := 15) rfl)
  refine lv_aload_n hx hb dX3_init_0 rfl (lv_at hl 0 rfl) ?_
  refine W.objInit hx hb hown oil oii (hts _ (List.mem_of_getElem? (i := 3) rfl)) rfl (by rw [hml]; exact hl.1) rfl dX3_init_1 (Nat.le_of_ble_eq_true rfl) (Nat.le_of_ble_eq_true rfl) ?_
  refine W.eq (g2 := F0 m 4 ls []) rfl ?_
  refine lv_aload_n hx hb dX3_init_4 rfl (lv_at hl 0 rfl) ?_
  refine va_new (ci := 1) (C := RX1) (T := TX1) (N := 12) (fs := raw1) hx hb hts hiX1 tyX1 tyX1_ok hown cl9 inX1 iniX1 hE.1 hP hD hS hA rfl (fun j hj => by rcases (show j = 0 ∨ j = 1 ∨ j = 2 ∨ j = 3 ∨ j = 4 ∨ j = 5 ∨ j = 6 ∨ j = 7 ∨ j = 8 ∨ j = 9 ∨ j = 10 ∨ j = 11 by omega) with rfl | rfl | rfl | rfl | rfl | rfl | rfl | rfl | rfl | rfl | rfl | rfl <;> rfl) (Nat.le_of_ble_eq_true rfl) (Nat.le_of_ble_eq_true rfl) dX3_init_5 (fun q1 H hP hD hS => ?_)
  have hP : va_P g.1 vwCl ([(b, .inr (3, [.null, .null, .null]))] ++ [(q1, .inr (1, raw1))]) _ := hP
  have hD : va_D A ([(b, .inr (3, [.null, .null, .null]))] ++ [(q1, .inr (1, raw1))]) := hD
  refine lv_dup hx hb dX3_init_8 rfl ?_
  have hP : va_P g.1 vwCl ([(b, .inr (3, [.null, .null, .null]))] ++ [(q1, .inr (1, raw1))]) _ := hP
  have hD : va_D A ([(b, .inr (3, [.null, .null, .null]))] ++ [(q1, .inr (1, raw1))]) := hD
  refine k_INn (As := []) (ws1 := (fun u => [(b, .inr (3, [.null, .null, .null]))] ++ (wH g u H0))) hF (c_X1_init l g q1) ⟨va_cnB 0 hts gX3_init_X1_init_n11 rfl rfl rfl hE.2.1.2.2.1 iniX1 (by decide +kernel) ⟨(Nat.le_of_ble_eq_true rfl), (Nat.le_of_ble_eq_true rfl)⟩, rfl, imX1⟩ hE hP hD hS hA List.perm_append_comm (fun _ => List.perm_append_comm) rfl hl.1 rfl (Nat.le_of_ble_eq_true rfl) dX3_init_9 ⟨(Nat.le_of_ble_eq_true rfl), (Nat.le_of_ble_eq_true rfl)⟩ (fun u2 H locs hu hP2 hD2 hS2 => ?_)
  have hu : (u2 0) = q1 := hu
  subst hu
  have hP := hP2
  have hD := hD2
  have hS := hS2
  have hP : va_P g.1 vwCl ([(b, .inr (3, [.null, .null, .null]))] ++ (wH g u2 H0)) _ := hP
  have hD : va_D A ([(b, .inr (3, [.null, .null, .null]))] ++ (wH g u2 H0)) := hD
  refine va_putF (D := g.1) (ci := 3) (v := .ref (u2 0)) (ty := tyX3 0) (C := RX3) (T := TX3) (N := 3) hx hb hts hiX3 tyX3 tyX3_ok nmX3 hown hE.1 hP hD hS 0 rfl rfl 0 (by decide) f12 (fun _ h9 => h9) rfl hin rfl (tyX3_ok 0 (by decide)) rfl rfl (Nat.le_of_ble_eq_true rfl) dX3_init_12 (fun H locs hP hD hS => ?_)
  have hP : va_P g.1 vwCl ([(b, .inr (3, [.ref (u2 0), .null, .null]))] ++ (wH g u2 H0)) _ := hP
  have hD : va_D A ([(b, .inr (3, [.ref (u2 0), .null, .null]))] ++ (wH g u2 H0)) := hD
  refine lv_aload_n hx hb dX3_init_15 rfl (lv_at hl 0 rfl) ?_
  refine va_new (ci := 2) (C := RX2) (T := TX2) (N := 3) (fs := raw2) hx hb hts hiX2 tyX2 tyX2_ok hown cl16 inX2 iniX2 hE.1 hP hD hS hA rfl (fun j hj => by rcases (show j = 0 ∨ j = 1 ∨ j = 2 by omega) with rfl | rfl | rfl <;> rfl) (Nat.le_of_ble_eq_true rfl) (Nat.le_of_ble_eq_true rfl) dX3_init_16 (fun q3 H hP hD hS => ?_)
  have hP : va_P g.1 vwCl ([(b, .inr (3, [.ref (u2 0), .null, .null]))] ++ ((wH g u2 H0) ++ [(q3, .inr (2, raw2))])) _ := hP
  have hD : va_D A ([(b, .inr (3, [.ref (u2 0), .null, .null]))] ++ ((wH g u2 H0) ++ [(q3, .inr (2, raw2))])) := hD
  refine lv_dup hx hb dX3_init_19 rfl ?_
  have hP : va_P g.1 vwCl (([(b, .inr (3, [.ref (u2 0), .null, .null]))] ++ (wH g u2 H0)) ++ [(q3, .inr (2, raw2))]) _ := hP
  have hD : va_D A (([(b, .inr (3, [.ref (u2 0), .null, .null]))] ++ (wH g u2 H0)) ++ [(q3, .inr (2, raw2))]) := hD
  refine k_In (As := []) (ws1 := (fun u => ([(b, .inr (3, [.ref (u2 0), .null, .null]))] ++ (wH g u2 H0)) ++ ((wK0 g u.1 u.2 K0) ++ (wHs g u.2 (fun _ => H0) 6)))) hF (c_X2_init l g q3) ⟨callB_of 0 hts gX3_init_X2_init rfl rfl rfl iniX2 mlX2 (by decide +kernel) ⟨(Nat.le_of_ble_eq_true rfl), (Nat.le_of_ble_eq_true rfl)⟩, rfl, imX2⟩ hE hP hD hS hA List.perm_append_comm (fun _ => List.perm_append_comm) rfl hl.1 rfl (Nat.le_of_ble_eq_true rfl) dX3_init_20 ⟨(Nat.le_of_ble_eq_true rfl), (Nat.le_of_ble_eq_true rfl)⟩ (fun u4 H locs hu hP2 hD2 hS2 => ?_)
  have hu : (u4.1 0) = q3 := hu
  subst hu
  have hP := hP2
  have hD := hD2
  have hS := hS2
  have hP : va_P g.1 vwCl ([(b, .inr (3, [.ref (u2 0), .null, .null]))] ++ ((wH g u2 H0) ++ ((wK0 g u4.1 u4.2 K0) ++ (wHs g u4.2 (fun _ => H0) 6)))) _ := hP
  have hD : va_D A ([(b, .inr (3, [.ref (u2 0), .null, .null]))] ++ ((wH g u2 H0) ++ ((wK0 g u4.1 u4.2 K0) ++ (wHs g u4.2 (fun _ => H0) 6)))) := hD
  refine va_putF (D := g.1) (ci := 3) (v := .ref (u4.1 0)) (ty := tyX3 1) (C := RX3) (T := TX3) (N := 3) hx hb hts hiX3 tyX3 tyX3_ok nmX3 hown hE.1 hP hD hS 0 rfl rfl 1 (by decide) f19 (fun _ h9 => h9) rfl hin rfl (tyX3_ok 1 (by decide)) rfl rfl (Nat.le_of_ble_eq_true rfl) dX3_init_23 (fun H locs hP hD hS => ?_)
  have hP : va_P g.1 vwCl ([(b, .inr (3, [.ref (u2 0), .ref (u4.1 0), .null]))] ++ ((wH g u2 H0) ++ ((wK0 g u4.1 u4.2 K0) ++ (wHs g u4.2 (fun _ => H0) 6)))) _ := hP
  have hD : va_D A ([(b, .inr (3, [.ref (u2 0), .ref (u4.1 0), .null]))] ++ ((wH g u2 H0) ++ ((wK0 g u4.1 u4.2 K0) ++ (wHs g u4.2 (fun _ => H0) 6)))) := hD
  refine lv_aload_n hx hb dX3_init_26 rfl (lv_at hl 0 rfl) ?_
  refine va_new (ci := 0) (C := RX0) (T := TX0) (N := 2) (fs := raw0) hx hb hts hiX0 tyX0 tyX0_ok hown cl23 inX0 iniX0 hE.1 hP hD hS hA rfl (fun j hj => by rcases (show j = 0 ∨ j = 1 by omega) with rfl | rfl <;> rfl) (Nat.le_of_ble_eq_true rfl) (Nat.le_of_ble_eq_true rfl) dX3_init_27 (fun q5 H hP hD hS => ?_)
  have hP : va_P g.1 vwCl ([(b, .inr (3, [.ref (u2 0), .ref (u4.1 0), .null]))] ++ ((wH g u2 H0) ++ (((wK0 g u4.1 u4.2 K0) ++ (wHs g u4.2 (fun _ => H0) 6)) ++ [(q5, .inr (0, raw0))]))) _ := hP
  have hD : va_D A ([(b, .inr (3, [.ref (u2 0), .ref (u4.1 0), .null]))] ++ ((wH g u2 H0) ++ (((wK0 g u4.1 u4.2 K0) ++ (wHs g u4.2 (fun _ => H0) 6)) ++ [(q5, .inr (0, raw0))]))) := hD
  refine lv_dup hx hb dX3_init_30 rfl ?_
  have hP : va_P g.1 vwCl (([(b, .inr (3, [.ref (u2 0), .ref (u4.1 0), .null]))] ++ ((wH g u2 H0) ++ ((wK0 g u4.1 u4.2 K0) ++ (wHs g u4.2 (fun _ => H0) 6)))) ++ [(q5, .inr (0, raw0))]) _ := hP
  have hD : va_D A (([(b, .inr (3, [.ref (u2 0), .ref (u4.1 0), .null]))] ++ ((wH g u2 H0) ++ ((wK0 g u4.1 u4.2 K0) ++ (wHs g u4.2 (fun _ => H0) 6)))) ++ [(q5, .inr (0, raw0))]) := hD
  refine k_INn (As := []) (ws1 := (fun u => ([(b, .inr (3, [.ref (u2 0), .ref (u4.1 0), .null]))] ++ ((wH g u2 H0) ++ ((wK0 g u4.1 u4.2 K0) ++ (wHs g u4.2 (fun _ => H0) 6)))) ++ (wT g u T0))) hF (c_X0_init l g q5) ⟨va_cnB 0 hts gX3_init_X0_init_n25 rfl rfl rfl hE.2.1.2.2.2 iniX0 (by decide +kernel) ⟨(Nat.le_of_ble_eq_true rfl), (Nat.le_of_ble_eq_true rfl)⟩, rfl, imX0⟩ hE hP hD hS hA List.perm_append_comm (fun _ => List.perm_append_comm) rfl hl.1 rfl (Nat.le_of_ble_eq_true rfl) dX3_init_31 ⟨(Nat.le_of_ble_eq_true rfl), (Nat.le_of_ble_eq_true rfl)⟩ (fun u6 H locs hu hP2 hD2 hS2 => ?_)
  have hu : (u6 0) = q5 := hu
  subst hu
  have hP := hP2
  have hD := hD2
  have hS := hS2
  have hP : va_P g.1 vwCl ([(b, .inr (3, [.ref (u2 0), .ref (u4.1 0), .null]))] ++ ((wH g u2 H0) ++ (((wK0 g u4.1 u4.2 K0) ++ (wHs g u4.2 (fun _ => H0) 6)) ++ (wT g u6 T0)))) _ := hP
  have hD : va_D A ([(b, .inr (3, [.ref (u2 0), .ref (u4.1 0), .null]))] ++ ((wH g u2 H0) ++ (((wK0 g u4.1 u4.2 K0) ++ (wHs g u4.2 (fun _ => H0) 6)) ++ (wT g u6 T0)))) := hD
  refine va_putF (D := g.1) (ci := 3) (v := .ref (u6 0)) (ty := tyX3 2) (C := RX3) (T := TX3) (N := 3) hx hb hts hiX3 tyX3 tyX3_ok nmX3 hown hE.1 hP hD hS 0 rfl rfl 2 (by decide) f26 (fun _ h9 => h9) rfl hin rfl (tyX3_ok 2 (by decide)) rfl rfl (Nat.le_of_ble_eq_true rfl) dX3_init_34 (fun H locs hP hD hS => ?_)
  have hP : va_P g.1 vwCl ([(b, .inr (3, [.ref (u2 0), .ref (u4.1 0), .ref (u6 0)]))] ++ ((wH g u2 H0) ++ (((wK0 g u4.1 u4.2 K0) ++ (wHs g u4.2 (fun _ => H0) 6)) ++ (wT g u6 T0)))) _ := hP
  have hD : va_D A ([(b, .inr (3, [.ref (u2 0), .ref (u4.1 0), .ref (u6 0)]))] ++ ((wH g u2 H0) ++ (((wK0 g u4.1 u4.2 K0) ++ (wHs g u4.2 (fun _ => H0) 6)) ++ (wT g u6 T0)))) := hD
  have hP : va_P g.1 vwCl ((wU b (u2 0) (u4.1 0) (u6 0)) ++ ((wH g u2 H0) ++ (((wK0 g u4.1 u4.2 K0) ++ (wHs g u4.2 (fun _ => H0) 6)) ++ (wT g u6 T0)))) _ := hP
  have hD : va_D A ((wU b (u2 0) (u4.1 0) (u6 0)) ++ ((wH g u2 H0) ++ (((wK0 g u4.1 u4.2 K0) ++ (wHs g u4.2 (fun _ => H0) 6)) ++ (wT g u6 T0)))) := hD
  have hP : va_P g.1 vwCl ((wU b (u2 0) (u4.1 0) (u6 0)) ++ ((wH g u2 H0) ++ ((wT g u6 T0) ++ ((wK0 g u4.1 u4.2 K0) ++ (wHs g u4.2 (fun _ => H0) 6))))) _ := k_P_perm (k_pmX _ _ _ _) hP
  have hD : va_D A ((wU b (u2 0) (u4.1 0) (u6 0)) ++ ((wH g u2 H0) ++ ((wT g u6 T0) ++ ((wK0 g u4.1 u4.2 K0) ++ (wHs g u4.2 (fun _ => H0) 6))))) := k_D_perm (k_pmX _ _ _ _) hD
  exact k_nret ((u2, u6, u4.1, u4.2) : (Nat → Nat) × (Nat → Nat) × (Nat → Nat) × (Nat → Nat → Nat)) hx hb hr hlocks trivial hP hD hS (Nat.le_of_ble_eq_true rfl) (Nat.le_of_ble_eq_true rfl) dX3_init_37
end
