/-! rows of bits -/
theorem bw_and {x y z w : Int32} (h1 : x &&& w = 0) (h2 : y &&& z = 0) : (x ||| y) &&& (z ||| w) = (x &&& z) ||| (y &&& w) := by
  apply Int32.toBitVec_inj.mp
  have e1 : x.toBitVec &&& w.toBitVec = 0#32 := by rw [← Int32.toBitVec_and, h1]; rfl
  have e2 : y.toBitVec &&& z.toBitVec = 0#32 := by rw [← Int32.toBitVec_and, h2]; rfl
  simp only [Int32.toBitVec_and, Int32.toBitVec_or]
  apply BitVec.eq_of_getLsbD_eq
  intro i hi
  have a1 : (x.toBitVec &&& w.toBitVec).getLsbD i = false := by rw [e1]; simp
  have a2 : (y.toBitVec &&& z.toBitVec).getLsbD i = false := by rw [e2]; simp
  rw [BitVec.getLsbD_and] at a1 a2
  simp only [BitVec.getLsbD_and, BitVec.getLsbD_or]
  revert a1 a2
  cases x.toBitVec.getLsbD i <;> cases y.toBitVec.getLsbD i <;> cases z.toBitVec.getLsbD i <;> cases w.toBitVec.getLsbD i <;> simp
theorem bw_not {x y z w : Int32} (h1 : x &&& w = 0) (h2 : y &&& z = 0) : (x ||| y) &&& ((z ||| w) ^^^ (-1)) = (x &&& (z ^^^ (-1))) ||| (y &&& (w ^^^ (-1))) := by
  apply Int32.toBitVec_inj.mp
  have e1 : x.toBitVec &&& w.toBitVec = 0#32 := by rw [← Int32.toBitVec_and, h1]; rfl
  have e2 : y.toBitVec &&& z.toBitVec = 0#32 := by rw [← Int32.toBitVec_and, h2]; rfl
  have e3 : (-1 : Int32).toBitVec = BitVec.allOnes 32 := by decide
  simp only [Int32.toBitVec_and, Int32.toBitVec_or, Int32.toBitVec_xor, e3]
  apply BitVec.eq_of_getLsbD_eq
  intro i hi
  have a1 : (x.toBitVec &&& w.toBitVec).getLsbD i = false := by rw [e1]; simp
  have a2 : (y.toBitVec &&& z.toBitVec).getLsbD i = false := by rw [e2]; simp
  rw [BitVec.getLsbD_and] at a1 a2
  simp only [BitVec.getLsbD_and, BitVec.getLsbD_or, BitVec.getLsbD_xor, BitVec.getLsbD_allOnes]
  revert a1 a2
  cases x.toBitVec.getLsbD i <;> cases y.toBitVec.getLsbD i <;> cases z.toBitVec.getLsbD i <;> cases w.toBitVec.getLsbD i <;> simp [hi]
abbrev bit (n : Nat) : Int32 := nI 1 <<< (nI n &&& 31)
/-- the bits below n where P says so -/
def orb (P : Nat → Bool) : Nat → Int32
  | 0 => nI 0
  | n + 1 => orb P n ||| (if P n = true then bit n else nI 0)
theorem bit_ne : ∀ i, i < 8 → ∀ j, j < 8 → i ≠ j → bit i &&& bit j = 0 := by decide +kernel
theorem and_or {a b c : Int32} (h1 : a &&& c = 0) (h2 : b &&& c = 0) : (a ||| b) &&& c = 0 := by
  have h := bw_and (x := a) (y := b) (z := c) (w := 0) (by rw [Int32.and_zero]) h2
  rw [Int32.or_zero, h1, Int32.and_zero, Int32.or_zero] at h
  exact h
theorem orb_bit (P : Nat → Bool) (m : Nat) (hm : m < 8) : ∀ n, n ≤ m → orb P n &&& bit m = 0 := by
  intro n
  induction n with
  | zero => exact fun _ => Int32.zero_and
  | succ n ih =>
    intro hn
    refine and_or (ih (by omega)) ?_
    by_cases c : P n = true
    · rw [if_pos c]; exact bit_ne n (by omega) m hm (by omega)
    · rw [if_neg c]; exact Int32.zero_and
theorem orb_sel (P : Nat → Bool) (c : Bool) (m : Nat) (hm : m < 8) : orb P m &&& (if c = true then bit m else nI 0) = 0 := by
  by_cases h : c = true
  · rw [if_pos h]; exact orb_bit P m hm m (Nat.le_refl m)
  · rw [if_neg h]; exact Int32.and_zero
theorem orb_and (P Q : Nat → Bool) : ∀ n, n ≤ 8 → orb P n &&& orb Q n = orb (fun k => P k && Q k) n := by
  intro n
  induction n with
  | zero => exact fun _ => (by decide : nI 0 &&& nI 0 = nI 0)
  | succ n ih =>
    intro hn
    show (orb P n ||| _) &&& (orb Q n ||| _) = orb (fun k => P k && Q k) n ||| (if (P n && Q n) = true then bit n else nI 0)
    rw [bw_and (orb_sel P (Q n) n hn) (by rw [Int32.and_comm]; exact orb_sel Q (P n) n hn), ih (by omega)]
    congr 1
    cases P n <;> cases Q n <;> simp [nz]
theorem orb_not (P Q : Nat → Bool) : ∀ n, n ≤ 8 → orb P n &&& (orb Q n ^^^ (-1)) = orb (fun k => P k && !Q k) n := by
  intro n
  induction n with
  | zero => exact fun _ => (by decide : nI 0 &&& (nI 0 ^^^ (-1)) = nI 0)
  | succ n ih =>
    intro hn
    show (orb P n ||| _) &&& ((orb Q n ||| _) ^^^ (-1)) = orb (fun k => P k && !Q k) n ||| (if (P n && !Q n) = true then bit n else nI 0)
    rw [bw_not (orb_sel P (Q n) n hn) (by rw [Int32.and_comm]; exact orb_sel Q (P n) n hn), ih (by omega)]
    congr 1
    have h9 : ∀ i, i < 8 → bit i &&& (bit i ^^^ (-1)) = 0 ∧ bit i &&& (nI 0 ^^^ (-1)) = bit i ∧ nI 0 &&& (bit i ^^^ (-1)) = 0 := by decide +kernel
    obtain ⟨g1, g2, g3⟩ := h9 n hn
    cases P n <;> cases Q n
    · exact (by decide : nI 0 &&& (nI 0 ^^^ (-1)) = nI 0)
    · exact g3
    · exact g2
    · exact g1
/-- how many -/
def cnb (P : Nat → Bool) : Nat → Nat
  | 0 => 0
  | n + 1 => cnb P n + (if P n = true then 1 else 0)
def o8 (a b c d e f g h : Bool) : Int32 := ((((((((nI 0 ||| (if a = true then bit 0 else nI 0)) ||| (if b = true then bit 1 else nI 0)) ||| (if c = true then bit 2 else nI 0)) ||| (if d = true then bit 3 else nI 0)) ||| (if e = true then bit 4 else nI 0)) ||| (if f = true then bit 5 else nI 0)) ||| (if g = true then bit 6 else nI 0)) ||| (if h = true then bit 7 else nI 0))
def c8 (a b c d e f g h : Bool) : Nat := ((((((((0 + (if a = true then 1 else 0)) + (if b = true then 1 else 0)) + (if c = true then 1 else 0)) + (if d = true then 1 else 0)) + (if e = true then 1 else 0)) + (if f = true then 1 else 0)) + (if g = true then 1 else 0)) + (if h = true then 1 else 0))
theorem bc_o8 : ∀ a b c d e f g h : Bool, bc (o8 a b c d e f g h) = nI (c8 a b c d e f g h) := by decide +kernel
theorem bc_orb (P : Nat → Bool) : bc (orb P 8) = nI (cnb P 8) := bc_o8 (P 0) (P 1) (P 2) (P 3) (P 4) (P 5) (P 6) (P 7)
/-- a row of doors as its bits -/
def opb (x : Int32) (r : Nat) : Bool := decide ((x >>> (nI r &&& 31)) &&& nI 1 = nI 1)
theorem opb_all : ∀ w, w < 256 → orb (opb (nI w)) 8 = nI w := by decide +kernel
theorem turn_all : ∀ w, w < 256 → ∀ r, r < 8 → nI w ^^^ bit r = nI (w ^^^ (1 <<< r)) ∧ w ^^^ (1 <<< r) < 256 := by decide +kernel
theorem turn_bits : ∀ w, w < 256 → ∀ r, r < 8 → ∀ j, j < 8 → opb (nI (w ^^^ (1 <<< r))) j = (if j = r then !opb (nI w) r else opb (nI w) j) := by decide +kernel
/-! what the methods that ask answer -/
theorem mul6 (n c : Nat) : 6 * n + c = n * 6 + c := by omega
theorem ent_eq {h : HSt} {s : Nat → Int32} (r : RelS h s) : ∀ n, n ≤ 48 → Ment s n = nI (Hent (hR h) n) := by
  intro n
  induction n with
  | zero => exact fun _ => rfl
  | succ n ih =>
    intro hn
    have e : s (69 + n) = hR h n := r.2.1 n hn
    show Ment s n + bI (¬ s (69 + n) ≤ 0) = nI (if hR h n ≤ 0 then Hent (hR h) n else Hent (hR h) n + 1)
    rw [ih (by omega)]
    by_cases c : hR h n ≤ 0
    · rw [if_pos c, bI_f (by rw [e]; exact not_not_intro c), nI_add, Nat.add_zero]
    · rw [if_neg c, bI_t (by rw [e]; exact c), nI_add]
theorem wan_eq {h : HSt} {s : Nat → Int32} (r : RelS h s) {c : Nat} (hc : c < 6) : ∀ n, n ≤ 8 → Mwan s c n = Hwant h c n := by
  intro n
  induction n with
  | zero => exact fun _ => rfl
  | succ n ih =>
    intro hn
    have e : s (21 + (6 * n + c)) = hL h (n * 6 + c) := by rw [mul6]; exact r.1 _ (by omega)
    show Mwan s c n ||| (if ¬ s (21 + (6 * n + c)) ≤ 0 then bit n else nI 0) = if ¬ hL h (n * 6 + c) ≤ 0 then Hwant h c n ||| bit n else Hwant h c n
    rw [ih (by omega), e]
    by_cases d : hL h (n * 6 + c) ≤ 0
    · rw [if_neg (not_not_intro d), if_neg (not_not_intro d), nz, Int32.or_zero]
    · rw [if_pos d, if_pos d]
def wB (h : HSt) (c r : Nat) : Bool := decide (¬ hL h (r * 6 + c) ≤ 0)
def gB (h : HSt) (c r : Nat) : Bool := opb (hop h) r || decide (¬ hR h (r * 6 + c) ≤ 0)
theorem want_orb (h : HSt) (c : Nat) : ∀ n, Hwant h c n = orb (wB h c) n := by
  intro n
  induction n with
  | zero => rfl
  | succ n ih =>
    show (if ¬ hL h (n * 6 + c) ≤ 0 then Hwant h c n ||| bit n else Hwant h c n) = orb (wB h c) n ||| (if wB h c n = true then bit n else nI 0)
    rw [ih]
    by_cases d : hL h (n * 6 + c) ≤ 0
    · rw [if_neg (not_not_intro d), if_neg (by unfold wB; simp [d]), nz, Int32.or_zero]
    · rw [if_pos d, if_pos (by unfold wB; simp [d])]
def reN (h : HSt) (c r : Nat) : Bool := decide (¬ hR h (r * 6 + c) ≤ 0)
theorem get_re (h : HSt) (c : Nat) : ∀ n, Hget h c n = hop h ||| orb (reN h c) n := by
  intro n
  induction n with
  | zero => exact Int32.or_zero.symm
  | succ n ih =>
    show (if hR h (n * 6 + c) ≤ 0 then Hget h c n else Hget h c n ||| bit n) = hop h ||| (orb (reN h c) n ||| (if reN h c n = true then bit n else nI 0))
    rw [ih]
    by_cases d : hR h (n * 6 + c) ≤ 0
    · rw [if_pos d, if_neg (by unfold reN; simp [d]), nz, Int32.or_zero]
    · rw [if_neg d, if_pos (by unfold reN; simp [d]), Int32.or_assoc]
theorem or4 (a b c : Int32) : (a ||| c) ||| (b ||| c) = (a ||| b) ||| c := by
  rw [Int32.or_assoc a c, ← Int32.or_assoc c b c, Int32.or_comm c b, Int32.or_assoc b c c, Int32.or_self, ← Int32.or_assoc]
theorem orb_or (P Q : Nat → Bool) (n : Nat) : orb P n ||| orb Q n = orb (fun k => P k || Q k) n := by
  induction n with
  | zero => exact (by decide : nI 0 ||| nI 0 = nI 0)
  | succ n ih =>
    show (orb P n ||| (if P n = true then bit n else nI 0)) ||| (orb Q n ||| (if Q n = true then bit n else nI 0)) = orb (fun k => P k || Q k) n ||| (if (P n || Q n) = true then bit n else nI 0)
    rw [← ih]
    cases P n <;> cases Q n
    · simp [nz]
    · simp [nz, Int32.or_assoc]
    · simp only [Bool.false_eq_true, if_false, if_true, Bool.or_false, nz, Int32.or_zero]
      rw [Int32.or_assoc, Int32.or_comm (bit n), ← Int32.or_assoc]
    · simp only [if_true, Bool.or_self]
      exact or4 _ _ _
theorem get_orb {h : HSt} (i : Inv h) (c : Nat) : Hget h c 8 = orb (gB h c) 8 := by
  obtain ⟨w, hw, e⟩ := i.2.2.2.2.2.2
  rw [get_re]
  have h1 : orb (opb (hop h)) 8 = hop h := by rw [e]; exact opb_all w hw
  have h2 := orb_or (opb (hop h)) (reN h c) 8
  rw [h1] at h2
  exact h2
theorem goes_gB {h : HSt} {s : Nat → Int32} (r : RelS h s) {c n : Nat} (hc : c < 6) (hn : n < 8) : Mgoes s n c ↔ gB h c n = true := by
  have e1 : s (13 + n) = bI (Hopen h n) := r.2.2.2.2.2.2.2.2.2.2 n hn
  have e2 : s (69 + (6 * n + c)) = hR h (n * 6 + c) := by rw [mul6]; exact r.2.1 _ (by omega)
  have e3 : (bI (Hopen h n) = nI 1) ↔ Hopen h n := by
    by_cases d : Hopen h n
    · rw [bI_t d]; exact ⟨fun _ => d, fun _ => rfl⟩
    · rw [bI_f d]; exact ⟨fun z => absurd z (by decide), fun z => absurd z d⟩
  unfold gB opb Mgoes
  rw [e1, e2, e3, Bool.or_eq_true, decide_eq_true_iff, decide_eq_true_iff]
theorem wants_wB {h : HSt} {s : Nat → Int32} (r : RelS h s) {c n : Nat} (hc : c < 6) (hn : n < 8) : Mwants s n c ↔ wB h c n = true := by
  have e2 : s (21 + (6 * n + c)) = hL h (n * 6 + c) := by rw [mul6]; exact r.1 _ (by omega)
  unfold wB Mwants
  rw [e2, decide_eq_true_iff]
theorem row_orb {h : HSt} {s : Nat → Int32} (r : RelS h s) {c : Nat} (hc : c < 6) : ∀ n, n ≤ 8 → Mrow s c n = orb (gB h c) n := by
  intro n
  induction n with
  | zero => exact fun _ => rfl
  | succ n ih =>
    intro hn
    show Mrow s c n ||| (if Mgoes s n c then bit n else nI 0) = orb (gB h c) n ||| (if gB h c n = true then bit n else nI 0)
    rw [ih (by omega)]
    by_cases d : Mgoes s n c
    · rw [if_pos d, if_pos ((goes_gB r hc hn).mp d)]
    · rw [if_neg d, if_neg (fun z => d ((goes_gB r hc hn).mpr z))]
theorem row_eq {h : HSt} {s : Nat → Int32} (r : RelS h s) (i : Inv h) {c : Nat} (hc : c < 6) : Mrow s c 8 = Hget h c 8 := by
  rw [get_orb i, row_orb r hc 8 (Nat.le_refl 8)]
theorem asks_eq {h : HSt} {s : Nat → Int32} (r : RelS h s) (i : Inv h) : MasksIn s = HasksIn h := by
  have e6 : s 6 = hsn h := r.2.2.2.2.2.2.2.2.2.1
  obtain ⟨d, hd, ed⟩ := tbq_nat i
  obtain ⟨t, ht, et⟩ := i.2.2.2.2.2.1
  unfold MasksIn HasksIn
  rw [due_eq r, e6, ed, et]
  by_cases c : t < d
  · rw [pk_sub (by omega)]
    by_cases c2 : 1 < d - t
    · rw [if_pos ((nI_leI (by decide) (by omega)).mpr (by omega)), if_pos ((nI_ltI (by decide) (by omega)).mpr c2)]
    · rw [if_neg (fun z => c2 ((nI_ltI (by decide) (by omega)).mp z)), if_pos ((nI_leI (by decide) (by omega)).mpr (by omega))]
      rw [show d - t = 1 by omega]
  · have hsmall : ∀ d, d < 61 → ∀ t, t < 60 → d ≤ t → ¬ nI 1 ≤ nI d - nI t ∧ ¬ nI 1 < nI d - nI t := by decide +kernel
    obtain ⟨g1, g2⟩ := hsmall d (by omega) t (by omega) (by omega)
    rw [if_neg g1, if_neg g2]
/-! playing -/
theorem play_ge (s : Nat → Int32) (c : Nat) : ∀ n j, 10 ≤ j → MplayN s c n j = s j := by
  intro n
  induction n with
  | zero => exact fun _ _ => rfl
  | succ n ih =>
    intro j hj
    show Mp1 (MplayN s c n) _ _ j = s j
    unfold Mp1
    rw [pk_un (by omega), pk_un (by omega), pk_un (by omega)]
    exact ih j hj
theorem play_lt (s : Nat → Int32) (c : Nat) : ∀ n j, j < 7 → MplayN s c n j = s j := by
  intro n
  induction n with
  | zero => exact fun _ _ => rfl
  | succ n ih =>
    intro j hj
    show Mp1 (MplayN s c n) _ _ j = s j
    unfold Mp1
    rw [pk_un (by omega), pk_un (by omega), pk_un (by omega)]
    exact ih j hj
