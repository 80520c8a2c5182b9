/-! the reference's reader -/
def Bq (bf : Nat → Int32) (n a : Nat) : Nat := if n ≤ a then 0 else (bf a).toNatClampNeg
theorem Bq_lt {bf : Nat → Int32} {n : Nat} (h : Tok bf n) (a : Nat) : Bq bf n a < 65536 := by
  unfold Bq
  by_cases c : n ≤ a
  · rw [if_pos c]; decide
  · rw [if_neg c]; exact (Tok_cl h (by omega)).2
theorem Bq_lt31 {bf : Nat → Int32} {n : Nat} (h : Tok bf n) (a : Nat) : Bq bf n a < 2 ^ 31 := Nat.lt_of_lt_of_le (Bq_lt h a) (by decide)
theorem Bq_in {bf : Nat → Int32} {n a : Nat} (h : Bq bf n a ≠ 0) : a < n := by
  unfold Bq at h
  by_cases c : n ≤ a
  · rw [if_pos c] at h; exact absurd rfl h
  · omega
def figW (w q lo hi : Nat) : Nat := if w = 0 then 0 else if nI (48 + lo) ≤ nI q ∧ nI q ≤ nI (48 + hi) then 1 else 0
theorem figW_lt (w q lo hi : Nat) : figW w q lo hi < 2 := by unfold figW; (repeat' split) <;> omega
theorem figW_lt31 (w q lo hi : Nat) : figW w q lo hi < 2 ^ 31 := Nat.lt_trans (figW_lt w q lo hi) (by decide)
theorem figW_1 {w q lo hi : Nat} (hq : q < 65536) (hlo : lo ≤ 9) (hhi : hi ≤ 9) (h : figW w q lo hi ≠ 0) : w ≠ 0 ∧ 48 + lo ≤ q ∧ q ≤ 48 + hi := by
  unfold figW at h
  by_cases c : w = 0
  · rw [if_pos c] at h; exact absurd rfl h
  · rw [if_neg c] at h
    by_cases d : nI (48 + lo) ≤ nI q ∧ nI q ≤ nI (48 + hi)
    · exact ⟨c, (nI_leI (by omega) (by omega)).mp d.1, (nI_leI (by omega) (by omega)).mp d.2⟩
    · rw [if_neg d] at h; exact absurd rfl h
theorem figW_t {w q lo hi : Nat} (hq : q < 65536) (hlo : lo ≤ 9) (hhi : hi ≤ 9) (hw : w ≠ 0) (h1 : 48 + lo ≤ q) (h2 : q ≤ 48 + hi) : figW w q lo hi = 1 := by
  unfold figW
  rw [if_neg hw, if_pos ⟨(nI_leI (by omega) (by omega)).mpr h1, (nI_leI (by omega) (by omega)).mpr h2⟩]
theorem figW_f {w q lo hi : Nat} (hq : q < 65536) (hlo : lo ≤ 9) (hhi : hi ≤ 9) (h : ¬ (w ≠ 0 ∧ 48 + lo ≤ q ∧ q ≤ 48 + hi)) : figW w q lo hi = 0 := by
  by_cases c : figW w q lo hi = 0
  · exact c
  · exact absurd (figW_1 hq hlo hhi c) h
/-- the number's first figure as it is -/
def numF (bf : Nat → Int32) (n a : Nat) : Int32 := nI (Bq bf n a) - nI 48
def numW (bf : Nat → Int32) (n a w : Nat) : Nat := figW w (Bq bf n a) 1 9
abbrev numX (bf : Nat → Int32) (n a w : Nat) : Int32 := nI 10 * (nI (Bq bf n a) - nI 48) + nI (Bq bf n (a + figW w (Bq bf n a) 1 9)) - nI 48
abbrev numP (bf : Nat → Int32) (n a w : Nat) : Prop := nI 48 ≤ nI (Bq bf n (a + figW w (Bq bf n a) 1 9)) ∧ nI (Bq bf n (a + figW w (Bq bf n a) 1 9)) ≤ nI 57
def numV (bf : Nat → Int32) (n a w : Nat) : Int32 := if figW w (Bq bf n a) 1 9 = 0 then nI (Bq bf n a) - nI 48 else if numP bf n a w then (if nI 60 < numX bf n a w then nI (Bq bf n a) - nI 48 else numX bf n a w) else nI (Bq bf n a) - nI 48
def numA (bf : Nat → Int32) (n a w : Nat) : Nat := if figW w (Bq bf n a) 1 9 = 0 then a + figW w (Bq bf n a) 1 9 else if numP bf n a w then (if nI 60 < numX bf n a w then a + figW w (Bq bf n a) 1 9 else a + figW w (Bq bf n a) 1 9 + 1) else a + figW w (Bq bf n a) 1 9
def evW (q : Nat) : Nat := if q = 99 then 1 else if q = 108 then 1 else if q = 115 then 1 else if q = 112 then 1 else if q = 116 then 1 else if q = 111 then 1 else 0
theorem evW_lt (q : Nat) : evW q < 2 := by unfold evW; (repeat' split) <;> omega
abbrev RSt := Nat × Nat × Nat × (Nat → Int32)
def MR (m : MSt) (t : RSt) : MSt := sMrm (sMrd (sMat (sMiw m (nI t.2.1)) (nI t.1)) t.2.2.2) (nI t.2.2.1)
def rT (bf : Nat → Int32) (n a w q r : Nat) (rd : Nat → Int32) : RSt := (numA bf n a w, figW w (Bq bf n a) 1 9, r + figW w (Bq bf n a) 1 9, upd (upd rd (3 * r) (nI q)) (3 * r + 1) (numV bf n a w))
def rO (bf : Nat → Int32) (n a w q r hi : Nat) (rd : Nat → Int32) : RSt := (a + figW w (Bq bf n a) 0 hi, figW w (Bq bf n a) 0 hi, r + figW w (Bq bf n a) 0 hi, upd (upd rd (3 * r) (nI q)) (3 * r + 1) (nI (Bq bf n a) - nI 48))
def rC2 (bf : Nat → Int32) (n a w q r : Nat) (rd : Nat → Int32) (b : Nat) : RSt := (b + figW (figW w (Bq bf n a) 0 7) (Bq bf n b) 0 5, figW (figW w (Bq bf n a) 0 7) (Bq bf n b) 0 5, r + figW (figW w (Bq bf n a) 0 7) (Bq bf n b) 0 5, upd (upd (upd rd (3 * r) (nI q)) (3 * r + 1) (nI (Bq bf n a) - nI 48)) (3 * r + 2) (nI (Bq bf n b) - nI 48))
def rC (bf : Nat → Int32) (n a w q r : Nat) (rd : Nat → Int32) : RSt := rC2 bf n a w q r rd (a + figW w (Bq bf n a) 0 7)
def rEv (bf : Nat → Int32) (n a r : Nat) (rd : Nat → Int32) : RSt :=
  if Bq bf n a = 116 then rT bf n (a + evW (Bq bf n a)) (evW (Bq bf n a)) (Bq bf n a) r rd
  else if Bq bf n a = 112 then rO bf n (a + evW (Bq bf n a)) (evW (Bq bf n a)) (Bq bf n a) r 5 rd
  else if Bq bf n a = 99 then rC bf n (a + evW (Bq bf n a)) (evW (Bq bf n a)) (Bq bf n a) r rd
  else if Bq bf n a = 108 then rC bf n (a + evW (Bq bf n a)) (evW (Bq bf n a)) (Bq bf n a) r rd
  else if Bq bf n a = 115 then rC bf n (a + evW (Bq bf n a)) (evW (Bq bf n a)) (Bq bf n a) r rd
  else rO bf n (a + evW (Bq bf n a)) (evW (Bq bf n a)) (Bq bf n a) r 7 rd
def rStep (bf : Nat → Int32) (n : Nat) (t : RSt) : RSt := if Bq bf n t.1 = 59 then rEv bf n (t.1 + 1) t.2.2.1 t.2.2.2 else (t.1, 0, t.2.2.1, t.2.2.2)
def rS (bf : Nat → Int32) (n : Nat) (rd : Nat → Int32) : Nat → RSt
  | 0 => rEv bf n 0 0 rd
  | i + 1 => rStep bf n (rS bf n rd i)
abbrev rGo (n : Nat) (t : RSt) : Prop := ¬ t.2.1 = 0 ∧ t.1 < n
def rdEnd (bf : Nat → Int32) (n : Nat) (rd : Nat → Int32) : Nat → Nat → Nat
  | i, 0 => i
  | i, m + 1 => if rGo n (rS bf n rd i) then rdEnd bf n rd (i + 1) m else i
theorem rdEnd_go {bf : Nat → Int32} {n i : Nat} {rd : Nat → Int32} (hi : i < 100) : rdEnd bf n rd i (100 - i) = if rGo n (rS bf n rd i) then rdEnd bf n rd (i + 1) (100 - (i + 1)) else i := by
  rw [show 100 - i = (100 - (i + 1)) + 1 by omega]; rfl
def rFin (bf : Nat → Int32) (n : Nat) (rd : Nat → Int32) : RSt := rS bf n rd (rdEnd bf n rd 0 100)
def rOK (n : Nat) (t : RSt) (i : Nat) : Prop := t.2.1 < 2 ∧ t.1 ≤ n ∧ 3 * t.2.2.1 ≤ t.1 + 1 ∧ i ≤ t.1 + 1 ∧ (t.2.1 ≠ 0 → i ≤ t.1)
theorem evW_in {q : Nat} (h : evW q ≠ 0) : q = 99 ∨ q = 108 ∨ q = 115 ∨ q = 112 ∨ q = 116 ∨ q = 111 := by
  unfold evW at h
  by_cases c1 : q = 99
  · exact Or.inl c1
  by_cases c2 : q = 108
  · exact Or.inr (Or.inl c2)
  by_cases c3 : q = 115
  · exact Or.inr (Or.inr (Or.inl c3))
  by_cases c4 : q = 112
  · exact Or.inr (Or.inr (Or.inr (Or.inl c4)))
  by_cases c5 : q = 116
  · exact Or.inr (Or.inr (Or.inr (Or.inr (Or.inl c5))))
  by_cases c6 : q = 111
  · exact Or.inr (Or.inr (Or.inr (Or.inr (Or.inr c6))))
  rw [if_neg c1, if_neg c2, if_neg c3, if_neg c4, if_neg c5, if_neg c6] at h
  exact absurd rfl h
theorem numA_le (bf : Nat → Int32) (n a w : Nat) : numA bf n a w ≤ a + 2 := by
  have h := figW_lt w (Bq bf n a) 1 9
  unfold numA
  (repeat' split) <;> omega
/-- what a step of the reader keeps: k = 0 or the figure at b is there -/
theorem fig_step {bf : Nat → Int32} {n : Nat} (hbf : Tok bf n) (w b lo hi : Nat) (hlo : lo ≤ 9) (hhi : hi ≤ 9) (hb : b ≤ n) : b + figW w (Bq bf n b) lo hi ≤ n ∧ (figW w (Bq bf n b) lo hi ≠ 0 → w ≠ 0) := by
  have h1 := figW_lt w (Bq bf n b) lo hi
  by_cases c : figW w (Bq bf n b) lo hi = 0
  · exact ⟨by omega, fun z => absurd c z⟩
  · have h2 := figW_1 (Bq_lt hbf b) hlo hhi c
    have h3 : b < n := Bq_in (bf := bf) (by omega)
    exact ⟨by omega, fun _ => h2.1⟩
theorem num_step {bf : Nat → Int32} {n : Nat} (hbf : Tok bf n) (w b : Nat) (hb : b ≤ n) : numA bf n b w ≤ n ∧ b + figW w (Bq bf n b) 1 9 ≤ numA bf n b w := by
  have h1 := (fig_step hbf w b 1 9 (by decide) (by decide) hb).1
  unfold numA
  by_cases c : figW w (Bq bf n b) 1 9 = 0
  · rw [if_pos c]; exact ⟨h1, Nat.le_refl _⟩
  · rw [if_neg c]
    by_cases d : numP bf n b w
    · rw [if_pos d]
      by_cases e : nI 60 < numX bf n b w
      · rw [if_pos e]; exact ⟨h1, Nat.le_refl _⟩
      · rw [if_neg e]
        have h3 : 48 ≤ Bq bf n (b + figW w (Bq bf n b) 1 9) := (nI_leI (by decide) (Bq_lt31 hbf _)).mp d.1
        have h4 : b + figW w (Bq bf n b) 1 9 < n := Bq_in (bf := bf) (by omega)
        exact ⟨h4, Nat.le_succ _⟩
    · rw [if_neg d]; exact ⟨h1, Nat.le_refl _⟩
theorem rEv_step {bf : Nat → Int32} {n : Nat} (hbf : Tok bf n) (a r : Nat) (rd : Nat → Int32) (ha : a ≤ n) : (rEv bf n a r rd).2.1 < 2 ∧ a ≤ (rEv bf n a r rd).1 ∧ (rEv bf n a r rd).1 ≤ n ∧ (rEv bf n a r rd).2.2.1 = r + (rEv bf n a r rd).2.1 ∧ a + 2 * (rEv bf n a r rd).2.1 ≤ (rEv bf n a r rd).1 := by
  have h0 : a + evW (Bq bf n a) ≤ n := by
    have h1 := evW_lt (Bq bf n a)
    by_cases c : evW (Bq bf n a) = 0
    · omega
    · have h2 := evW_in c
      have h3 : a < n := Bq_in (bf := bf) (by omega)
      omega
  have k1 : ∀ w : Nat, w = evW (Bq bf n a) → ∀ hi : Nat, hi ≤ 9 → (figW w (Bq bf n (a + w)) 0 hi < 2 ∧ a + w + figW w (Bq bf n (a + w)) 0 hi ≤ n ∧ a + 2 * figW w (Bq bf n (a + w)) 0 hi ≤ a + w + figW w (Bq bf n (a + w)) 0 hi) := by
    intro w hw hi hhi
    have h1 := figW_lt w (Bq bf n (a + w)) 0 hi
    have h2 := fig_step hbf w (a + w) 0 hi (by decide) hhi (by rw [hw]; exact h0)
    refine ⟨h1, h2.1, ?_⟩
    by_cases c : figW w (Bq bf n (a + w)) 0 hi = 0
    · omega
    · have := h2.2 c; omega
  have kC : (rC bf n (a + evW (Bq bf n a)) (evW (Bq bf n a)) (Bq bf n a) r rd).2.1 < 2 ∧ a ≤ (rC bf n (a + evW (Bq bf n a)) (evW (Bq bf n a)) (Bq bf n a) r rd).1 ∧ (rC bf n (a + evW (Bq bf n a)) (evW (Bq bf n a)) (Bq bf n a) r rd).1 ≤ n ∧ (rC bf n (a + evW (Bq bf n a)) (evW (Bq bf n a)) (Bq bf n a) r rd).2.2.1 = r + (rC bf n (a + evW (Bq bf n a)) (evW (Bq bf n a)) (Bq bf n a) r rd).2.1 ∧ a + 2 * (rC bf n (a + evW (Bq bf n a)) (evW (Bq bf n a)) (Bq bf n a) r rd).2.1 ≤ (rC bf n (a + evW (Bq bf n a)) (evW (Bq bf n a)) (Bq bf n a) r rd).1 := by
    obtain ⟨p1, p2, p3⟩ := k1 _ rfl 7 (by decide)
    show figW (figW (evW (Bq bf n a)) (Bq bf n (a + evW (Bq bf n a))) 0 7) (Bq bf n (a + evW (Bq bf n a) + figW (evW (Bq bf n a)) (Bq bf n (a + evW (Bq bf n a))) 0 7)) 0 5 < 2 ∧ a ≤ a + evW (Bq bf n a) + figW (evW (Bq bf n a)) (Bq bf n (a + evW (Bq bf n a))) 0 7 + figW (figW (evW (Bq bf n a)) (Bq bf n (a + evW (Bq bf n a))) 0 7) (Bq bf n (a + evW (Bq bf n a) + figW (evW (Bq bf n a)) (Bq bf n (a + evW (Bq bf n a))) 0 7)) 0 5 ∧ a + evW (Bq bf n a) + figW (evW (Bq bf n a)) (Bq bf n (a + evW (Bq bf n a))) 0 7 + figW (figW (evW (Bq bf n a)) (Bq bf n (a + evW (Bq bf n a))) 0 7) (Bq bf n (a + evW (Bq bf n a) + figW (evW (Bq bf n a)) (Bq bf n (a + evW (Bq bf n a))) 0 7)) 0 5 ≤ n ∧ r + figW (figW (evW (Bq bf n a)) (Bq bf n (a + evW (Bq bf n a))) 0 7) (Bq bf n (a + evW (Bq bf n a) + figW (evW (Bq bf n a)) (Bq bf n (a + evW (Bq bf n a))) 0 7)) 0 5 = r + figW (figW (evW (Bq bf n a)) (Bq bf n (a + evW (Bq bf n a))) 0 7) (Bq bf n (a + evW (Bq bf n a) + figW (evW (Bq bf n a)) (Bq bf n (a + evW (Bq bf n a))) 0 7)) 0 5 ∧ a + 2 * figW (figW (evW (Bq bf n a)) (Bq bf n (a + evW (Bq bf n a))) 0 7) (Bq bf n (a + evW (Bq bf n a) + figW (evW (Bq bf n a)) (Bq bf n (a + evW (Bq bf n a))) 0 7)) 0 5 ≤ a + evW (Bq bf n a) + figW (evW (Bq bf n a)) (Bq bf n (a + evW (Bq bf n a))) 0 7 + figW (figW (evW (Bq bf n a)) (Bq bf n (a + evW (Bq bf n a))) 0 7) (Bq bf n (a + evW (Bq bf n a) + figW (evW (Bq bf n a)) (Bq bf n (a + evW (Bq bf n a))) 0 7)) 0 5
    generalize figW (evW (Bq bf n a)) (Bq bf n (a + evW (Bq bf n a))) 0 7 = w1 at p1 p2 p3 ⊢
    generalize a + evW (Bq bf n a) = a1 at p2 p3 ⊢
    have h1 := figW_lt w1 (Bq bf n (a1 + w1)) 0 5
    have h2 := fig_step hbf w1 (a1 + w1) 0 5 (by decide) (by decide) p2
    generalize figW w1 (Bq bf n (a1 + w1)) 0 5 = w2 at h1 h2 ⊢
    by_cases c : w2 = 0
    · exact ⟨h1, by omega, h2.1, rfl, by omega⟩
    · have := h2.2 c
      exact ⟨h1, by omega, h2.1, rfl, by omega⟩
  have kO : ∀ hi : Nat, hi ≤ 9 → ((rO bf n (a + evW (Bq bf n a)) (evW (Bq bf n a)) (Bq bf n a) r hi rd).2.1 < 2 ∧ a ≤ (rO bf n (a + evW (Bq bf n a)) (evW (Bq bf n a)) (Bq bf n a) r hi rd).1 ∧ (rO bf n (a + evW (Bq bf n a)) (evW (Bq bf n a)) (Bq bf n a) r hi rd).1 ≤ n ∧ (rO bf n (a + evW (Bq bf n a)) (evW (Bq bf n a)) (Bq bf n a) r hi rd).2.2.1 = r + (rO bf n (a + evW (Bq bf n a)) (evW (Bq bf n a)) (Bq bf n a) r hi rd).2.1 ∧ a + 2 * (rO bf n (a + evW (Bq bf n a)) (evW (Bq bf n a)) (Bq bf n a) r hi rd).2.1 ≤ (rO bf n (a + evW (Bq bf n a)) (evW (Bq bf n a)) (Bq bf n a) r hi rd).1) := by
    intro hi hhi
    obtain ⟨p1, p2, p3⟩ := k1 _ rfl hi hhi
    exact ⟨p1, by show a ≤ a + evW (Bq bf n a) + figW (evW (Bq bf n a)) (Bq bf n (a + evW (Bq bf n a))) 0 hi; omega, p2, rfl, p3⟩
  unfold rEv
  by_cases c1 : Bq bf n a = 116
  · rw [if_pos c1]
    have h1 := figW_lt (evW (Bq bf n a)) (Bq bf n (a + evW (Bq bf n a))) 1 9
    have h2 := fig_step hbf (evW (Bq bf n a)) (a + evW (Bq bf n a)) 1 9 (by decide) (by decide) h0
    have h3 := num_step hbf (evW (Bq bf n a)) (a + evW (Bq bf n a)) h0
    refine ⟨h1, ?_, h3.1, rfl, ?_⟩
    · show a ≤ numA bf n (a + evW (Bq bf n a)) (evW (Bq bf n a)); omega
    · show a + 2 * figW (evW (Bq bf n a)) (Bq bf n (a + evW (Bq bf n a))) 1 9 ≤ numA bf n (a + evW (Bq bf n a)) (evW (Bq bf n a))
      by_cases c : figW (evW (Bq bf n a)) (Bq bf n (a + evW (Bq bf n a))) 1 9 = 0
      · omega
      · have := h2.2 c; omega
  rw [if_neg c1]
  by_cases c2 : Bq bf n a = 112
  · rw [if_pos c2]; exact kO 5 (by decide)
  rw [if_neg c2]
  by_cases c3 : Bq bf n a = 99
  · rw [if_pos c3]; exact kC
  rw [if_neg c3]
  by_cases c4 : Bq bf n a = 108
  · rw [if_pos c4]; exact kC
  rw [if_neg c4]
  by_cases c5 : Bq bf n a = 115
  · rw [if_pos c5]; exact kC
  rw [if_neg c5]; exact kO 7 (by decide)
theorem rOK_0 {bf : Nat → Int32} {n : Nat} (hbf : Tok bf n) (rd : Nat → Int32) : rOK n (rS bf n rd 0) 0 := by
  obtain ⟨h1, h2, h3, h4, h5⟩ := rEv_step hbf 0 0 rd (Nat.zero_le n)
  exact ⟨h1, h3, by show 3 * (rEv bf n 0 0 rd).2.2.1 ≤ (rEv bf n 0 0 rd).1 + 1; omega, Nat.zero_le _, fun _ => Nat.zero_le _⟩
theorem rOK_s {bf : Nat → Int32} {n i : Nat} {rd : Nat → Int32} (hbf : Tok bf n) (h : rOK n (rS bf n rd i) i) (hw : ¬ (rS bf n rd i).2.1 = 0) (ha : (rS bf n rd i).1 < n) : rOK n (rS bf n rd (i + 1)) (i + 1) := by
  obtain ⟨g1, g2, g3, g4, g5⟩ := h
  have g6 := g5 hw
  show rOK n (rStep bf n (rS bf n rd i)) (i + 1)
  generalize rS bf n rd i = t at g1 g2 g3 g4 g5 g6 hw ha ⊢
  unfold rStep
  by_cases c : Bq bf n t.1 = 59
  · rw [if_pos c]
    obtain ⟨h1, h2, h3, h4, h5⟩ := rEv_step hbf (t.1 + 1) t.2.2.1 t.2.2.2 ha
    exact ⟨h1, h3, by omega, by omega, fun _ => by omega⟩
  · rw [if_neg c]
    exact ⟨Nat.zero_lt_two, g2, g3, by show i + 1 ≤ t.1 + 1; omega, fun z => absurd rfl z⟩
theorem rOK_lt {n i : Nat} {t : RSt} (hn : n ≤ 60) (h : rOK n t i) : i < 100 := by obtain ⟨g1, g2, g3, g4, g5⟩ := h; omega
/-! doing what was read -/
def rdP (rd : Nat → Int32) (k : Nat) : Prop := ∃ x y : Nat, x < 8 ∧ y < 6 ∧ rd (k + 1) = nI x ∧ rd (k + 2) = nI y
def rdOK (rd : Nat → Int32) (k : Nat) : Prop :=
  (rd k = nI 99 ∧ rdP rd k) ∨ (rd k = nI 108 ∧ rdP rd k) ∨ (rd k = nI 115 ∧ rdP rd k) ∨ (rd k = nI 112 ∧ ∃ x : Nat, x < 6 ∧ rd (k + 1) = nI x) ∨ (rd k = nI 116 ∧ ∃ x : Nat, (1 ≤ x ∧ x ≤ 60) ∧ rd (k + 1) = nI x) ∨ (rd k = nI 111 ∧ ∃ x : Nat, x < 8 ∧ rd (k + 1) = nI x)
theorem rdOK_congr {rd rd' : Nat → Int32} {k : Nat} (h0 : rd' k = rd k) (h1 : rd' (k + 1) = rd (k + 1)) (h2 : rd' (k + 2) = rd (k + 2)) (h : rdOK rd k) : rdOK rd' k := by
  unfold rdOK rdP at *
  rw [h0, h1, h2]; exact h
theorem num_val {bf : Nat → Int32} {n : Nat} (hbf : Tok bf n) (a w : Nat) (h : figW w (Bq bf n a) 1 9 ≠ 0) : ∃ x : Nat, (1 ≤ x ∧ x ≤ 60) ∧ numV bf n a w = nI x := by
  have h2 := figW_1 (Bq_lt hbf a) (by decide) (by decide) h
  have e1 : nI (Bq bf n a) - nI 48 = nI (Bq bf n a - 48) := pk_sub (by omega)
  unfold numV
  rw [if_neg h]
  by_cases d : numP bf n a w
  · rw [if_pos d]
    by_cases e : nI 60 < numX bf n a w
    · rw [if_pos e]; exact ⟨_, ⟨by omega, by omega⟩, e1⟩
    · rw [if_neg e]
      have h3 : 48 ≤ Bq bf n (a + figW w (Bq bf n a) 1 9) := (nI_leI (by decide) (Bq_lt31 hbf _)).mp d.1
      have h4 : Bq bf n (a + figW w (Bq bf n a) 1 9) ≤ 57 := (nI_leI (Bq_lt31 hbf _) (by decide)).mp d.2
      have e2 : numX bf n a w = nI (10 * (Bq bf n a - 48) + Bq bf n (a + figW w (Bq bf n a) 1 9) - 48) := by
        unfold numX
        rw [e1, pk_mul, nI_add, pk_sub (by omega)]
      rw [e2] at e ⊢
      refine ⟨_, ⟨by omega, ?_⟩, rfl⟩
      exact Nat.le_of_not_lt fun z => e ((nI_ltI (by decide) (by omega)).mpr z)
  · rw [if_neg d]; exact ⟨_, ⟨by omega, by omega⟩, e1⟩
theorem rEv_ok {bf : Nat → Int32} {n : Nat} (hbf : Tok bf n) (a r : Nat) (rd : Nat → Int32) (hall : ∀ i, i < r → rdOK rd (3 * i)) : ∀ i, i < (rEv bf n a r rd).2.2.1 → rdOK (rEv bf n a r rd).2.2.2 (3 * i) := by
  have fig1 : ∀ w b hi : Nat, hi ≤ 9 → figW w (Bq bf n b) 0 hi ≠ 0 → w ≠ 0 ∧ ∃ x : Nat, x ≤ hi ∧ nI (Bq bf n b) - nI 48 = nI x := by
    intro w b hi hhi h
    have h2 := figW_1 (Bq_lt hbf b) (by decide) hhi h
    exact ⟨h2.1, Bq bf n b - 48, by omega, pk_sub (by omega)⟩
  have kT : Bq bf n a = 116 → ∀ i, i < (rT bf n (a + evW (Bq bf n a)) (evW (Bq bf n a)) (Bq bf n a) r rd).2.2.1 → rdOK (rT bf n (a + evW (Bq bf n a)) (evW (Bq bf n a)) (Bq bf n a) r rd).2.2.2 (3 * i) := by
    intro hq i hi
    show rdOK (upd (upd rd (3 * r) (nI (Bq bf n a))) (3 * r + 1) (numV bf n (a + evW (Bq bf n a)) (evW (Bq bf n a)))) (3 * i)
    have hi : i < r + figW (evW (Bq bf n a)) (Bq bf n (a + evW (Bq bf n a))) 1 9 := hi
    have h1 := figW_lt (evW (Bq bf n a)) (Bq bf n (a + evW (Bq bf n a))) 1 9
    by_cases c : i < r
    · exact rdOK_congr (by rw [pk_un (by omega), pk_un (by omega)]) (by rw [pk_un (by omega), pk_un (by omega)]) (by rw [pk_un (by omega), pk_un (by omega)]) (hall i c)
    · obtain rfl : i = r := by omega
      obtain ⟨x, hx, ex⟩ := num_val hbf (a + evW (Bq bf n a)) (evW (Bq bf n a)) (by omega)
      refine Or.inr (Or.inr (Or.inr (Or.inr (Or.inl ⟨?_, x, hx, ?_⟩))))
      · rw [pk_un (by omega), pk_us, hq]
      · rw [pk_us, ex]
  have kO : ∀ hi : Nat, (hi = 5 ∧ Bq bf n a = 112) ∨ (hi = 7 ∧ (evW (Bq bf n a) ≠ 0 → Bq bf n a = 111)) → ∀ i, i < (rO bf n (a + evW (Bq bf n a)) (evW (Bq bf n a)) (Bq bf n a) r hi rd).2.2.1 → rdOK (rO bf n (a + evW (Bq bf n a)) (evW (Bq bf n a)) (Bq bf n a) r hi rd).2.2.2 (3 * i) := by
    intro hi hq i hlt
    show rdOK (upd (upd rd (3 * r) (nI (Bq bf n a))) (3 * r + 1) (nI (Bq bf n (a + evW (Bq bf n a))) - nI 48)) (3 * i)
    have hlt : i < r + figW (evW (Bq bf n a)) (Bq bf n (a + evW (Bq bf n a))) 0 hi := hlt
    have h1 := figW_lt (evW (Bq bf n a)) (Bq bf n (a + evW (Bq bf n a))) 0 hi
    by_cases c : i < r
    · exact rdOK_congr (by rw [pk_un (by omega), pk_un (by omega)]) (by rw [pk_un (by omega), pk_un (by omega)]) (by rw [pk_un (by omega), pk_un (by omega)]) (hall i c)
    · obtain rfl : i = r := by omega
      obtain ⟨hw, x, hx, ex⟩ := fig1 (evW (Bq bf n a)) (a + evW (Bq bf n a)) hi (by omega) (by omega)
      rcases hq with ⟨rfl, hq⟩ | ⟨rfl, hq⟩
      · refine Or.inr (Or.inr (Or.inr (Or.inl ⟨?_, x, by omega, ?_⟩)))
        · rw [pk_un (by omega), pk_us, hq]
        · rw [pk_us, ex]
      · refine Or.inr (Or.inr (Or.inr (Or.inr (Or.inr ⟨?_, x, by omega, ?_⟩))))
        · rw [pk_un (by omega), pk_us, hq hw]
        · rw [pk_us, ex]
  have kC : (Bq bf n a = 99 ∨ Bq bf n a = 108 ∨ Bq bf n a = 115) → ∀ i, i < (rC bf n (a + evW (Bq bf n a)) (evW (Bq bf n a)) (Bq bf n a) r rd).2.2.1 → rdOK (rC bf n (a + evW (Bq bf n a)) (evW (Bq bf n a)) (Bq bf n a) r rd).2.2.2 (3 * i) := by
    intro hq i hlt
    unfold rC at hlt ⊢
    generalize hw0 : evW (Bq bf n a) = w0 at hlt ⊢
    generalize ha1 : a + w0 = a1 at hlt ⊢
    generalize ha2 : a1 + figW w0 (Bq bf n a1) 0 7 = a2 at hlt ⊢
    show rdOK (upd (upd (upd rd (3 * r) (nI (Bq bf n a))) (3 * r + 1) (nI (Bq bf n a1) - nI 48)) (3 * r + 2) (nI (Bq bf n a2) - nI 48)) (3 * i)
    have hlt : i < r + figW (figW w0 (Bq bf n a1) 0 7) (Bq bf n a2) 0 5 := hlt
    have h1 := figW_lt (figW w0 (Bq bf n a1) 0 7) (Bq bf n a2) 0 5
    by_cases c : i < r
    · exact rdOK_congr (by rw [pk_un (by omega), pk_un (by omega), pk_un (by omega)]) (by rw [pk_un (by omega), pk_un (by omega), pk_un (by omega)]) (by rw [pk_un (by omega), pk_un (by omega), pk_un (by omega)]) (hall i c)
    · obtain rfl : i = r := by omega
      obtain ⟨hw, y, hy, ey⟩ := fig1 (figW w0 (Bq bf n a1) 0 7) a2 5 (by decide) (by omega)
      obtain ⟨hw1, x, hx, ex⟩ := fig1 w0 a1 7 (by decide) hw
      have hp : rdP (upd (upd (upd rd (3 * i) (nI (Bq bf n a))) (3 * i + 1) (nI (Bq bf n a1) - nI 48)) (3 * i + 2) (nI (Bq bf n a2) - nI 48)) (3 * i) := by
        refine ⟨x, y, by omega, by omega, ?_, ?_⟩
        · rw [pk_un (by omega), pk_us, ex]
        · rw [pk_us, ey]
      have h0 : upd (upd (upd rd (3 * i) (nI (Bq bf n a))) (3 * i + 1) (nI (Bq bf n a1) - nI 48)) (3 * i + 2) (nI (Bq bf n a2) - nI 48) (3 * i) = nI (Bq bf n a) := by
        rw [pk_un (by omega), pk_un (by omega), pk_us]
      rcases hq with hq | hq | hq
      · exact Or.inl ⟨by rw [h0, hq], hp⟩
      · exact Or.inr (Or.inl ⟨by rw [h0, hq], hp⟩)
      · exact Or.inr (Or.inr (Or.inl ⟨by rw [h0, hq], hp⟩))
  unfold rEv
  by_cases c1 : Bq bf n a = 116
  · rw [if_pos c1]; exact kT c1
  rw [if_neg c1]
  by_cases c2 : Bq bf n a = 112
  · rw [if_pos c2]; exact kO 5 (Or.inl ⟨rfl, c2⟩)
  rw [if_neg c2]
  by_cases c3 : Bq bf n a = 99
  · rw [if_pos c3]; exact kC (Or.inl c3)
  rw [if_neg c3]
  by_cases c4 : Bq bf n a = 108
  · rw [if_pos c4]; exact kC (Or.inr (Or.inl c4))
  rw [if_neg c4]
  by_cases c5 : Bq bf n a = 115
  · rw [if_pos c5]; exact kC (Or.inr (Or.inr c5))
  rw [if_neg c5]; exact kO 7 (Or.inr ⟨rfl, fun z => by have := evW_in z; omega⟩)
theorem rS_ok {bf : Nat → Int32} {n : Nat} (hbf : Tok bf n) (rd : Nat → Int32) (j : Nat) : ∀ i, i < (rS bf n rd j).2.2.1 → rdOK (rS bf n rd j).2.2.2 (3 * i) := by
  induction j with
  | zero => exact rEv_ok hbf 0 0 rd (fun i h => absurd h (Nat.not_lt_zero i))
  | succ j ih =>
    show ∀ i, i < (rStep bf n (rS bf n rd j)).2.2.1 → rdOK (rStep bf n (rS bf n rd j)).2.2.2 (3 * i)
    unfold rStep
    by_cases c : Bq bf n (rS bf n rd j).1 = 59
    · rw [if_pos c]; exact rEv_ok hbf _ _ _ ih
    · rw [if_neg c]; exact ih
theorem rFin_ok {bf : Nat → Int32} {n : Nat} (hbf : Tok bf n) (rd : Nat → Int32) : ∀ i, i < (rFin bf n rd).2.2.1 → rdOK (rFin bf n rd).2.2.2 (3 * i) := rS_ok hbf rd _
theorem rEnd_ok {bf : Nat → Int32} {n : Nat} {rd : Nat → Int32} (hn : n ≤ 60) (hbf : Tok bf n) : ∀ m i, rOK n (rS bf n rd i) i → ∃ j, rdEnd bf n rd i m = j ∧ rOK n (rS bf n rd j) j := by
  intro m
  induction m with
  | zero => exact fun i h => ⟨i, rfl, h⟩
  | succ m ih =>
    intro i h
    show ∃ j, (if rGo n (rS bf n rd i) then rdEnd bf n rd (i + 1) m else i) = j ∧ _
    by_cases c : rGo n (rS bf n rd i)
    · rw [if_pos c]; exact ih (i + 1) (rOK_s hbf h c.1 c.2)
    · rw [if_neg c]; exact ⟨i, rfl, h⟩
theorem rFin_lt {bf : Nat → Int32} {n : Nat} (hn : n ≤ 60) (hbf : Tok bf n) (rd : Nat → Int32) : (rFin bf n rd).2.1 < 2 ∧ (rFin bf n rd).1 ≤ 60 ∧ 3 * (rFin bf n rd).2.2.1 ≤ 61 := by
  obtain ⟨j, e, h1, h2, h3, h4, h5⟩ := rEnd_ok (rd := rd) hn hbf 100 0 (rOK_0 hbf rd)
  unfold rFin
  rw [e]
  exact ⟨h1, by omega, by omega⟩
def Mcl (rd : Nat → Int32) (k : Nat) : Nat := 6 * (rd (k + 1)).toNatClampNeg + (rd (k + 2)).toNatClampNeg
theorem Mcl_eq {rd : Nat → Int32} {k x y : Nat} (hx8 : x < 8) (hy6 : y < 6) (hx : rd (k + 1) = nI x) (hy : rd (k + 2) = nI y) : Mcl rd k = 6 * x + y := by
  unfold Mcl; rw [hx, hy, nI_clamp (by omega), nI_clamp (by omega)]
def MevC (c : Nat) (s : Nat → Int32) : Nat → Int32 := if nI 9 ≤ s (21 + c) then s else Mcomes c s
def MevCB (c : Nat) (s : Nat → Int32) : Nat := if nI 9 ≤ s (21 + c) then 0 else if Mcomes c s (21 + c) ≤ 0 then 0 else 1
def MevL (c b : Nat) (s : Nat → Int32) : Nat → Int32 := if s (21 + c) ≤ 0 then s else Mleaves c b s
def MevLB (c b : Nat) (s : Nat → Int32) : Nat := if s (21 + c) ≤ 0 then 0 else if Mleaves c b s (21 + c) < 0 then 0 else 1
def Mev (rd : Nat → Int32) (k : Nat) (s : Nat → Int32) : Nat → Int32 :=
  if rd k = nI 99 then MevC (Mcl rd k) s else if rd k = nI 108 then MevL (Mcl rd k) 1 s else if rd k = nI 115 then MevL (Mcl rd k) 0 s
  else if rd k = nI 112 then MplayN s (rd (k + 1)).toNatClampNeg 8 else if rd k = nI 116 then MgoN s (rd (k + 1)).toNatClampNeg
  else upd s (13 + (rd (k + 1)).toNatClampNeg) (nI 1 - s (13 + (rd (k + 1)).toNatClampNeg))
def MevN (rd : Nat → Int32) (k : Nat) (s : Nat → Int32) : Nat :=
  if rd k = nI 99 then MevCB (Mcl rd k) s else if rd k = nI 108 then MevLB (Mcl rd k) 1 s else if rd k = nI 115 then MevLB (Mcl rd k) 0 s
  else if rd k = nI 112 then (if MplayQ s (rd (k + 1)).toNatClampNeg 8 < 0 then 0 else 1) else if rd k = nI 116 then (if MgoQ s (rd (k + 1)).toNatClampNeg < 0 then 0 else 1)
  else 1
theorem MevN_lt (rd : Nat → Int32) (k : Nat) (s : Nat → Int32) : MevN rd k s < 2 := by
  unfold MevN MevCB MevLB
  (repeat' split) <;> omega
def MrunN (rd : Nat → Int32) (s : Nat → Int32) : Nat → Nat → Int32
  | 0 => s
  | i + 1 => Mev rd (3 * i) (MrunN rd s i)
def MrunE (rd : Nat → Int32) (s : Nat → Int32) (r : Nat) : Nat → Nat → Nat
  | i, 0 => i
  | i, m + 1 => if MevN rd (3 * i) (MrunN rd s i) = 0 then i else MrunE rd s r (i + 1) m
theorem MrunE_go {rd s : Nat → Int32} {r i : Nat} (hi : i < r) : MrunE rd s r i (r - i) = if MevN rd (3 * i) (MrunN rd s i) = 0 then i else MrunE rd s r (i + 1) (r - (i + 1)) := by
  rw [show r - i = (r - (i + 1)) + 1 by omega]; rfl
/-- what the failing event, or none, leaves -/
def MrunS (rd : Nat → Int32) (s : Nat → Int32) (r : Nat) : Nat → Int32 := if MrunE rd s r 0 r < r then MrunN rd s (MrunE rd s r 0 r + 1) else MrunN rd s (MrunE rd s r 0 r)
def MrunM (j n : Nat) (m : MSt) : MSt :=
  if (rFin (mbf m) n (mrd m)).2.1 = 0 then sMth (MR (sMth m (nI 0)) (rFin (mbf m) n (mrd m))) (nI 1)
  else sMs (sMln (sMsm (sMsv (MR (sMth m (nI 0)) (rFin (mbf m) n (mrd m))) (Msv (ms m) (msv m) j)) (nI (kSz j))) (nI 0)) (MrunS (rFin (mbf m) n (mrd m)).2.2.2 (ms m) (rFin (mbf m) n (mrd m)).2.2.1)
def MrunR (n : Nat) (m : MSt) : Nat :=
  if (rFin (mbf m) n (mrd m)).2.1 = 0 then 0 else MrunE (rFin (mbf m) n (mrd m)).2.2.2 (ms m) (rFin (mbf m) n (mrd m)).2.2.1 0 (rFin (mbf m) n (mrd m)).2.2.1
