/-! the reference's reader -/
def Bq (bf : Nat → Int32) (n a : Nat) : Nat := if n ≤ a then 0 else (bf a).toNatClampNeg
theorem Bq_lt {bf : Nat → Int32} {n : Nat} (h : Tok bf n) (a : Nat) : Bq bf n a < 65536 := by
  unfold Bq
  by_cases c : n ≤ a
  · rw [if_pos c]; decide
  · rw [if_neg c]; exact (Tok_cl h (by omega)).2
theorem Bq_lt31 {bf : Nat → Int32} {n : Nat} (h : Tok bf n) (a : Nat) : Bq bf n a < 2 ^ 31 := Nat.lt_of_lt_of_le (Bq_lt h a) (by decide)
theorem Bq_in {bf : Nat → Int32} {n a : Nat} (h : Bq bf n a ≠ 0) : a < n := by
  unfold Bq at h
  by_cases c : n ≤ a
  · rw [if_pos c] at h; exact absurd rfl h
  · omega
def figW (w q lo hi : Nat) : Nat := if w = 0 then 0 else if nI (48 + lo) ≤ nI q ∧ nI q ≤ nI (48 + hi) then 1 else 0
theorem figW_lt (w q lo hi : Nat) : figW w q lo hi < 2 := by unfold figW; (repeat' split) <;> omega
theorem figW_lt31 (w q lo hi : Nat) : figW w q lo hi < 2 ^ 31 := Nat.lt_trans (figW_lt w q lo hi) (by decide)
theorem figW_1 {w q lo hi : Nat} (hq : q < 65536) (hlo : lo ≤ 9) (hhi : hi ≤ 9) (h : figW w q lo hi ≠ 0) : w ≠ 0 ∧ 48 + lo ≤ q ∧ q ≤ 48 + hi := by
  unfold figW at h
  by_cases c : w = 0
  · rw [if_pos c] at h; exact absurd rfl h
  · rw [if_neg c] at h
    by_cases d : nI (48 + lo) ≤ nI q ∧ nI q ≤ nI (48 + hi)
    · exact ⟨c, (nI_leI (by omega) (by omega)).mp d.1, (nI_leI (by omega) (by omega)).mp d.2⟩
    · rw [if_neg d] at h; exact absurd rfl h
theorem figW_t {w q lo hi : Nat} (hq : q < 65536) (hlo : lo ≤ 9) (hhi : hi ≤ 9) (hw : w ≠ 0) (h1 : 48 + lo ≤ q) (h2 : q ≤ 48 + hi) : figW w q lo hi = 1 := by
  unfold figW
  rw [if_neg hw, if_pos ⟨(nI_leI (by omega) (by omega)).mpr h1, (nI_leI (by omega) (by omega)).mpr h2⟩]
theorem figW_f {w q lo hi : Nat} (hq : q < 65536) (hlo : lo ≤ 9) (hhi : hi ≤ 9) (h : ¬ (w ≠ 0 ∧ 48 + lo ≤ q ∧ q ≤ 48 + hi)) : figW w q lo hi = 0 := by
  by_cases c : figW w q lo hi = 0
  · exact c
  · exact absurd (figW_1 hq hlo hhi c) h
/-- the number's first figure as it is -/
def numF (bf : Nat → Int32) (n a : Nat) : Int32 := nI (Bq bf n a) - nI 48
def numW (bf : Nat → Int32) (n a w : Nat) : Nat := figW w (Bq bf n a) 1 9
def numX (bf : Nat → Int32) (n a w : Nat) : Int32 := nI 10 * (nI (Bq bf n a) - nI 48) + nI (Bq bf n (a + figW w (Bq bf n a) 1 9)) - nI 48
abbrev numP (bf : Nat → Int32) (n a w : Nat) : Prop := nI 48 ≤ nI (Bq bf n (a + figW w (Bq bf n a) 1 9)) ∧ nI (Bq bf n (a + figW w (Bq bf n a) 1 9)) ≤ nI 57
def numV (bf : Nat → Int32) (n a w : Nat) : Int32 := if figW w (Bq bf n a) 1 9 = 0 then nI (Bq bf n a) - nI 48 else if numP bf n a w then (if nI 60 < numX bf n a w then nI (Bq bf n a) - nI 48 else numX bf n a w) else nI (Bq bf n a) - nI 48
def numA (bf : Nat → Int32) (n a w : Nat) : Nat := if figW w (Bq bf n a) 1 9 = 0 then a + figW w (Bq bf n a) 1 9 else if numP bf n a w then (if nI 60 < numX bf n a w then a + figW w (Bq bf n a) 1 9 else a + figW w (Bq bf n a) 1 9 + 1) else a + figW w (Bq bf n a) 1 9
def evW (q : Nat) : Nat := if q = 99 then 1 else if q = 108 then 1 else if q = 115 then 1 else if q = 112 then 1 else if q = 116 then 1 else if q = 111 then 1 else 0
theorem evW_lt (q : Nat) : evW q < 2 := by unfold evW; (repeat' split) <;> omega
abbrev RSt := Nat × Nat × Nat × (Nat → Int32)
def MR (m : MSt) (t : RSt) : MSt := sMrm (sMrd (sMat (sMiw m (nI t.2.1)) (nI t.1)) t.2.2.2) (nI t.2.2.1)
def rT (bf : Nat → Int32) (n a w q r : Nat) (rd : Nat → Int32) : RSt := (numA bf n a w, figW w (Bq bf n a) 1 9, r + figW w (Bq bf n a) 1 9, upd (upd rd (3 * r) (nI q)) (3 * r + 1) (numV bf n a w))
def rO (bf : Nat → Int32) (n a w q r hi : Nat) (rd : Nat → Int32) : RSt := (a + figW w (Bq bf n a) 0 hi, figW w (Bq bf n a) 0 hi, r + figW w (Bq bf n a) 0 hi, upd (upd rd (3 * r) (nI q)) (3 * r + 1) (nI (Bq bf n a) - nI 48))
def rC2 (bf : Nat → Int32) (n a w q r : Nat) (rd : Nat → Int32) (b : Nat) : RSt := (b + figW (figW w (Bq bf n a) 0 7) (Bq bf n b) 0 5, figW (figW w (Bq bf n a) 0 7) (Bq bf n b) 0 5, r + figW (figW w (Bq bf n a) 0 7) (Bq bf n b) 0 5, upd (upd (upd rd (3 * r) (nI q)) (3 * r + 1) (nI (Bq bf n a) - nI 48)) (3 * r + 2) (nI (Bq bf n b) - nI 48))
def rC (bf : Nat → Int32) (n a w q r : Nat) (rd : Nat → Int32) : RSt := rC2 bf n a w q r rd (a + figW w (Bq bf n a) 0 7)
def rEv (bf : Nat → Int32) (n a r : Nat) (rd : Nat → Int32) : RSt :=
  if Bq bf n a = 116 then rT bf n (a + evW (Bq bf n a)) (evW (Bq bf n a)) (Bq bf n a) r rd
  else if Bq bf n a = 112 then rO bf n (a + evW (Bq bf n a)) (evW (Bq bf n a)) (Bq bf n a) r 5 rd
  else if Bq bf n a = 99 then rC bf n (a + evW (Bq bf n a)) (evW (Bq bf n a)) (Bq bf n a) r rd
  else if Bq bf n a = 108 then rC bf n (a + evW (Bq bf n a)) (evW (Bq bf n a)) (Bq bf n a) r rd
  else if Bq bf n a = 115 then rC bf n (a + evW (Bq bf n a)) (evW (Bq bf n a)) (Bq bf n a) r rd
  else rO bf n (a + evW (Bq bf n a)) (evW (Bq bf n a)) (Bq bf n a) r 7 rd
def rStep (bf : Nat → Int32) (n : Nat) (t : RSt) : RSt := if Bq bf n t.1 = 59 then rEv bf n (t.1 + 1) t.2.2.1 t.2.2.2 else (t.1, 0, t.2.2.1, t.2.2.2)
def rS (bf : Nat → Int32) (n : Nat) (rd : Nat → Int32) : Nat → RSt
  | 0 => rEv bf n 0 0 rd
  | i + 1 => rStep bf n (rS bf n rd i)
abbrev rGo (n : Nat) (t : RSt) : Prop := ¬ t.2.1 = 0 ∧ t.1 < n
def rdEnd (bf : Nat → Int32) (n : Nat) (rd : Nat → Int32) : Nat → Nat → Nat
  | i, 0 => i
  | i, m + 1 => if rGo n (rS bf n rd i) then rdEnd bf n rd (i + 1) m else i
theorem rdEnd_go {bf : Nat → Int32} {n i : Nat} {rd : Nat → Int32} (hi : i < 100) : rdEnd bf n rd i (100 - i) = if rGo n (rS bf n rd i) then rdEnd bf n rd (i + 1) (100 - (i + 1)) else i := by
  rw [show 100 - i = (100 - (i + 1)) + 1 by omega]; rfl
def rFin (bf : Nat → Int32) (n : Nat) (rd : Nat → Int32) : RSt := rS bf n rd (rdEnd bf n rd 0 100)
def rOK (n : Nat) (t : RSt) (i : Nat) : Prop := t.2.1 < 2 ∧ t.1 ≤ n ∧ 3 * t.2.2.1 ≤ t.1 + 1 ∧ i ≤ t.1 + 1 ∧ (t.2.1 ≠ 0 → i ≤ t.1)
theorem evW_in {q : Nat} (h : evW q ≠ 0) : q = 99 ∨ q = 108 ∨ q = 115 ∨ q = 112 ∨ q = 116 ∨ q = 111 := by
  unfold evW at h
  by_cases c1 : q = 99
  · exact Or.inl c1
  by_cases c2 : q = 108
  · exact Or.inr (Or.inl c2)
  by_cases c3 : q = 115
  · exact Or.inr (Or.inr (Or.inl c3))
  by_cases c4 : q = 112
  · exact Or.inr (Or.inr (Or.inr (Or.inl c4)))
  by_cases c5 : q = 116
  · exact Or.inr (Or.inr (Or.inr (Or.inr (Or.inl c5))))
  by_cases c6 : q = 111
  · exact Or.inr (Or.inr (Or.inr (Or.inr (Or.inr c6))))
  rw [if_neg c1, if_neg c2, if_neg c3, if_neg c4, if_neg c5, if_neg c6] at h
  exact absurd rfl h
/-- what a step of the reader keeps: k = 0 or the figure at b is there -/
theorem fig_step {bf : Nat → Int32} {n : Nat} (hbf : Tok bf n) (w b lo hi : Nat) (hlo : lo ≤ 9) (hhi : hi ≤ 9) (hb : b ≤ n) : b + figW w (Bq bf n b) lo hi ≤ n ∧ (figW w (Bq bf n b) lo hi ≠ 0 → w ≠ 0) := by
  have h1 := figW_lt w (Bq bf n b) lo hi
  by_cases c : figW w (Bq bf n b) lo hi = 0
  · exact ⟨by omega, fun z => absurd c z⟩
  · have h2 := figW_1 (Bq_lt hbf b) hlo hhi c
    have h3 : b < n := Bq_in (by omega)
    exact ⟨by omega, fun _ => h2.1⟩
theorem num_step {bf : Nat → Int32} {n : Nat} (hbf : Tok bf n) (w b : Nat) (hb : b ≤ n) : numA bf n b w ≤ n ∧ b + figW w (Bq bf n b) 1 9 ≤ numA bf n b w := by
  have h1 := (fig_step hbf w b 1 9 (by decide) (by decide) hb).1
  unfold numA
  by_cases c : figW w (Bq bf n b) 1 9 = 0
  · rw [if_pos c]; exact ⟨h1, Nat.le_refl _⟩
  · rw [if_neg c]
    by_cases d : numP bf n b w
    · rw [if_pos d]
      by_cases e : nI 60 < numX bf n b w
      · rw [if_pos e]; exact ⟨h1, Nat.le_refl _⟩
      · rw [if_neg e]
        have h3 : 48 ≤ Bq bf n (b + figW w (Bq bf n b) 1 9) := (nI_leI (by decide) (Bq_lt31 hbf _)).mp d.1
        have h4 : b + figW w (Bq bf n b) 1 9 < n := Bq_in (by omega)
        exact ⟨h4, Nat.le_succ _⟩
    · rw [if_neg d]; exact ⟨h1, Nat.le_refl _⟩
theorem rEv_step {bf : Nat → Int32} {n : Nat} (hbf : Tok bf n) (a r : Nat) (rd : Nat → Int32) (ha : a ≤ n) : (rEv bf n a r rd).2.1 < 2 ∧ a ≤ (rEv bf n a r rd).1 ∧ (rEv bf n a r rd).1 ≤ n ∧ (rEv bf n a r rd).2.2.1 = r + (rEv bf n a r rd).2.1 ∧ a + 2 * (rEv bf n a r rd).2.1 ≤ (rEv bf n a r rd).1 := by
  have h0 : a + evW (Bq bf n a) ≤ n := by
    have h1 := evW_lt (Bq bf n a)
    by_cases c : evW (Bq bf n a) = 0
    · omega
    · have h2 := evW_in c
      have h3 : a < n := Bq_in (by omega)
      omega
  have k1 : ∀ w : Nat, w = evW (Bq bf n a) → ∀ hi : Nat, hi ≤ 9 → (figW w (Bq bf n (a + w)) 0 hi < 2 ∧ a + w + figW w (Bq bf n (a + w)) 0 hi ≤ n ∧ a + 2 * figW w (Bq bf n (a + w)) 0 hi ≤ a + w + figW w (Bq bf n (a + w)) 0 hi) := by
    intro w hw hi hhi
    have h1 := figW_lt w (Bq bf n (a + w)) 0 hi
    have h2 := fig_step hbf w (a + w) 0 hi (by decide) hhi (by rw [hw]; exact h0)
    refine ⟨h1, h2.1, ?_⟩
    by_cases c : figW w (Bq bf n (a + w)) 0 hi = 0
    · omega
    · have := h2.2 c; omega
  have kC : (rC bf n (a + evW (Bq bf n a)) (evW (Bq bf n a)) (Bq bf n a) r rd).2.1 < 2 ∧ a ≤ (rC bf n (a + evW (Bq bf n a)) (evW (Bq bf n a)) (Bq bf n a) r rd).1 ∧ (rC bf n (a + evW (Bq bf n a)) (evW (Bq bf n a)) (Bq bf n a) r rd).1 ≤ n ∧ (rC bf n (a + evW (Bq bf n a)) (evW (Bq bf n a)) (Bq bf n a) r rd).2.2.1 = r + (rC bf n (a + evW (Bq bf n a)) (evW (Bq bf n a)) (Bq bf n a) r rd).2.1 ∧ a + 2 * (rC bf n (a + evW (Bq bf n a)) (evW (Bq bf n a)) (Bq bf n a) r rd).2.1 ≤ (rC bf n (a + evW (Bq bf n a)) (evW (Bq bf n a)) (Bq bf n a) r rd).1 := by
    obtain ⟨p1, p2, p3⟩ := k1 _ rfl 7 (by decide)
    show figW (figW (evW (Bq bf n a)) (Bq bf n (a + evW (Bq bf n a))) 0 7) (Bq bf n (a + evW (Bq bf n a) + figW (evW (Bq bf n a)) (Bq bf n (a + evW (Bq bf n a))) 0 7)) 0 5 < 2 ∧ a ≤ a + evW (Bq bf n a) + figW (evW (Bq bf n a)) (Bq bf n (a + evW (Bq bf n a))) 0 7 + figW (figW (evW (Bq bf n a)) (Bq bf n (a + evW (Bq bf n a))) 0 7) (Bq bf n (a + evW (Bq bf n a) + figW (evW (Bq bf n a)) (Bq bf n (a + evW (Bq bf n a))) 0 7)) 0 5 ∧ a + evW (Bq bf n a) + figW (evW (Bq bf n a)) (Bq bf n (a + evW (Bq bf n a))) 0 7 + figW (figW (evW (Bq bf n a)) (Bq bf n (a + evW (Bq bf n a))) 0 7) (Bq bf n (a + evW (Bq bf n a) + figW (evW (Bq bf n a)) (Bq bf n (a + evW (Bq bf n a))) 0 7)) 0 5 ≤ n ∧ r + figW (figW (evW (Bq bf n a)) (Bq bf n (a + evW (Bq bf n a))) 0 7) (Bq bf n (a + evW (Bq bf n a) + figW (evW (Bq bf n a)) (Bq bf n (a + evW (Bq bf n a))) 0 7)) 0 5 = r + figW (figW (evW (Bq bf n a)) (Bq bf n (a + evW (Bq bf n a))) 0 7) (Bq bf n (a + evW (Bq bf n a) + figW (evW (Bq bf n a)) (Bq bf n (a + evW (Bq bf n a))) 0 7)) 0 5 ∧ a + 2 * figW (figW (evW (Bq bf n a)) (Bq bf n (a + evW (Bq bf n a))) 0 7) (Bq bf n (a + evW (Bq bf n a) + figW (evW (Bq bf n a)) (Bq bf n (a + evW (Bq bf n a))) 0 7)) 0 5 ≤ a + evW (Bq bf n a) + figW (evW (Bq bf n a)) (Bq bf n (a + evW (Bq bf n a))) 0 7 + figW (figW (evW (Bq bf n a)) (Bq bf n (a + evW (Bq bf n a))) 0 7) (Bq bf n (a + evW (Bq bf n a) + figW (evW (Bq bf n a)) (Bq bf n (a + evW (Bq bf n a))) 0 7)) 0 5
    generalize figW (evW (Bq bf n a)) (Bq bf n (a + evW (Bq bf n a))) 0 7 = w1 at p1 p2 p3 ⊢
    generalize a + evW (Bq bf n a) = a1 at p2 p3 ⊢
    have h1 := figW_lt w1 (Bq bf n (a1 + w1)) 0 5
    have h2 := fig_step hbf w1 (a1 + w1) 0 5 (by decide) (by decide) p2
    generalize figW w1 (Bq bf n (a1 + w1)) 0 5 = w2 at h1 h2 ⊢
    by_cases c : w2 = 0
    · exact ⟨h1, by omega, h2.1, rfl, by omega⟩
    · have := h2.2 c
      exact ⟨h1, by omega, h2.1, rfl, by omega⟩
  have kO : ∀ hi : Nat, hi ≤ 9 → ((rO bf n (a + evW (Bq bf n a)) (evW (Bq bf n a)) (Bq bf n a) r hi rd).2.1 < 2 ∧ a ≤ (rO bf n (a + evW (Bq bf n a)) (evW (Bq bf n a)) (Bq bf n a) r hi rd).1 ∧ (rO bf n (a + evW (Bq bf n a)) (evW (Bq bf n a)) (Bq bf n a) r hi rd).1 ≤ n ∧ (rO bf n (a + evW (Bq bf n a)) (evW (Bq bf n a)) (Bq bf n a) r hi rd).2.2.1 = r + (rO bf n (a + evW (Bq bf n a)) (evW (Bq bf n a)) (Bq bf n a) r hi rd).2.1 ∧ a + 2 * (rO bf n (a + evW (Bq bf n a)) (evW (Bq bf n a)) (Bq bf n a) r hi rd).2.1 ≤ (rO bf n (a + evW (Bq bf n a)) (evW (Bq bf n a)) (Bq bf n a) r hi rd).1) := by
    intro hi hhi
    obtain ⟨p1, p2, p3⟩ := k1 _ rfl hi hhi
    exact ⟨p1, by show a ≤ a + evW (Bq bf n a) + figW (evW (Bq bf n a)) (Bq bf n (a + evW (Bq bf n a))) 0 hi; omega, p2, rfl, p3⟩
  unfold rEv
  by_cases c1 : Bq bf n a = 116
  · rw [if_pos c1]
    have h1 := figW_lt (evW (Bq bf n a)) (Bq bf n (a + evW (Bq bf n a))) 1 9
    have h2 := fig_step hbf (evW (Bq bf n a)) (a + evW (Bq bf n a)) 1 9 (by decide) (by decide) h0
    have h3 := num_step hbf (evW (Bq bf n a)) (a + evW (Bq bf n a)) h0
    refine ⟨h1, ?_, h3.1, rfl, ?_⟩
    · show a ≤ numA bf n (a + evW (Bq bf n a)) (evW (Bq bf n a)); omega
    · show a + 2 * figW (evW (Bq bf n a)) (Bq bf n (a + evW (Bq bf n a))) 1 9 ≤ numA bf n (a + evW (Bq bf n a)) (evW (Bq bf n a))
      by_cases c : figW (evW (Bq bf n a)) (Bq bf n (a + evW (Bq bf n a))) 1 9 = 0
      · omega
      · have := h2.2 c; omega
  rw [if_neg c1]
  by_cases c2 : Bq bf n a = 112
  · rw [if_pos c2]; exact kO 5 (by decide)
  rw [if_neg c2]
  by_cases c3 : Bq bf n a = 99
  · rw [if_pos c3]; exact kC
  rw [if_neg c3]
  by_cases c4 : Bq bf n a = 108
  · rw [if_pos c4]; exact kC
  rw [if_neg c4]
  by_cases c5 : Bq bf n a = 115
  · rw [if_pos c5]; exact kC
  rw [if_neg c5]; exact kO 7 (by decide)
theorem rOK_0 {bf : Nat → Int32} {n : Nat} (hbf : Tok bf n) (rd : Nat → Int32) : rOK n (rS bf n rd 0) 0 := by
  obtain ⟨h1, h2, h3, h4, h5⟩ := rEv_step hbf 0 0 rd (Nat.zero_le n)
  exact ⟨h1, h3, by show 3 * (rEv bf n 0 0 rd).2.2.1 ≤ (rEv bf n 0 0 rd).1 + 1; omega, Nat.zero_le _, fun _ => Nat.zero_le _⟩
theorem rOK_s {bf : Nat → Int32} {n i : Nat} {rd : Nat → Int32} (hbf : Tok bf n) (h : rOK n (rS bf n rd i) i) (hw : ¬ (rS bf n rd i).2.1 = 0) (ha : (rS bf n rd i).1 < n) : rOK n (rS bf n rd (i + 1)) (i + 1) := by
  obtain ⟨g1, g2, g3, g4, g5⟩ := h
  have g6 := g5 hw
  show rOK n (rStep bf n (rS bf n rd i)) (i + 1)
  generalize rS bf n rd i = t at g1 g2 g3 g4 g5 g6 hw ha ⊢
  unfold rStep
  by_cases c : Bq bf n t.1 = 59
  · rw [if_pos c]
    obtain ⟨h1, h2, h3, h4, h5⟩ := rEv_step hbf (t.1 + 1) t.2.2.1 t.2.2.2 ha
    exact ⟨h1, h3, by omega, by omega, fun _ => by omega⟩
  · rw [if_neg c]
    exact ⟨Nat.zero_lt_two, g2, g3, by show i + 1 ≤ t.1 + 1; omega, fun z => absurd rfl z⟩
theorem rOK_lt {n i : Nat} {t : RSt} (hn : n ≤ 60) (h : rOK n t i) : i < 100 := by obtain ⟨g1, g2, g3, g4, g5⟩ := h; omega
/-! doing what was read -/
def rdP (rd : Nat → Int32) (k : Nat) : Prop := ∃ x y : Nat, x < 8 ∧ y < 6 ∧ rd (k + 1) = nI x ∧ rd (k + 2) = nI y
def rdOK (rd : Nat → Int32) (k : Nat) : Prop :=
  (rd k = nI 99 ∧ rdP rd k) ∨ (rd k = nI 108 ∧ rdP rd k) ∨ (rd k = nI 115 ∧ rdP rd k) ∨ (rd k = nI 112 ∧ ∃ x : Nat, x < 6 ∧ rd (k + 1) = nI x) ∨ (rd k = nI 116 ∧ ∃ x : Nat, (1 ≤ x ∧ x ≤ 60) ∧ rd (k + 1) = nI x) ∨ (rd k = nI 111 ∧ ∃ x : Nat, x < 8 ∧ rd (k + 1) = nI x)
theorem rdOK_congr {rd rd' : Nat → Int32} {k : Nat} (h0 : rd' k = rd k) (h1 : rd' (k + 1) = rd (k + 1)) (h2 : rd' (k + 2) = rd (k + 2)) (h : rdOK rd k) : rdOK rd' k := by
  unfold rdOK rdP at *
  rw [h0, h1, h2]; exact h
theorem num_val {bf : Nat → Int32} {n : Nat} (hbf : Tok bf n) (a w : Nat) (h : figW w (Bq bf n a) 1 9 ≠ 0) : ∃ x : Nat, (1 ≤ x ∧ x ≤ 60) ∧ numV bf n a w = nI x := by
  have h2 := figW_1 (Bq_lt hbf a) (by decide) (by decide) h
  have e1 : nI (Bq bf n a) - nI 48 = nI (Bq bf n a - 48) := pk_sub (by omega)
  unfold numV
  rw [if_neg h]
  by_cases d : numP bf n a w
  · rw [if_pos d]
    by_cases e : nI 60 < numX bf n a w
    · rw [if_pos e]; exact ⟨_, ⟨by omega, by omega⟩, e1⟩
    · rw [if_neg e]
      have h3 : 48 ≤ Bq bf n (a + figW w (Bq bf n a) 1 9) := (nI_leI (by decide) (Bq_lt31 hbf _)).mp d.1
      have h4 : Bq bf n (a + figW w (Bq bf n a) 1 9) ≤ 57 := (nI_leI (Bq_lt31 hbf _) (by decide)).mp d.2
      have e2 : numX bf n a w = nI (10 * (Bq bf n a - 48) + Bq bf n (a + figW w (Bq bf n a) 1 9) - 48) := by
        unfold numX
        rw [e1, pk_mul, nI_add, pk_sub (by omega)]
      rw [e2] at e ⊢
      refine ⟨_, ⟨by omega, ?_⟩, rfl⟩
      exact Nat.le_of_not_lt fun z => e ((nI_ltI (by decide) (by omega)).mpr z)
  · rw [if_neg d]; exact ⟨_, ⟨by omega, by omega⟩, e1⟩
theorem rEv_ok {bf : Nat → Int32} {n : Nat} (hbf : Tok bf n) (a r : Nat) (rd : Nat → Int32) (hall : ∀ i, i < r → rdOK rd (3 * i)) : ∀ i, i < (rEv bf n a r rd).2.2.1 → rdOK (rEv bf n a r rd).2.2.2 (3 * i) := by
  have fig1 : ∀ w b hi : Nat, hi ≤ 9 → figW w (Bq bf n b) 0 hi ≠ 0 → w ≠ 0 ∧ ∃ x : Nat, x ≤ hi ∧ nI (Bq bf n b) - nI 48 = nI x := by
    intro w b hi hhi h
    have h2 := figW_1 (Bq_lt hbf b) (by decide) hhi h
    exact ⟨h2.1, Bq bf n b - 48, by omega, pk_sub (by omega)⟩
  have kT : Bq bf n a = 116 → ∀ i, i < (rT bf n (a + evW (Bq bf n a)) (evW (Bq bf n a)) (Bq bf n a) r rd).2.2.1 → rdOK (rT bf n (a + evW (Bq bf n a)) (evW (Bq bf n a)) (Bq bf n a) r rd).2.2.2 (3 * i) := by
    intro hq i hi
    show rdOK (upd (upd rd (3 * r) (nI (Bq bf n a))) (3 * r + 1) (numV bf n (a + evW (Bq bf n a)) (evW (Bq bf n a)))) (3 * i)
    have hi : i < r + figW (evW (Bq bf n a)) (Bq bf n (a + evW (Bq bf n a))) 1 9 := hi
    have h1 := figW_lt (evW (Bq bf n a)) (Bq bf n (a + evW (Bq bf n a))) 1 9
    by_cases c : i < r
    · exact rdOK_congr (by rw [pk_un (by omega), pk_un (by omega)]) (by rw [pk_un (by omega), pk_un (by omega)]) (by rw [pk_un (by omega), pk_un (by omega)]) (hall i c)
    · obtain rfl : i = r := by omega
      obtain ⟨x, hx, ex⟩ := num_val hbf (a + evW (Bq bf n a)) (evW (Bq bf n a)) (by omega)
      refine Or.inr (Or.inr (Or.inr (Or.inr (Or.inl ⟨?_, x, hx, ?_⟩))))
      · rw [pk_un (by omega), pk_us, hq]
      · rw [pk_us, ex]
  have kO : ∀ hi : Nat, (hi = 5 ∧ Bq bf n a = 112) ∨ (hi = 7 ∧ (evW (Bq bf n a) ≠ 0 → Bq bf n a = 111)) → ∀ i, i < (rO bf n (a + evW (Bq bf n a)) (evW (Bq bf n a)) (Bq bf n a) r hi rd).2.2.1 → rdOK (rO bf n (a + evW (Bq bf n a)) (evW (Bq bf n a)) (Bq bf n a) r hi rd).2.2.2 (3 * i) := by
    intro hi hq i hlt
    show rdOK (upd (upd rd (3 * r) (nI (Bq bf n a))) (3 * r + 1) (nI (Bq bf n (a + evW (Bq bf n a))) - nI 48)) (3 * i)
    have hlt : i < r + figW (evW (Bq bf n a)) (Bq bf n (a + evW (Bq bf n a))) 0 hi := hlt
    have h1 := figW_lt (evW (Bq bf n a)) (Bq bf n (a + evW (Bq bf n a))) 0 hi
    by_cases c : i < r
    · exact rdOK_congr (by rw [pk_un (by omega), pk_un (by omega)]) (by rw [pk_un (by omega), pk_un (by omega)]) (by rw [pk_un (by omega), pk_un (by omega)]) (hall i c)
    · obtain rfl : i = r := by omega
      obtain ⟨hw, x, hx, ex⟩ := fig1 (evW (Bq bf n a)) (a + evW (Bq bf n a)) hi (by omega) (by omega)
      rcases hq with ⟨rfl, hq⟩ | ⟨rfl, hq⟩
      · refine Or.inr (Or.inr (Or.inr (Or.inl ⟨?_, x, by omega, ?_⟩)))
        · rw [pk_un (by omega), pk_us, hq]
        · rw [pk_us, ex]
      · refine Or.inr (Or.inr (Or.inr (Or.inr (Or.inr ⟨?_, x, by omega, ?_⟩))))
        · rw [pk_un (by omega), pk_us, hq hw]
        · rw [pk_us, ex]
  have kC : (Bq bf n a = 99 ∨ Bq bf n a = 108 ∨ Bq bf n a = 115) → ∀ i, i < (rC bf n (a + evW (Bq bf n a)) (evW (Bq bf n a)) (Bq bf n a) r rd).2.2.1 → rdOK (rC bf n (a + evW (Bq bf n a)) (evW (Bq bf n a)) (Bq bf n a) r rd).2.2.2 (3 * i) := by
    intro hq i hlt
    unfold rC at hlt ⊢
    generalize hw0 : evW (Bq bf n a) = w0 at hlt ⊢
    generalize ha1 : a + w0 = a1 at hlt ⊢
    generalize ha2 : a1 + figW w0 (Bq bf n a1) 0 7 = a2 at hlt ⊢
    show rdOK (upd (upd (upd rd (3 * r) (nI (Bq bf n a))) (3 * r + 1) (nI (Bq bf n a1) - nI 48)) (3 * r + 2) (nI (Bq bf n a2) - nI 48)) (3 * i)
    have hlt : i < r + figW (figW w0 (Bq bf n a1) 0 7) (Bq bf n a2) 0 5 := hlt
    have h1 := figW_lt (figW w0 (Bq bf n a1) 0 7) (Bq bf n a2) 0 5
    by_cases c : i < r
    · exact rdOK_congr (by rw [pk_un (by omega), pk_un (by omega), pk_un (by omega)]) (by rw [pk_un (by omega), pk_un (by omega), pk_un (by omega)]) (by rw [pk_un (by omega), pk_un (by omega), pk_un (by omega)]) (hall i c)
    · obtain rfl : i = r := by omega
      obtain ⟨hw, y, hy, ey⟩ := fig1 (figW w0 (Bq bf n a1) 0 7) a2 5 (by decide) (by omega)
      obtain ⟨hw1, x, hx, ex⟩ := fig1 w0 a1 7 (by decide) hw
      have hp : rdP (upd (upd (upd rd (3 * i) (nI (Bq bf n a))) (3 * i + 1) (nI (Bq bf n a1) - nI 48)) (3 * i + 2) (nI (Bq bf n a2) - nI 48)) (3 * i) := by
        refine ⟨x, y, by omega, by omega, ?_, ?_⟩
        · rw [pk_un (by omega), pk_us, ex]
        · rw [pk_us, ey]
      have h0 : upd (upd (upd rd (3 * i) (nI (Bq bf n a))) (3 * i + 1) (nI (Bq bf n a1) - nI 48)) (3 * i + 2) (nI (Bq bf n a2) - nI 48) (3 * i) = nI (Bq bf n a) := by
        rw [pk_un (by omega), pk_un (by omega), pk_us]
      rcases hq with hq | hq | hq
      · exact Or.inl ⟨by rw [h0, hq], hp⟩
      · exact Or.inr (Or.inl ⟨by rw [h0, hq], hp⟩)
      · exact Or.inr (Or.inr (Or.inl ⟨by rw [h0, hq], hp⟩))
  unfold rEv
  by_cases c1 : Bq bf n a = 116
  · rw [if_pos c1]; exact kT c1
  rw [if_neg c1]
  by_cases c2 : Bq bf n a = 112
  · rw [if_pos c2]; exact kO 5 (Or.inl ⟨rfl, c2⟩)
  rw [if_neg c2]
  by_cases c3 : Bq bf n a = 99
  · rw [if_pos c3]; exact kC (Or.inl c3)
  rw [if_neg c3]
  by_cases c4 : Bq bf n a = 108
  · rw [if_pos c4]; exact kC (Or.inr (Or.inl c4))
  rw [if_neg c4]
  by_cases c5 : Bq bf n a = 115
  · rw [if_pos c5]; exact kC (Or.inr (Or.inr c5))
  rw [if_neg c5]; exact kO 7 (Or.inr ⟨rfl, fun z => by have := evW_in z; omega⟩)
theorem rS_ok {bf : Nat → Int32} {n : Nat} (hbf : Tok bf n) (rd : Nat → Int32) (j : Nat) : ∀ i, i < (rS bf n rd j).2.2.1 → rdOK (rS bf n rd j).2.2.2 (3 * i) := by
  induction j with
  | zero => exact rEv_ok hbf 0 0 rd (fun i h => absurd h (Nat.not_lt_zero i))
  | succ j ih =>
    show ∀ i, i < (rStep bf n (rS bf n rd j)).2.2.1 → rdOK (rStep bf n (rS bf n rd j)).2.2.2 (3 * i)
    unfold rStep
    by_cases c : Bq bf n (rS bf n rd j).1 = 59
    · rw [if_pos c]; exact rEv_ok hbf _ _ _ ih
    · rw [if_neg c]; exact ih
theorem rFin_ok {bf : Nat → Int32} {n : Nat} (hbf : Tok bf n) (rd : Nat → Int32) : ∀ i, i < (rFin bf n rd).2.2.1 → rdOK (rFin bf n rd).2.2.2 (3 * i) := rS_ok hbf rd _
theorem rEnd_ok {bf : Nat → Int32} {n : Nat} {rd : Nat → Int32} (hn : n ≤ 60) (hbf : Tok bf n) : ∀ m i, rOK n (rS bf n rd i) i → ∃ j, rdEnd bf n rd i m = j ∧ rOK n (rS bf n rd j) j := by
  intro m
  induction m with
  | zero => exact fun i h => ⟨i, rfl, h⟩
  | succ m ih =>
    intro i h
    show ∃ j, (if rGo n (rS bf n rd i) then rdEnd bf n rd (i + 1) m else i) = j ∧ _
    by_cases c : rGo n (rS bf n rd i)
    · rw [if_pos c]; exact ih (i + 1) (rOK_s hbf h c.1 c.2)
    · rw [if_neg c]; exact ⟨i, rfl, h⟩
theorem rFin_lt {bf : Nat → Int32} {n : Nat} (hn : n ≤ 60) (hbf : Tok bf n) (rd : Nat → Int32) : (rFin bf n rd).2.1 < 2 ∧ (rFin bf n rd).1 ≤ 60 ∧ 3 * (rFin bf n rd).2.2.1 ≤ 61 := by
  obtain ⟨j, e, h1, h2, h3, h4, h5⟩ := rEnd_ok (rd := rd) hn hbf 100 0 (rOK_0 hbf rd)
  unfold rFin
  rw [e]
  exact ⟨h1, by omega, by omega⟩
def Mcl (rd : Nat → Int32) (k : Nat) : Nat := 6 * (rd (k + 1)).toNatClampNeg + (rd (k + 2)).toNatClampNeg
theorem Mcl_eq {rd : Nat → Int32} {k x y : Nat} (hx8 : x < 8) (hy6 : y < 6) (hx : rd (k + 1) = nI x) (hy : rd (k + 2) = nI y) : Mcl rd k = 6 * x + y := by
  unfold Mcl; rw [hx, hy, nI_clamp (by omega), nI_clamp (by omega)]
def MevC (c : Nat) (s : Nat → Int32) : Nat → Int32 := if nI 9 ≤ s (21 + c) then s else Mcomes c s
def MevCB (c : Nat) (s : Nat → Int32) : Nat := if nI 9 ≤ s (21 + c) then 0 else if Mcomes c s (21 + c) ≤ 0 then 0 else 1
def MevL (c b : Nat) (s : Nat → Int32) : Nat → Int32 := if s (21 + c) ≤ 0 then s else Mleaves c b s
def MevLB (c b : Nat) (s : Nat → Int32) : Nat := if s (21 + c) ≤ 0 then 0 else if Mleaves c b s (21 + c) < 0 then 0 else 1
def Mev (rd : Nat → Int32) (k : Nat) (s : Nat → Int32) : Nat → Int32 :=
  if rd k = nI 99 then MevC (Mcl rd k) s else if rd k = nI 108 then MevL (Mcl rd k) 1 s else if rd k = nI 115 then MevL (Mcl rd k) 0 s
  else if rd k = nI 112 then MplayN s (rd (k + 1)).toNatClampNeg 8 else if rd k = nI 116 then MgoN s (rd (k + 1)).toNatClampNeg
  else upd s (13 + (rd (k + 1)).toNatClampNeg) (nI 1 - s (13 + (rd (k + 1)).toNatClampNeg))
def MevN (rd : Nat → Int32) (k : Nat) (s : Nat → Int32) : Nat :=
  if rd k = nI 99 then MevCB (Mcl rd k) s else if rd k = nI 108 then MevLB (Mcl rd k) 1 s else if rd k = nI 115 then MevLB (Mcl rd k) 0 s
  else if rd k = nI 112 then (if MplayQ s (rd (k + 1)).toNatClampNeg 8 < 0 then 0 else 1) else if rd k = nI 116 then (if MgoQ s (rd (k + 1)).toNatClampNeg < 0 then 0 else 1)
  else 1
theorem MevN_lt (rd : Nat → Int32) (k : Nat) (s : Nat → Int32) : MevN rd k s < 2 := by
  unfold MevN MevCB MevLB
  (repeat' split) <;> omega
def MrunN (rd : Nat → Int32) (s : Nat → Int32) : Nat → Nat → Int32
  | 0 => s
  | i + 1 => Mev rd (3 * i) (MrunN rd s i)
def MrunE (rd : Nat → Int32) (s : Nat → Int32) (r : Nat) : Nat → Nat → Nat
  | i, 0 => i
  | i, m + 1 => if MevN rd (3 * i) (MrunN rd s i) = 0 then i else MrunE rd s r (i + 1) m
theorem MrunE_go {rd s : Nat → Int32} {r i : Nat} (hi : i < r) : MrunE rd s r i (r - i) = if MevN rd (3 * i) (MrunN rd s i) = 0 then i else MrunE rd s r (i + 1) (r - (i + 1)) := by
  rw [show r - i = (r - (i + 1)) + 1 by omega]; rfl
/-- what the failing event, or none, leaves -/
def MrunS (rd : Nat → Int32) (s : Nat → Int32) (r : Nat) : Nat → Int32 := if MrunE rd s r 0 r < r then MrunN rd s (MrunE rd s r 0 r + 1) else MrunN rd s (MrunE rd s r 0 r)
def MrunM (j n : Nat) (m : MSt) : MSt :=
  if (rFin (mbf m) n (mrd m)).2.1 = 0 then sMth (MR (sMth m (nI 0)) (rFin (mbf m) n (mrd m))) (nI 1)
  else sMs (sMln (sMsm (sMsv (MR (sMth m (nI 0)) (rFin (mbf m) n (mrd m))) (Msv (ms m) (msv m) j)) (nI (kSz j))) (nI 0)) (MrunS (rFin (mbf m) n (mrd m)).2.2.2 (ms m) (rFin (mbf m) n (mrd m)).2.2.1)
def MrunR (n : Nat) (m : MSt) : Nat :=
  if (rFin (mbf m) n (mrd m)).2.1 = 0 then 0 else MrunE (rFin (mbf m) n (mrd m)).2.2.2 (ms m) (rFin (mbf m) n (mrd m)).2.2.1 0 (rFin (mbf m) n (mrd m)).2.2.1
set_option maxHeartbeats 4000000 in
set_option maxRecDepth 100000 in
theorem c_X4_sign (l : Launch) (g : kG) (a : Nat → Nat) (m9 : MSt) (n a9 : Nat) (hn : n ≤ 60) (hln : mln m9 = nI n) (hat : mat m9 = nI a9) (ha9 : a9 ≤ 100) (hbf : Tok (mbf m9) n) : KI l yX4_sign wsX4_sign ({ frames := 0, cells := 0, slots := 0, locals := 0 }) g [.ref (a 0)] (wM g a m9) (nI (Bq (mbf m9) n a9)) (wM g a m9) 0 0 := by
  refine k_begin (cc := cX4_sign) (maxL := 1) (ret := (some .int)) (Qc := fun A => kQi g (nI (Bq (mbf m9) n a9)) (wM g a m9) A) (by decide) rfl (Nat.le_of_ble_eq_true rfl) ?_
  intro p e s m below meth c A ls hF hr hlocks hin hE hP hD hS hA hl
  obtain ⟨hx, hb, hml, hown, hts⟩ := id hF
  have hown : s.vm.findClass RX4 = some m.cls := hown
  have hl : lv_has ls 1 [(0, .ref (a 0))] := hl
  have hiX4 : ∀ w ∈ wsX40, w ∈ wsX4_sign := fun _ h => List.mem_cons_of_mem _ (List.mem_append_right _ (h))
  have f116 : (Cond.fieldLink RX4 116 "ConcertUsherModel" "at" "I").before _ s = true := hts _ (List.mem_of_getElem? (i := 1) rfl)
  have f113 : (Cond.fieldLink RX4 113 "ConcertUsherModel" "length" "I").before _ s = true := hts _ (List.mem_of_getElem? (i := 2) rfl)
  have f19 : (Cond.fieldLink RX4 19 "ConcertUsherModel" "buffer" "[I").before _ s = true := hts _ (List.mem_of_getElem? (i := 3) rfl)
  refine lv_aload_n hx hb dX4_sign_0 rfl (lv_at hl 0 rfl) ?_
  refine va_get (D := g.1) (ci := 4) (v := .int (mat m9)) (C := RX4) (T := TX4) (N := 12) hx hb hts hiX4 hown hE.1 hP 0 rfl rfl 7 (by decide) f116 (fun _ h9 => h9) rfl dX4_sign_1 ?_
  refine k_top hat ?_
  refine lv_aload_n hx hb dX4_sign_4 rfl (lv_at hl 0 rfl) ?_
  refine va_get (D := g.1) (ci := 4) (v := .int (mln m9)) (C := RX4) (T := TX4) (N := 12) hx hb hts hiX4 hown hE.1 hP 0 rfl rfl 6 (by decide) f113 (fun _ h9 => h9) rfl dX4_sign_5 ?_
  refine k_top hln ?_
  refine k_geN (tgt := 23) hx hb (by omega) (by omega) dX4_sign_8 (by decide) (fun c1 => ?_) (fun c1 => ?_)
  ·
    refine lv_iconst (v := (nI 0)) hx hb dX4_sign_23 (by decide) ?_
    have hP : va_P g.1 vwCl (wM g a m9) _ := hP
    have hD : va_D A (wM g a m9) := hD
    exact k_iret hx hb hr hlocks rfl (by rw [Bq, if_pos ‹_›]) hP hD hS (Nat.le_of_ble_eq_true rfl) (Nat.le_of_ble_eq_true rfl) dX4_sign_24
  ·
    refine lv_aload_n hx hb dX4_sign_11 rfl (lv_at hl 0 rfl) ?_
    refine va_get (D := g.1) (ci := 4) (v := .ref (a 4)) (C := RX4) (T := TX4) (N := 12) hx hb hts hiX4 hown hE.1 hP 0 rfl rfl 5 (by decide) f19 (fun _ h9 => h9) rfl dX4_sign_12 ?_
    refine lv_aload_n hx hb dX4_sign_15 rfl (lv_at hl 0 rfl) ?_
    refine va_get (D := g.1) (ci := 4) (v := .int (mat m9)) (C := RX4) (T := TX4) (N := 12) hx hb hts hiX4 hown hE.1 hP 0 rfl rfl 7 (by decide) f116 (fun _ h9 => h9) rfl dX4_sign_16 ?_
    refine k_top hat ?_
    refine k_iald (f := (mbf m9)) hx hb hE hP 4 rfl a9 rfl (by omega) (by decide) dX4_sign_19 ?_
    refine lv_goto (tgt := 24) hx hb dX4_sign_20 (by decide) ?_
    have hP : va_P g.1 vwCl (wM g a m9) _ := hP
    have hD : va_D A (wM g a m9) := hD
    exact k_iret hx hb hr hlocks rfl (by rw [Bq, if_neg (Nat.not_le.mpr ‹_›)]; exact (Tok_cl hbf ‹_›).1.symm) hP hD hS (Nat.le_of_ble_eq_true rfl) (Nat.le_of_ble_eq_true rfl) dX4_sign_24
set_option maxHeartbeats 4000000 in
set_option maxRecDepth 100000 in
theorem c_X4_figure (l : Launch) (g : kG) (a : Nat → Nat) (m9 : MSt) (n a9 : Nat) (hn : n ≤ 60) (hln : mln m9 = nI n) (hat : mat m9 = nI a9) (ha9 : a9 ≤ 100) (hbf : Tok (mbf m9) n) (w : Nat) (hiw : miw m9 = nI w) (lo : Nat) (hlo : lo ≤ 9) (hi : Nat) (hhi : hi ≤ 9) : KI l yX4_figure wsX4_figure ({ frames := 1, cells := 0, slots := 0, locals := 22 }) g [.ref (a 0), .int (nI lo), .int (nI hi)] (wM g a m9) ((nI (Bq (mbf m9) n a9)) - (nI 48)) (wM g a (sMat (sMiw m9 (nI (figW w (Bq (mbf m9) n a9) lo hi))) (nI (a9 + (figW w (Bq (mbf m9) n a9) lo hi))))) 0 0 := by
  refine k_begin (cc := cX4_figure) (maxL := 4) (ret := (some .int)) (Qc := fun A => kQi g ((nI (Bq (mbf m9) n a9)) - (nI 48)) (wM g a (sMat (sMiw m9 (nI (figW w (Bq (mbf m9) n a9) lo hi))) (nI (a9 + (figW w (Bq (mbf m9) n a9) lo hi))))) A) (by decide) rfl (Nat.le_of_ble_eq_true rfl) ?_
  intro p e s m below meth c A ls hF hr hlocks hin hE hP hD hS hA hl
  obtain ⟨hx, hb, hml, hown, hts⟩ := id hF
  have hown : s.vm.findClass RX4 = some m.cls := hown
  have hl : lv_has ls 4 [(0, .ref (a 0)), (1, .int (nI lo)), (2, .int (nI hi))] := hl
  have hiX4 : ∀ w ∈ wsX40, w ∈ wsX4_figure := fun _ h => List.mem_cons_of_mem _ (List.mem_append_right _ (h))
  have f119 : (Cond.fieldLink RX4 119 "ConcertUsherModel" "isWell" "Z").before _ s = true := hts _ (List.mem_of_getElem? (i := 1) rfl)
  have f116 : (Cond.fieldLink RX4 116 "ConcertUsherModel" "at" "I").before _ s = true := hts _ (List.mem_of_getElem? (i := 2) rfl)
  refine lv_aload_n hx hb dX4_figure_0 rfl (lv_at hl 0 rfl) ?_
  refine lv_aload_n hx hb dX4_figure_1 rfl (lv_at hl 0 rfl) ?_
  refine va_get (D := g.1) (ci := 4) (v := .int (miw m9)) (C := RX4) (T := TX4) (N := 12) hx hb hts hiX4 hown hE.1 hP 0 rfl rfl 8 (by decide) f119 (fun _ h9 => h9) rfl dX4_figure_2 ?_
  refine k_top hiw ?_
  refine k_meet (x := .int (nI (figW w (Bq (mbf m9) n a9) lo hi))) (pj := 31) (rest := [.ref (a 0)]) (fun J1 => ?_) ?_
  ·
    refine k_if0 (tgt := 30) hx hb (by omega) dX4_figure_5 (by decide) (fun c2 => ?_) (fun c2 => ?_)
    ·
      refine lv_iconst (v := (nI 0)) hx hb dX4_figure_30 (by decide) ?_
      exact k_top (by first | rfl | exact congrArg nI (by omega) | exact (by first | (simp only [figW, bI, if_pos c2, if_neg (not_not_intro c2)]; done) | (simp only [figW, bI, if_pos c2, if_neg (not_not_intro c2)]; rfl) | rfl | (simp [figW, bI, if_pos c2, if_neg (not_not_intro c2)]; done))) J1
    ·
      refine lv_aload_n hx hb dX4_figure_8 rfl (lv_at hl 0 rfl) ?_
      refine k_Vi (As := []) (r := (nI (Bq (mbf m9) n a9))) hF (c_X4_sign l g a m9 n a9 hn hln hat (by omega) hbf) (cwV 0 hts gX4_figure_X4_sign rfl rfl rfl (by decide +kernel) ⟨Nat.le_of_ble_eq_true rfl, Nat.le_of_ble_eq_true rfl⟩) hE hP hD hS hA (k_pall _) ((k_pall _).symm) 0 rfl rfl rfl rfl hl.1 rfl (Nat.le_of_ble_eq_true rfl) dX4_figure_9 ⟨Nat.le_of_ble_eq_true rfl, Nat.le_of_ble_eq_true rfl⟩ (fun H locs hP hD hS => ?_)
      have hP : va_P g.1 vwCl (wM g a m9) _ := hP
      have hD : va_D A (wM g a m9) := hD
      refine lv_bipush (v := (nI 48)) hx hb dX4_figure_12 (by decide) ?_
      refine lv_iload_n hx hb dX4_figure_14 rfl (lv_at hl 1 rfl) ?_
      refine lv_iadd hx hb dX4_figure_15 ?_
      refine k_top (nI_add _ _) ?_
      refine lv_bipush (v := (nI 48)) hx hb dX4_figure_16 (by decide) ?_
      refine lv_iload_n hx hb dX4_figure_18 rfl (lv_at hl 2 rfl) ?_
      refine lv_iadd hx hb dX4_figure_19 ?_
      refine k_top (nI_add _ _) ?_
      refine k_Si (w0 := []) (w1 := []) (As := [.int (nI (Bq (mbf m9) n a9)), .int (nI (48 + lo)), .int (nI (48 + hi))]) (r := (bI ((nI (48 + lo)) ≤ (nI (Bq (mbf m9) n a9)) ∧ (nI (Bq (mbf m9) n a9)) ≤ (nI (48 + hi))))) hF (c_X4_in l g (nI (Bq (mbf m9) n a9)) (nI (48 + lo)) (nI (48 + hi))) (va_cwS 3 hts gX4_figure_X4_in rfl rfl rfl (by decide +kernel) ⟨Nat.le_of_ble_eq_true rfl, Nat.le_of_ble_eq_true rfl⟩) hE hP hD hS hA (List.Perm.refl _) (List.Perm.refl _) rfl hl.1 rfl (Nat.le_of_ble_eq_true rfl) dX4_figure_20 ⟨Nat.le_of_ble_eq_true rfl, Nat.le_of_ble_eq_true rfl⟩ (fun H locs hP hD hS => ?_)
      have hP : va_P g.1 vwCl (wM g a m9) _ := hP
      have hD : va_D A (wM g a m9) := hD
      refine k_ifeqB (tgt := 30) hx hb dX4_figure_23 (by decide) (fun c3 => ?_) (fun c3 => ?_)
      ·
        refine lv_iconst (v := (nI 0)) hx hb dX4_figure_30 (by decide) ?_
        exact k_top (by first | rfl | exact congrArg nI (by omega) | exact (by first | (simp only [figW, bI, if_neg c2, if_pos c2, if_neg c3, if_pos c3]; done) | (simp only [figW, bI, if_neg c2, if_pos c2, if_neg c3, if_pos c3]; rfl) | rfl | (simp [figW, bI, if_neg c2, if_pos c2, if_neg c3, if_pos c3]; done))) J1
      ·
        refine lv_iconst (v := (nI 1)) hx hb dX4_figure_26 (by decide) ?_
        refine lv_goto (tgt := 31) hx hb dX4_figure_27 (by decide) ?_
        exact k_top (by first | rfl | exact congrArg nI (by omega) | exact (by first | (simp only [figW, bI, if_neg c2, if_pos c2, if_pos c3, if_neg (not_not_intro c3)]; done) | (simp only [figW, bI, if_neg c2, if_pos c2, if_pos c3, if_neg (not_not_intro c3)]; rfl) | rfl | (simp [figW, bI, if_neg c2, if_pos c2, if_pos c3, if_neg (not_not_intro c3)]; done))) J1
  ·
    refine va_put (D := g.1) (ci := 4) (v := .int (nI (figW w (Bq (mbf m9) n a9) lo hi))) (ty := .boolean) (C := RX4) (T := TX4) (N := 12) hx hb hts hiX4 tyX4 tyX4_ok nmX4 hown hE.1 hP hD hS 0 rfl rfl 8 (by decide) f119 (fun _ h9 => h9) rfl (tyX4_ok 8 (by decide)) (bo_nar (k_b2 (figW_lt _ _ _ _))) (bo_fits (k_b2 (figW_lt _ _ _ _))) (Nat.le_of_ble_eq_true rfl) dX4_figure_31 (fun H locs hP hD hS => ?_)
    have hP : va_P g.1 vwCl (wM g a (sMiw m9 (nI (figW w (Bq (mbf m9) n a9) lo hi)))) _ := hP
    have hD : va_D A (wM g a (sMiw m9 (nI (figW w (Bq (mbf m9) n a9) lo hi)))) := hD
    have hfw := figW_lt w (Bq (mbf m9) n a9) lo hi
    refine lv_aload_n hx hb dX4_figure_34 rfl (lv_at hl 0 rfl) ?_
    refine k_Vi (As := []) (r := (nI (Bq (mbf m9) n a9))) hF (c_X4_sign l g a (sMiw m9 (nI (figW w (Bq (mbf m9) n a9) lo hi))) n a9 hn hln hat (by omega) hbf) (cwV 0 hts gX4_figure_X4_sign rfl rfl rfl (by decide +kernel) ⟨Nat.le_of_ble_eq_true rfl, Nat.le_of_ble_eq_true rfl⟩) hE hP hD hS hA (k_pall _) ((k_pall _).symm) 0 rfl rfl rfl rfl hl.1 rfl (Nat.le_of_ble_eq_true rfl) dX4_figure_35 ⟨Nat.le_of_ble_eq_true rfl, Nat.le_of_ble_eq_true rfl⟩ (fun H locs hP hD hS => ?_)
    have hP : va_P g.1 vwCl (wM g a (sMiw m9 (nI (figW w (Bq (mbf m9) n a9) lo hi)))) _ := hP
    have hD : va_D A (wM g a (sMiw m9 (nI (figW w (Bq (mbf m9) n a9) lo hi)))) := hD
    refine lv_bipush (v := (nI 48)) hx hb dX4_figure_38 (by decide) ?_
    refine lv_isub hx hb dX4_figure_40 ?_
    refine lv_istore_n (lv' := [(3, .int ((nI (Bq (mbf m9) n a9)) - (nI 48))), (0, .ref (a 0)), (1, .int (nI lo)), (2, .int (nI hi))]) hx hb dX4_figure_41 rfl hl (by decide) rfl (fun ls hl => ?_)
    refine lv_aload_n hx hb dX4_figure_42 rfl (lv_at hl 1 rfl) ?_
    refine lv_dup hx hb dX4_figure_43 rfl ?_
    refine va_get (D := g.1) (ci := 4) (v := .int (mat m9)) (C := RX4) (T := TX4) (N := 12) hx hb hts hiX4 hown hE.1 hP 0 rfl rfl 7 (by decide) f116 (fun _ h9 => h9) rfl dX4_figure_44 ?_
    refine k_top hat ?_
    refine lv_aload_n hx hb dX4_figure_47 rfl (lv_at hl 1 rfl) ?_
    refine va_get (D := g.1) (ci := 4) (v := .int (nI (figW w (Bq (mbf m9) n a9) lo hi))) (C := RX4) (T := TX4) (N := 12) hx hb hts hiX4 hown hE.1 hP 0 rfl rfl 8 (by decide) f119 (fun _ h9 => h9) rfl dX4_figure_48 ?_
    refine k_meet (x := .int (nI (figW w (Bq (mbf m9) n a9) lo hi))) (pj := 59) (rest := [.int (nI a9), .ref (a 0)]) (fun J4 => ?_) ?_
    ·
      refine k_if0 (tgt := 58) hx hb (figW_lt31 _ _ _ _) dX4_figure_51 (by decide) (fun c5 => ?_) (fun c5 => ?_)
      ·
        refine lv_iconst (v := (nI 0)) hx hb dX4_figure_58 (by decide) ?_
        exact k_top (congrArg nI (by have h8 : figW w (Bq (mbf m9) n a9) lo hi < 2 := (figW_lt _ _ _ _); omega)) J4
      ·
        refine lv_iconst (v := (nI 1)) hx hb dX4_figure_54 (by decide) ?_
        refine lv_goto (tgt := 59) hx hb dX4_figure_55 (by decide) ?_
        exact k_top (congrArg nI (by have h8 : figW w (Bq (mbf m9) n a9) lo hi < 2 := (figW_lt _ _ _ _); omega)) J4
    ·
      refine lv_iadd hx hb dX4_figure_59 ?_
      refine k_top (nI_add _ _) ?_
      refine va_put (D := g.1) (ci := 4) (v := .int (nI (a9 + (figW w (Bq (mbf m9) n a9) lo hi)))) (ty := .int) (C := RX4) (T := TX4) (N := 12) hx hb hts hiX4 tyX4 tyX4_ok nmX4 hown hE.1 hP hD hS 0 rfl rfl 7 (by decide) f116 (fun _ h9 => h9) rfl (tyX4_ok 7 (by decide)) rfl rfl (Nat.le_of_ble_eq_true rfl) dX4_figure_60 (fun H locs hP hD hS => ?_)
      have hP : va_P g.1 vwCl (wM g a (sMat (sMiw m9 (nI (figW w (Bq (mbf m9) n a9) lo hi))) (nI (a9 + (figW w (Bq (mbf m9) n a9) lo hi))))) _ := hP
      have hD : va_D A (wM g a (sMat (sMiw m9 (nI (figW w (Bq (mbf m9) n a9) lo hi))) (nI (a9 + (figW w (Bq (mbf m9) n a9) lo hi))))) := hD
      refine lv_iload_n hx hb dX4_figure_63 rfl (lv_at hl 0 rfl) ?_
      have hP : va_P g.1 vwCl (wM g a (sMat (sMiw m9 (nI (figW w (Bq (mbf m9) n a9) lo hi))) (nI (a9 + (figW w (Bq (mbf m9) n a9) lo hi))))) _ := hP
      have hD : va_D A (wM g a (sMat (sMiw m9 (nI (figW w (Bq (mbf m9) n a9) lo hi))) (nI (a9 + (figW w (Bq (mbf m9) n a9) lo hi))))) := hD
      exact k_iret hx hb hr hlocks rfl rfl hP hD hS (Nat.le_of_ble_eq_true rfl) (Nat.le_of_ble_eq_true rfl) dX4_figure_64
set_option maxHeartbeats 4000000 in
set_option maxRecDepth 100000 in
theorem c_X4_number (l : Launch) (g : kG) (a : Nat → Nat) (m9 : MSt) (n a9 : Nat) (hn : n ≤ 60) (hln : mln m9 = nI n) (hat : mat m9 = nI a9) (ha9 : a9 ≤ 100) (hbf : Tok (mbf m9) n) (ha98 : a9 ≤ 98) (w : Nat) (hiw : miw m9 = nI w) : KI l yX4_number wsX4_number ({ frames := 2, cells := 0, slots := 0, locals := 45 }) g [.ref (a 0)] (wM g a m9) (numV (mbf m9) n a9 w) (wM g a (sMat (sMiw m9 (nI (figW w (Bq (mbf m9) n a9) 1 9))) (nI (numA (mbf m9) n a9 w)))) 0 0 := by
  refine k_begin (cc := cX4_number) (maxL := 2) (ret := (some .int)) (Qc := fun A => kQi g (numV (mbf m9) n a9 w) (wM g a (sMat (sMiw m9 (nI (figW w (Bq (mbf m9) n a9) 1 9))) (nI (numA (mbf m9) n a9 w)))) A) (by decide) rfl (Nat.le_of_ble_eq_true rfl) ?_
  intro p e s m below meth c A ls hF hr hlocks hin hE hP hD hS hA hl
  obtain ⟨hx, hb, hml, hown, hts⟩ := id hF
  have hown : s.vm.findClass RX4 = some m.cls := hown
  have hl : lv_has ls 2 [(0, .ref (a 0))] := hl
  have hiX4 : ∀ w ∈ wsX40, w ∈ wsX4_number := fun _ h => List.mem_cons_of_mem _ (List.mem_append_right _ (h))
  have f119 : (Cond.fieldLink RX4 119 "ConcertUsherModel" "isWell" "Z").before _ s = true := hts _ (List.mem_of_getElem? (i := 1) rfl)
  have f116 : (Cond.fieldLink RX4 116 "ConcertUsherModel" "at" "I").before _ s = true := hts _ (List.mem_of_getElem? (i := 2) rfl)
  refine lv_aload_n hx hb dX4_number_0 rfl (lv_at hl 0 rfl) ?_
  refine lv_iconst (v := (nI 1)) hx hb dX4_number_1 (by decide) ?_
  refine lv_bipush (v := (nI 9)) hx hb dX4_number_2 (by decide) ?_
  refine k_Vi (As := [.int (nI 1), .int (nI 9)]) (r := ((nI (Bq (mbf m9) n a9)) - (nI 48))) hF (c_X4_figure l g a m9 n a9 hn hln hat (by omega) hbf w hiw 1 (by decide) 9 (by decide)) (cwV 2 hts gX4_number_X4_figure rfl rfl rfl (by decide +kernel) ⟨Nat.le_of_ble_eq_true rfl, Nat.le_of_ble_eq_true rfl⟩) hE hP hD hS hA (k_pall _) ((k_pall _).symm) 0 rfl rfl rfl rfl hl.1 rfl (Nat.le_of_ble_eq_true rfl) dX4_number_4 ⟨Nat.le_of_ble_eq_true rfl, Nat.le_of_ble_eq_true rfl⟩ (fun H locs hP hD hS => ?_)
  have hP : va_P g.1 vwCl (wM g a (sMat (sMiw m9 (nI (figW w (Bq (mbf m9) n a9) 1 9))) (nI (a9 + (figW w (Bq (mbf m9) n a9) 1 9))))) _ := hP
  have hD : va_D A (wM g a (sMat (sMiw m9 (nI (figW w (Bq (mbf m9) n a9) 1 9))) (nI (a9 + (figW w (Bq (mbf m9) n a9) 1 9))))) := hD
  refine lv_istore_n (lv' := [(1, .int ((nI (Bq (mbf m9) n a9)) - (nI 48))), (0, .ref (a 0))]) hx hb dX4_number_7 rfl hl (by decide) rfl (fun ls hl => ?_)
  have hfw := figW_lt w (Bq (mbf m9) n a9) 1 9
  refine lv_aload_n hx hb dX4_number_8 rfl (lv_at hl 1 rfl) ?_
  refine va_get (D := g.1) (ci := 4) (v := .int (nI (figW w (Bq (mbf m9) n a9) 1 9))) (C := RX4) (T := TX4) (N := 12) hx hb hts hiX4 hown hE.1 hP 0 rfl rfl 8 (by decide) f119 (fun _ h9 => h9) rfl dX4_number_9 ?_
  refine k_if0 (tgt := 69) hx hb (figW_lt31 _ _ _ _) dX4_number_12 (by decide) (fun c1 => ?_) (fun c1 => ?_)
  ·
    refine lv_iload_n hx hb dX4_number_69 rfl (lv_at hl 0 rfl) ?_
    have e2 : (sMat (sMiw m9 (nI (figW w (Bq (mbf m9) n a9) 1 9))) (nI (numA (mbf m9) n a9 w))) = (sMat (sMiw m9 (nI (figW w (Bq (mbf m9) n a9) 1 9))) (nI (a9 + (figW w (Bq (mbf m9) n a9) 1 9)))) := (by first | (simp only [numV, numA, numP, numX, if_pos c1, if_neg (not_not_intro c1)]; done) | (simp only [numV, numA, numP, numX, if_pos c1, if_neg (not_not_intro c1)]; rfl) | rfl | (simp [numV, numA, numP, numX, if_pos c1, if_neg (not_not_intro c1)]; done))
    have hP : va_P g.1 vwCl (wM g a (sMat (sMiw m9 (nI (figW w (Bq (mbf m9) n a9) 1 9))) (nI (numA (mbf m9) n a9 w)))) H := by rw [e2]; exact hP
    have hD : va_D A (wM g a (sMat (sMiw m9 (nI (figW w (Bq (mbf m9) n a9) 1 9))) (nI (numA (mbf m9) n a9 w)))) := by rw [e2]; exact hD
    exact k_iret hx hb hr hlocks rfl (by first | (simp only [numV, numA, numP, numX, bI, if_pos c1, if_neg (not_not_intro c1)]; done) | (simp only [numV, numA, numP, numX, bI, if_pos c1, if_neg (not_not_intro c1)]; rfl) | rfl | (simp [numV, numA, numP, numX, bI, if_pos c1, if_neg (not_not_intro c1)]; done)) hP hD hS (Nat.le_of_ble_eq_true rfl) (Nat.le_of_ble_eq_true rfl) dX4_number_70
  ·
    refine lv_aload_n hx hb dX4_number_15 rfl (lv_at hl 1 rfl) ?_
    refine k_Vi (As := []) (r := (nI (Bq (mbf m9) n (a9 + (figW w (Bq (mbf m9) n a9) 1 9))))) hF (c_X4_sign l g a (sMat (sMiw m9 (nI (figW w (Bq (mbf m9) n a9) 1 9))) (nI (a9 + (figW w (Bq (mbf m9) n a9) 1 9)))) n (a9 + (figW w (Bq (mbf m9) n a9) 1 9)) hn hln rfl (by omega) hbf) (cwV 0 hts gX4_number_X4_sign rfl rfl rfl (by decide +kernel) ⟨Nat.le_of_ble_eq_true rfl, Nat.le_of_ble_eq_true rfl⟩) hE hP hD hS hA (k_pall _) ((k_pall _).symm) 0 rfl rfl rfl rfl hl.1 rfl (Nat.le_of_ble_eq_true rfl) dX4_number_16 ⟨Nat.le_of_ble_eq_true rfl, Nat.le_of_ble_eq_true rfl⟩ (fun H locs hP hD hS => ?_)
    have hP : va_P g.1 vwCl (wM g a (sMat (sMiw m9 (nI (figW w (Bq (mbf m9) n a9) 1 9))) (nI (a9 + (figW w (Bq (mbf m9) n a9) 1 9))))) _ := hP
    have hD : va_D A (wM g a (sMat (sMiw m9 (nI (figW w (Bq (mbf m9) n a9) 1 9))) (nI (a9 + (figW w (Bq (mbf m9) n a9) 1 9))))) := hD
    refine lv_bipush (v := (nI 48)) hx hb dX4_number_19 (by decide) ?_
    refine lv_bipush (v := (nI 57)) hx hb dX4_number_21 (by decide) ?_
    refine k_Si (w0 := []) (w1 := []) (As := [.int (nI (Bq (mbf m9) n (a9 + (figW w (Bq (mbf m9) n a9) 1 9)))), .int (nI 48), .int (nI 57)]) (r := (bI ((nI 48) ≤ (nI (Bq (mbf m9) n (a9 + (figW w (Bq (mbf m9) n a9) 1 9)))) ∧ (nI (Bq (mbf m9) n (a9 + (figW w (Bq (mbf m9) n a9) 1 9)))) ≤ (nI 57)))) hF (c_X4_in l g (nI (Bq (mbf m9) n (a9 + (figW w (Bq (mbf m9) n a9) 1 9)))) (nI 48) (nI 57)) (va_cwS 3 hts gX4_number_X4_in rfl rfl rfl (by decide +kernel) ⟨Nat.le_of_ble_eq_true rfl, Nat.le_of_ble_eq_true rfl⟩) hE hP hD hS hA (List.Perm.refl _) (List.Perm.refl _) rfl hl.1 rfl (Nat.le_of_ble_eq_true rfl) dX4_number_23 ⟨Nat.le_of_ble_eq_true rfl, Nat.le_of_ble_eq_true rfl⟩ (fun H locs hP hD hS => ?_)
    have hP : va_P g.1 vwCl (wM g a (sMat (sMiw m9 (nI (figW w (Bq (mbf m9) n a9) 1 9))) (nI (a9 + (figW w (Bq (mbf m9) n a9) 1 9))))) _ := hP
    have hD : va_D A (wM g a (sMat (sMiw m9 (nI (figW w (Bq (mbf m9) n a9) 1 9))) (nI (a9 + (figW w (Bq (mbf m9) n a9) 1 9))))) := hD
    refine k_ifeqB (tgt := 69) hx hb dX4_number_26 (by decide) (fun c3 => ?_) (fun c3 => ?_)
    ·
      refine lv_iload_n hx hb dX4_number_69 rfl (lv_at hl 0 rfl) ?_
      have e4 : (sMat (sMiw m9 (nI (figW w (Bq (mbf m9) n a9) 1 9))) (nI (numA (mbf m9) n a9 w))) = (sMat (sMiw m9 (nI (figW w (Bq (mbf m9) n a9) 1 9))) (nI (a9 + (figW w (Bq (mbf m9) n a9) 1 9)))) := (by first | (simp only [numV, numA, numP, numX, if_neg c1, if_pos c1, if_neg c3, if_pos c3]; done) | (simp only [numV, numA, numP, numX, if_neg c1, if_pos c1, if_neg c3, if_pos c3]; rfl) | rfl | (simp [numV, numA, numP, numX, if_neg c1, if_pos c1, if_neg c3, if_pos c3]; done))
      have hP : va_P g.1 vwCl (wM g a (sMat (sMiw m9 (nI (figW w (Bq (mbf m9) n a9) 1 9))) (nI (numA (mbf m9) n a9 w)))) H := by rw [e4]; exact hP
      have hD : va_D A (wM g a (sMat (sMiw m9 (nI (figW w (Bq (mbf m9) n a9) 1 9))) (nI (numA (mbf m9) n a9 w)))) := by rw [e4]; exact hD
      exact k_iret hx hb hr hlocks rfl (by first | (simp only [numV, numA, numP, numX, bI, if_neg c1, if_pos c1, if_neg c3, if_pos c3]; done) | (simp only [numV, numA, numP, numX, bI, if_neg c1, if_pos c1, if_neg c3, if_pos c3]; rfl) | rfl | (simp [numV, numA, numP, numX, bI, if_neg c1, if_pos c1, if_neg c3, if_pos c3]; done)) hP hD hS (Nat.le_of_ble_eq_true rfl) (Nat.le_of_ble_eq_true rfl) dX4_number_70
    ·
      refine lv_bipush (v := (nI 10)) hx hb dX4_number_29 (by decide) ?_
      refine lv_iload_n hx hb dX4_number_31 rfl (lv_at hl 0 rfl) ?_
      refine lv_imul hx hb dX4_number_32 ?_
      refine lv_aload_n hx hb dX4_number_33 rfl (lv_at hl 1 rfl) ?_
      refine k_Vi (As := []) (r := (nI (Bq (mbf m9) n (a9 + (figW w (Bq (mbf m9) n a9) 1 9))))) hF (c_X4_sign l g a (sMat (sMiw m9 (nI (figW w (Bq (mbf m9) n a9) 1 9))) (nI (a9 + (figW w (Bq (mbf m9) n a9) 1 9)))) n (a9 + (figW w (Bq (mbf m9) n a9) 1 9)) hn hln rfl (by omega) hbf) (cwV 0 hts gX4_number_X4_sign rfl rfl rfl (by decide +kernel) ⟨Nat.le_of_ble_eq_true rfl, Nat.le_of_ble_eq_true rfl⟩) hE hP hD hS hA (k_pall _) ((k_pall _).symm) 0 rfl rfl rfl rfl hl.1 rfl (Nat.le_of_ble_eq_true rfl) dX4_number_34 ⟨Nat.le_of_ble_eq_true rfl, Nat.le_of_ble_eq_true rfl⟩ (fun H locs hP hD hS => ?_)
      have hP : va_P g.1 vwCl (wM g a (sMat (sMiw m9 (nI (figW w (Bq (mbf m9) n a9) 1 9))) (nI (a9 + (figW w (Bq (mbf m9) n a9) 1 9))))) _ := hP
      have hD : va_D A (wM g a (sMat (sMiw m9 (nI (figW w (Bq (mbf m9) n a9) 1 9))) (nI (a9 + (figW w (Bq (mbf m9) n a9) 1 9))))) := hD
      refine lv_iadd hx hb dX4_number_37 ?_
      refine lv_bipush (v := (nI 48)) hx hb dX4_number_38 (by decide) ?_
      refine lv_isub hx hb dX4_number_40 ?_
      refine lv_bipush (v := (nI 60)) hx hb dX4_number_41 (by decide) ?_
      refine lv_icmp_gt (tgt := 69) hx hb dX4_number_43 (by decide) (fun c5 => ?_) (fun c5 => ?_)
      ·
        refine lv_iload_n hx hb dX4_number_69 rfl (lv_at hl 0 rfl) ?_
        have e6 : (sMat (sMiw m9 (nI (figW w (Bq (mbf m9) n a9) 1 9))) (nI (numA (mbf m9) n a9 w))) = (sMat (sMiw m9 (nI (figW w (Bq (mbf m9) n a9) 1 9))) (nI (a9 + (figW w (Bq (mbf m9) n a9) 1 9)))) := (by first | (simp only [numV, numA, numP, numX, if_neg c1, if_pos c1, if_pos c3, if_neg (not_not_intro c3), if_pos c5, if_neg (not_not_intro c5)]; done) | (simp only [numV, numA, numP, numX, if_neg c1, if_pos c1, if_pos c3, if_neg (not_not_intro c3), if_pos c5, if_neg (not_not_intro c5)]; rfl) | rfl | (simp [numV, numA, numP, numX, if_neg c1, if_pos c1, if_pos c3, if_neg (not_not_intro c3), if_pos c5, if_neg (not_not_intro c5)]; done))
        have hP : va_P g.1 vwCl (wM g a (sMat (sMiw m9 (nI (figW w (Bq (mbf m9) n a9) 1 9))) (nI (numA (mbf m9) n a9 w)))) H := by rw [e6]; exact hP
        have hD : va_D A (wM g a (sMat (sMiw m9 (nI (figW w (Bq (mbf m9) n a9) 1 9))) (nI (numA (mbf m9) n a9 w)))) := by rw [e6]; exact hD
        exact k_iret hx hb hr hlocks rfl (by first | (simp only [numV, numA, numP, numX, bI, if_neg c1, if_pos c1, if_pos c3, if_neg (not_not_intro c3), if_pos c5, if_neg (not_not_intro c5)]; done) | (simp only [numV, numA, numP, numX, bI, if_neg c1, if_pos c1, if_pos c3, if_neg (not_not_intro c3), if_pos c5, if_neg (not_not_intro c5)]; rfl) | rfl | (simp [numV, numA, numP, numX, bI, if_neg c1, if_pos c1, if_pos c3, if_neg (not_not_intro c3), if_pos c5, if_neg (not_not_intro c5)]; done)) hP hD hS (Nat.le_of_ble_eq_true rfl) (Nat.le_of_ble_eq_true rfl) dX4_number_70
      ·
        refine lv_bipush (v := (nI 10)) hx hb dX4_number_46 (by decide) ?_
        refine lv_iload_n hx hb dX4_number_48 rfl (lv_at hl 0 rfl) ?_
        refine lv_imul hx hb dX4_number_49 ?_
        refine lv_aload_n hx hb dX4_number_50 rfl (lv_at hl 1 rfl) ?_
        refine k_Vi (As := []) (r := (nI (Bq (mbf m9) n (a9 + (figW w (Bq (mbf m9) n a9) 1 9))))) hF (c_X4_sign l g a (sMat (sMiw m9 (nI (figW w (Bq (mbf m9) n a9) 1 9))) (nI (a9 + (figW w (Bq (mbf m9) n a9) 1 9)))) n (a9 + (figW w (Bq (mbf m9) n a9) 1 9)) hn hln rfl (by omega) hbf) (cwV 0 hts gX4_number_X4_sign rfl rfl rfl (by decide +kernel) ⟨Nat.le_of_ble_eq_true rfl, Nat.le_of_ble_eq_true rfl⟩) hE hP hD hS hA (k_pall _) ((k_pall _).symm) 0 rfl rfl rfl rfl hl.1 rfl (Nat.le_of_ble_eq_true rfl) dX4_number_51 ⟨Nat.le_of_ble_eq_true rfl, Nat.le_of_ble_eq_true rfl⟩ (fun H locs hP hD hS => ?_)
        have hP : va_P g.1 vwCl (wM g a (sMat (sMiw m9 (nI (figW w (Bq (mbf m9) n a9) 1 9))) (nI (a9 + (figW w (Bq (mbf m9) n a9) 1 9))))) _ := hP
        have hD : va_D A (wM g a (sMat (sMiw m9 (nI (figW w (Bq (mbf m9) n a9) 1 9))) (nI (a9 + (figW w (Bq (mbf m9) n a9) 1 9))))) := hD
        refine lv_iadd hx hb dX4_number_54 ?_
        refine lv_bipush (v := (nI 48)) hx hb dX4_number_55 (by decide) ?_
        refine lv_isub hx hb dX4_number_57 ?_
        refine lv_istore_n (lv' := [(1, .int ((((nI 10) * ((nI (Bq (mbf m9) n a9)) - (nI 48))) + (nI (Bq (mbf m9) n (a9 + (figW w (Bq (mbf m9) n a9) 1 9))))) - (nI 48))), (0, .ref (a 0))]) hx hb dX4_number_58 rfl hl (by decide) rfl (fun ls hl => ?_)
        refine lv_aload_n hx hb dX4_number_59 rfl (lv_at hl 1 rfl) ?_
        refine lv_dup hx hb dX4_number_60 rfl ?_
        refine va_get (D := g.1) (ci := 4) (v := .int (nI (a9 + (figW w (Bq (mbf m9) n a9) 1 9)))) (C := RX4) (T := TX4) (N := 12) hx hb hts hiX4 hown hE.1 hP 0 rfl rfl 7 (by decide) f116 (fun _ h9 => h9) rfl dX4_number_61 ?_
        refine lv_iconst (v := (nI 1)) hx hb dX4_number_64 (by decide) ?_
        refine lv_iadd hx hb dX4_number_65 ?_
        refine k_top (nI_add _ _) ?_
        refine va_put (D := g.1) (ci := 4) (v := .int (nI ((a9 + (figW w (Bq (mbf m9) n a9) 1 9)) + 1))) (ty := .int) (C := RX4) (T := TX4) (N := 12) hx hb hts hiX4 tyX4 tyX4_ok nmX4 hown hE.1 hP hD hS 0 rfl rfl 7 (by decide) f116 (fun _ h9 => h9) rfl (tyX4_ok 7 (by decide)) rfl rfl (Nat.le_of_ble_eq_true rfl) dX4_number_66 (fun H locs hP hD hS => ?_)
        have hP : va_P g.1 vwCl (wM g a (sMat (sMiw m9 (nI (figW w (Bq (mbf m9) n a9) 1 9))) (nI ((a9 + (figW w (Bq (mbf m9) n a9) 1 9)) + 1)))) _ := hP
        have hD : va_D A (wM g a (sMat (sMiw m9 (nI (figW w (Bq (mbf m9) n a9) 1 9))) (nI ((a9 + (figW w (Bq (mbf m9) n a9) 1 9)) + 1)))) := hD
        refine lv_iload_n hx hb dX4_number_69 rfl (lv_at hl 0 rfl) ?_
        have e7 : (sMat (sMiw m9 (nI (figW w (Bq (mbf m9) n a9) 1 9))) (nI (numA (mbf m9) n a9 w))) = (sMat (sMiw m9 (nI (figW w (Bq (mbf m9) n a9) 1 9))) (nI ((a9 + (figW w (Bq (mbf m9) n a9) 1 9)) + 1))) := (by first | (simp only [numV, numA, numP, numX, if_neg c1, if_pos c1, if_pos c3, if_neg (not_not_intro c3), if_neg c5, if_pos c5]; done) | (simp only [numV, numA, numP, numX, if_neg c1, if_pos c1, if_pos c3, if_neg (not_not_intro c3), if_neg c5, if_pos c5]; rfl) | rfl | (simp [numV, numA, numP, numX, if_neg c1, if_pos c1, if_pos c3, if_neg (not_not_intro c3), if_neg c5, if_pos c5]; done))
        have hP : va_P g.1 vwCl (wM g a (sMat (sMiw m9 (nI (figW w (Bq (mbf m9) n a9) 1 9))) (nI (numA (mbf m9) n a9 w)))) H := by rw [e7]; exact hP
        have hD : va_D A (wM g a (sMat (sMiw m9 (nI (figW w (Bq (mbf m9) n a9) 1 9))) (nI (numA (mbf m9) n a9 w)))) := by rw [e7]; exact hD
        exact k_iret hx hb hr hlocks rfl (by first | (simp only [numV, numA, numP, numX, bI, if_neg c1, if_pos c1, if_pos c3, if_neg (not_not_intro c3), if_neg c5, if_pos c5]; done) | (simp only [numV, numA, numP, numX, bI, if_neg c1, if_pos c1, if_pos c3, if_neg (not_not_intro c3), if_neg c5, if_pos c5]; rfl) | rfl | (simp [numV, numA, numP, numX, bI, if_neg c1, if_pos c1, if_pos c3, if_neg (not_not_intro c3), if_neg c5, if_pos c5]; done)) hP hD hS (Nat.le_of_ble_eq_true rfl) (Nat.le_of_ble_eq_true rfl) dX4_number_70
set_option maxHeartbeats 4000000 in
set_option maxRecDepth 100000 in
theorem c_X4_readsEvent (l : Launch) (g : kG) (a : Nat → Nat) (m9 : MSt) (n a9 : Nat) (hn : n ≤ 60) (hln : mln m9 = nI n) (hat : mat m9 = nI a9) (ha9 : a9 ≤ 100) (hbf : Tok (mbf m9) n) (ha60 : a9 ≤ 60) (r : Nat) (hrm : mrm m9 = nI r) (hr30 : r ≤ 30) : KV l yX4_readsEvent wsX4_readsEvent ({ frames := 3, cells := 0, slots := 0, locals := 66 }) g [.ref (a 0)] (wM g a m9) (wM g a (MR m9 (rEv (mbf m9) n a9 r (mrd m9)))) 0 0 := by
  refine k_begin (cc := cX4_readsEvent) (maxL := 3) (ret := none) (Qc := fun A => kQv g (wM g a (MR m9 (rEv (mbf m9) n a9 r (mrd m9)))) A) (by decide) rfl (Nat.le_of_ble_eq_true rfl) ?_
  intro p e s m below meth c A ls hF hr hlocks hin hE hP hD hS hA hl
  obtain ⟨hx, hb, hml, hown, hts⟩ := id hF
  have hown : s.vm.findClass RX4 = some m.cls := hown
  have hl : lv_has ls 3 [(0, .ref (a 0))] := hl
  have hiX4 : ∀ w ∈ wsX40, w ∈ wsX4_readsEvent := fun _ h => List.mem_cons_of_mem _ (List.mem_append_right _ (h))
  have f129 : (Cond.fieldLink RX4 129 "ConcertUsherModel" "readMany" "I").before _ s = true := hts _ (List.mem_of_getElem? (i := 1) rfl)
  have f119 : (Cond.fieldLink RX4 119 "ConcertUsherModel" "isWell" "Z").before _ s = true := hts _ (List.mem_of_getElem? (i := 2) rfl)
  have f116 : (Cond.fieldLink RX4 116 "ConcertUsherModel" "at" "I").before _ s = true := hts _ (List.mem_of_getElem? (i := 3) rfl)
  have f22 : (Cond.fieldLink RX4 22 "ConcertUsherModel" "read" "[I").before _ s = true := hts _ (List.mem_of_getElem? (i := 4) rfl)
  refine lv_iconst (v := (nI 3)) hx hb dX4_readsEvent_0 (by decide) ?_
  refine lv_aload_n hx hb dX4_readsEvent_1 rfl (lv_at hl 0 rfl) ?_
  refine va_get (D := g.1) (ci := 4) (v := .int (mrm m9)) (C := RX4) (T := TX4) (N := 12) hx hb hts hiX4 hown hE.1 hP 0 rfl rfl 10 (by decide) f129 (fun _ h9 => h9) rfl dX4_readsEvent_2 ?_
  refine k_top hrm ?_
  refine lv_imul hx hb dX4_readsEvent_5 ?_
  refine k_top (pk_mul _ _) ?_
  refine lv_istore_n (lv' := [(1, .int (nI (3 * r))), (0, .ref (a 0))]) hx hb dX4_readsEvent_6 rfl hl (by decide) rfl (fun ls hl => ?_)
  refine lv_aload_n hx hb dX4_readsEvent_7 rfl (lv_at hl 1 rfl) ?_
  refine k_Vi (As := []) (r := (nI (Bq (mbf m9) n a9))) hF (c_X4_sign l g a m9 n a9 hn hln hat (by omega) hbf) (cwV 0 hts gX4_readsEvent_X4_sign rfl rfl rfl (by decide +kernel) ⟨Nat.le_of_ble_eq_true rfl, Nat.le_of_ble_eq_true rfl⟩) hE hP hD hS hA (k_pall _) ((k_pall _).symm) 0 rfl rfl rfl rfl hl.1 rfl (Nat.le_of_ble_eq_true rfl) dX4_readsEvent_8 ⟨Nat.le_of_ble_eq_true rfl, Nat.le_of_ble_eq_true rfl⟩ (fun H locs hP hD hS => ?_)
  have hP : va_P g.1 vwCl (wM g a m9) _ := hP
  have hD : va_D A (wM g a m9) := hD
  refine lv_istore_n (lv' := [(2, .int (nI (Bq (mbf m9) n a9))), (1, .int (nI (3 * r))), (0, .ref (a 0))]) hx hb dX4_readsEvent_11 rfl hl (by decide) rfl (fun ls hl => ?_)
  refine lv_aload_n hx hb dX4_readsEvent_12 rfl (lv_at hl 2 rfl) ?_
  refine k_meet (x := .int (nI (evW (Bq (mbf m9) n a9)))) (pj := 54) (rest := [.ref (a 0)]) (fun J1 => ?_) ?_
  ·
    refine lv_iload_n hx hb dX4_readsEvent_13 rfl (lv_at hl 0 rfl) ?_
    refine lv_bipush (v := (nI 99)) hx hb dX4_readsEvent_14 (by decide) ?_
    refine k_eqN (tgt := 49) hx hb (Bq_lt31 hbf _) (by decide) dX4_readsEvent_16 (by decide) (fun c2 => ?_) (fun c2 => ?_)
    ·
      refine lv_iconst (v := (nI 1)) hx hb dX4_readsEvent_49 (by decide) ?_
      refine lv_goto (tgt := 54) hx hb dX4_readsEvent_50 (by decide) ?_
      exact k_top (by first | rfl | exact congrArg nI (by omega) | exact (by first | (simp only [rEv, rT, rO, rC, rC2, MR, bI, if_pos c2, if_neg (not_not_intro c2)]; done) | (simp only [rEv, rT, rO, rC, rC2, MR, bI, if_pos c2, if_neg (not_not_intro c2)]; rfl) | rfl | (simp [rEv, rT, rO, rC, rC2, MR, bI, if_pos c2, if_neg (not_not_intro c2)]; done))) J1
    ·
      refine lv_iload_n hx hb dX4_readsEvent_19 rfl (lv_at hl 0 rfl) ?_
      refine lv_bipush (v := (nI 108)) hx hb dX4_readsEvent_20 (by decide) ?_
      refine k_eqN (tgt := 49) hx hb (Bq_lt31 hbf _) (by decide) dX4_readsEvent_22 (by decide) (fun c3 => ?_) (fun c3 => ?_)
      ·
        refine lv_iconst (v := (nI 1)) hx hb dX4_readsEvent_49 (by decide) ?_
        refine lv_goto (tgt := 54) hx hb dX4_readsEvent_50 (by decide) ?_
        exact k_top (by first | rfl | exact congrArg nI (by omega) | exact (by first | (simp only [rEv, rT, rO, rC, rC2, MR, bI, if_neg c2, if_pos c2, if_pos c3, if_neg (not_not_intro c3)]; done) | (simp only [rEv, rT, rO, rC, rC2, MR, bI, if_neg c2, if_pos c2, if_pos c3, if_neg (not_not_intro c3)]; rfl) | rfl | (simp [rEv, rT, rO, rC, rC2, MR, bI, if_neg c2, if_pos c2, if_pos c3, if_neg (not_not_intro c3)]; done))) J1
      ·
        refine lv_iload_n hx hb dX4_readsEvent_25 rfl (lv_at hl 0 rfl) ?_
        refine lv_bipush (v := (nI 115)) hx hb dX4_readsEvent_26 (by decide) ?_
        refine k_eqN (tgt := 49) hx hb (Bq_lt31 hbf _) (by decide) dX4_readsEvent_28 (by decide) (fun c4 => ?_) (fun c4 => ?_)
        ·
          refine lv_iconst (v := (nI 1)) hx hb dX4_readsEvent_49 (by decide) ?_
          refine lv_goto (tgt := 54) hx hb dX4_readsEvent_50 (by decide) ?_
          exact k_top (by first | rfl | exact congrArg nI (by omega) | exact (by first | (simp only [rEv, rT, rO, rC, rC2, MR, bI, if_neg c2, if_pos c2, if_neg c3, if_pos c3, if_pos c4, if_neg (not_not_intro c4)]; done) | (simp only [rEv, rT, rO, rC, rC2, MR, bI, if_neg c2, if_pos c2, if_neg c3, if_pos c3, if_pos c4, if_neg (not_not_intro c4)]; rfl) | rfl | (simp [rEv, rT, rO, rC, rC2, MR, bI, if_neg c2, if_pos c2, if_neg c3, if_pos c3, if_pos c4, if_neg (not_not_intro c4)]; done))) J1
        ·
          refine lv_iload_n hx hb dX4_readsEvent_31 rfl (lv_at hl 0 rfl) ?_
          refine lv_bipush (v := (nI 112)) hx hb dX4_readsEvent_32 (by decide) ?_
          refine k_eqN (tgt := 49) hx hb (Bq_lt31 hbf _) (by decide) dX4_readsEvent_34 (by decide) (fun c5 => ?_) (fun c5 => ?_)
          ·
            refine lv_iconst (v := (nI 1)) hx hb dX4_readsEvent_49 (by decide) ?_
            refine lv_goto (tgt := 54) hx hb dX4_readsEvent_50 (by decide) ?_
            exact k_top (by first | rfl | exact congrArg nI (by omega) | exact (by first | (simp only [rEv, rT, rO, rC, rC2, MR, bI, if_neg c2, if_pos c2, if_neg c3, if_pos c3, if_neg c4, if_pos c4, if_pos c5, if_neg (not_not_intro c5)]; done) | (simp only [rEv, rT, rO, rC, rC2, MR, bI, if_neg c2, if_pos c2, if_neg c3, if_pos c3, if_neg c4, if_pos c4, if_pos c5, if_neg (not_not_intro c5)]; rfl) | rfl | (simp [rEv, rT, rO, rC, rC2, MR, bI, if_neg c2, if_pos c2, if_neg c3, if_pos c3, if_neg c4, if_pos c4, if_pos c5, if_neg (not_not_intro c5)]; done))) J1
          ·
            refine lv_iload_n hx hb dX4_readsEvent_37 rfl (lv_at hl 0 rfl) ?_
            refine lv_bipush (v := (nI 116)) hx hb dX4_readsEvent_38 (by decide) ?_
            refine k_eqN (tgt := 49) hx hb (Bq_lt31 hbf _) (by decide) dX4_readsEvent_40 (by decide) (fun c6 => ?_) (fun c6 => ?_)
            ·
              refine lv_iconst (v := (nI 1)) hx hb dX4_readsEvent_49 (by decide) ?_
              refine lv_goto (tgt := 54) hx hb dX4_readsEvent_50 (by decide) ?_
              exact k_top (by first | rfl | exact congrArg nI (by omega) | exact (by first | (simp only [rEv, rT, rO, rC, rC2, MR, bI, if_neg c2, if_pos c2, if_neg c3, if_pos c3, if_neg c4, if_pos c4, if_neg c5, if_pos c5, if_pos c6, if_neg (not_not_intro c6)]; done) | (simp only [rEv, rT, rO, rC, rC2, MR, bI, if_neg c2, if_pos c2, if_neg c3, if_pos c3, if_neg c4, if_pos c4, if_neg c5, if_pos c5, if_pos c6, if_neg (not_not_intro c6)]; rfl) | rfl | (simp [rEv, rT, rO, rC, rC2, MR, bI, if_neg c2, if_pos c2, if_neg c3, if_pos c3, if_neg c4, if_pos c4, if_neg c5, if_pos c5, if_pos c6, if_neg (not_not_intro c6)]; done))) J1
            ·
              refine lv_iload_n hx hb dX4_readsEvent_43 rfl (lv_at hl 0 rfl) ?_
              refine lv_bipush (v := (nI 111)) hx hb dX4_readsEvent_44 (by decide) ?_
              refine k_neN (tgt := 53) hx hb (Bq_lt31 hbf _) (by decide) dX4_readsEvent_46 (by decide) (fun c7 => ?_) (fun c7 => ?_)
              ·
                refine lv_iconst (v := (nI 0)) hx hb dX4_readsEvent_53 (by decide) ?_
                exact k_top (by first | rfl | exact congrArg nI (by omega) | exact (by first | (simp only [rEv, rT, rO, rC, rC2, MR, bI, if_neg c2, if_pos c2, if_neg c3, if_pos c3, if_neg c4, if_pos c4, if_neg c5, if_pos c5, if_neg c6, if_pos c6, if_neg c7, if_pos c7]; done) | (simp only [rEv, rT, rO, rC, rC2, MR, bI, if_neg c2, if_pos c2, if_neg c3, if_pos c3, if_neg c4, if_pos c4, if_neg c5, if_pos c5, if_neg c6, if_pos c6, if_neg c7, if_pos c7]; rfl) | rfl | (simp [rEv, rT, rO, rC, rC2, MR, bI, if_neg c2, if_pos c2, if_neg c3, if_pos c3, if_neg c4, if_pos c4, if_neg c5, if_pos c5, if_neg c6, if_pos c6, if_neg c7, if_pos c7]; done))) J1
              ·
                refine lv_iconst (v := (nI 1)) hx hb dX4_readsEvent_49 (by decide) ?_
                refine lv_goto (tgt := 54) hx hb dX4_readsEvent_50 (by decide) ?_
                exact k_top (by first | rfl | exact congrArg nI (by omega) | exact (by first | (simp only [rEv, rT, rO, rC, rC2, MR, bI, if_neg c2, if_pos c2, if_neg c3, if_pos c3, if_neg c4, if_pos c4, if_neg c5, if_pos c5, if_neg c6, if_pos c6, if_pos c7, if_neg (not_not_intro c7)]; done) | (simp only [rEv, rT, rO, rC, rC2, MR, bI, if_neg c2, if_pos c2, if_neg c3, if_pos c3, if_neg c4, if_pos c4, if_neg c5, if_pos c5, if_neg c6, if_pos c6, if_pos c7, if_neg (not_not_intro c7)]; rfl) | rfl | (simp [rEv, rT, rO, rC, rC2, MR, bI, if_neg c2, if_pos c2, if_neg c3, if_pos c3, if_neg c4, if_pos c4, if_neg c5, if_pos c5, if_neg c6, if_pos c6, if_pos c7, if_neg (not_not_intro c7)]; done))) J1
  ·
    refine va_put (D := g.1) (ci := 4) (v := .int (nI (evW (Bq (mbf m9) n a9)))) (ty := .boolean) (C := RX4) (T := TX4) (N := 12) hx hb hts hiX4 tyX4 tyX4_ok nmX4 hown hE.1 hP hD hS 0 rfl rfl 8 (by decide) f119 (fun _ h9 => h9) rfl (tyX4_ok 8 (by decide)) (bo_nar (k_b2 (evW_lt _))) (bo_fits (k_b2 (evW_lt _))) (Nat.le_of_ble_eq_true rfl) dX4_readsEvent_54 (fun H locs hP hD hS => ?_)
    have hP : va_P g.1 vwCl (wM g a (sMiw m9 (nI (evW (Bq (mbf m9) n a9))))) _ := hP
    have hD : va_D A (wM g a (sMiw m9 (nI (evW (Bq (mbf m9) n a9))))) := hD
    have hew := evW_lt (Bq (mbf m9) n a9)
    refine lv_aload_n hx hb dX4_readsEvent_57 rfl (lv_at hl 2 rfl) ?_
    refine lv_dup hx hb dX4_readsEvent_58 rfl ?_
    refine va_get (D := g.1) (ci := 4) (v := .int (mat m9)) (C := RX4) (T := TX4) (N := 12) hx hb hts hiX4 hown hE.1 hP 0 rfl rfl 7 (by decide) f116 (fun _ h9 => h9) rfl dX4_readsEvent_59 ?_
    refine k_top hat ?_
    refine lv_aload_n hx hb dX4_readsEvent_62 rfl (lv_at hl 2 rfl) ?_
    refine va_get (D := g.1) (ci := 4) (v := .int (nI (evW (Bq (mbf m9) n a9)))) (C := RX4) (T := TX4) (N := 12) hx hb hts hiX4 hown hE.1 hP 0 rfl rfl 8 (by decide) f119 (fun _ h9 => h9) rfl dX4_readsEvent_63 ?_
    refine k_meet (x := .int (nI (evW (Bq (mbf m9) n a9)))) (pj := 74) (rest := [.int (nI a9), .ref (a 0)]) (fun J8 => ?_) ?_
    ·
      refine k_if0 (tgt := 73) hx hb (Nat.lt_trans (evW_lt _) (by decide)) dX4_readsEvent_66 (by decide) (fun c9 => ?_) (fun c9 => ?_)
      ·
        refine lv_iconst (v := (nI 0)) hx hb dX4_readsEvent_73 (by decide) ?_
        exact k_top (congrArg nI (by have h8 : evW (Bq (mbf m9) n a9) < 2 := (evW_lt _); omega)) J8
      ·
        refine lv_iconst (v := (nI 1)) hx hb dX4_readsEvent_69 (by decide) ?_
        refine lv_goto (tgt := 74) hx hb dX4_readsEvent_70 (by decide) ?_
        exact k_top (congrArg nI (by have h8 : evW (Bq (mbf m9) n a9) < 2 := (evW_lt _); omega)) J8
    ·
      refine lv_iadd hx hb dX4_readsEvent_74 ?_
      refine k_top (nI_add _ _) ?_
      refine va_put (D := g.1) (ci := 4) (v := .int (nI (a9 + (evW (Bq (mbf m9) n a9))))) (ty := .int) (C := RX4) (T := TX4) (N := 12) hx hb hts hiX4 tyX4 tyX4_ok nmX4 hown hE.1 hP hD hS 0 rfl rfl 7 (by decide) f116 (fun _ h9 => h9) rfl (tyX4_ok 7 (by decide)) rfl rfl (Nat.le_of_ble_eq_true rfl) dX4_readsEvent_75 (fun H locs hP hD hS => ?_)
      have hP : va_P g.1 vwCl (wM g a (sMat (sMiw m9 (nI (evW (Bq (mbf m9) n a9)))) (nI (a9 + (evW (Bq (mbf m9) n a9)))))) _ := hP
      have hD : va_D A (wM g a (sMat (sMiw m9 (nI (evW (Bq (mbf m9) n a9)))) (nI (a9 + (evW (Bq (mbf m9) n a9)))))) := hD
      refine lv_aload_n hx hb dX4_readsEvent_78 rfl (lv_at hl 2 rfl) ?_
      refine va_get (D := g.1) (ci := 4) (v := .ref (a 5)) (C := RX4) (T := TX4) (N := 12) hx hb hts hiX4 hown hE.1 hP 0 rfl rfl 9 (by decide) f22 (fun _ h9 => h9) rfl dX4_readsEvent_79 ?_
      refine lv_iload_n hx hb dX4_readsEvent_82 rfl (lv_at hl 1 rfl) ?_
      refine lv_iload_n hx hb dX4_readsEvent_83 rfl (lv_at hl 0 rfl) ?_
      refine k_iast (f := (mrd m9)) (ws1 := (wM g a (sMrd (sMat (sMiw m9 (nI (evW (Bq (mbf m9) n a9)))) (nI (a9 + (evW (Bq (mbf m9) n a9))))) (upd (mrd m9) (3 * r) (nI (Bq (mbf m9) n a9)))))) hx hb hE hP hD hS 5 rfl (3 * r) rfl (by omega) (by decide) rfl dX4_readsEvent_84 (fun H locs hP hD hS => ?_)
      refine lv_iload_n hx hb dX4_readsEvent_85 rfl (lv_at hl 0 rfl) ?_
      refine lv_bipush (v := (nI 116)) hx hb dX4_readsEvent_86 (by decide) ?_
      refine k_neN (tgt := 106) hx hb (Bq_lt31 hbf _) (by decide) dX4_readsEvent_88 (by decide) (fun c10 => ?_) (fun c10 => ?_)
      ·
        refine lv_iload_n hx hb dX4_readsEvent_106 rfl (lv_at hl 0 rfl) ?_
        refine lv_bipush (v := (nI 112)) hx hb dX4_readsEvent_107 (by decide) ?_
        refine k_neN (tgt := 129) hx hb (Bq_lt31 hbf _) (by decide) dX4_readsEvent_109 (by decide) (fun c11 => ?_) (fun c11 => ?_)
        ·
          refine lv_aload_n hx hb dX4_readsEvent_129 rfl (lv_at hl 2 rfl) ?_
          refine va_get (D := g.1) (ci := 4) (v := .ref (a 5)) (C := RX4) (T := TX4) (N := 12) hx hb hts hiX4 hown hE.1 hP 0 rfl rfl 9 (by decide) f22 (fun _ h9 => h9) rfl dX4_readsEvent_130 ?_
          refine lv_iload_n hx hb dX4_readsEvent_133 rfl (lv_at hl 1 rfl) ?_
          refine lv_iconst (v := (nI 1)) hx hb dX4_readsEvent_134 (by decide) ?_
          refine lv_iadd hx hb dX4_readsEvent_135 ?_
          refine k_top (nI_add _ _) ?_
          refine lv_aload_n hx hb dX4_readsEvent_136 rfl (lv_at hl 2 rfl) ?_
          refine lv_iconst (v := (nI 0)) hx hb dX4_readsEvent_137 (by decide) ?_
          refine lv_bipush (v := (nI 7)) hx hb dX4_readsEvent_138 (by decide) ?_
          refine k_Vi (As := [.int (nI 0), .int (nI 7)]) (r := ((nI (Bq (mbf m9) n (a9 + (evW (Bq (mbf m9) n a9))))) - (nI 48))) hF (c_X4_figure l g a (sMrd (sMat (sMiw m9 (nI (evW (Bq (mbf m9) n a9)))) (nI (a9 + (evW (Bq (mbf m9) n a9))))) (upd (mrd m9) (3 * r) (nI (Bq (mbf m9) n a9)))) n (a9 + (evW (Bq (mbf m9) n a9))) hn hln rfl (by omega) hbf (evW (Bq (mbf m9) n a9)) rfl 0 (by decide) 7 (by decide)) (cwV 2 hts gX4_readsEvent_X4_figure rfl rfl rfl (by decide +kernel) ⟨Nat.le_of_ble_eq_true rfl, Nat.le_of_ble_eq_true rfl⟩) hE hP hD hS hA (k_pall _) ((k_pall _).symm) 0 rfl rfl rfl rfl hl.1 rfl (Nat.le_of_ble_eq_true rfl) dX4_readsEvent_140 ⟨Nat.le_of_ble_eq_true rfl, Nat.le_of_ble_eq_true rfl⟩ (fun H locs hP hD hS => ?_)
          have hP : va_P g.1 vwCl (wM g a (sMat (sMiw (sMrd m9 (upd (mrd m9) (3 * r) (nI (Bq (mbf m9) n a9)))) (nI (figW (evW (Bq (mbf m9) n a9)) (Bq (mbf m9) n (a9 + (evW (Bq (mbf m9) n a9)))) 0 7))) (nI ((a9 + (evW (Bq (mbf m9) n a9))) + (figW (evW (Bq (mbf m9) n a9)) (Bq (mbf m9) n (a9 + (evW (Bq (mbf m9) n a9)))) 0 7))))) _ := hP
          have hD : va_D A (wM g a (sMat (sMiw (sMrd m9 (upd (mrd m9) (3 * r) (nI (Bq (mbf m9) n a9)))) (nI (figW (evW (Bq (mbf m9) n a9)) (Bq (mbf m9) n (a9 + (evW (Bq (mbf m9) n a9)))) 0 7))) (nI ((a9 + (evW (Bq (mbf m9) n a9))) + (figW (evW (Bq (mbf m9) n a9)) (Bq (mbf m9) n (a9 + (evW (Bq (mbf m9) n a9)))) 0 7))))) := hD
          refine k_iast (f := (upd (mrd m9) (3 * r) (nI (Bq (mbf m9) n a9)))) (ws1 := (wM g a (sMrd (sMat (sMiw m9 (nI (figW (evW (Bq (mbf m9) n a9)) (Bq (mbf m9) n (a9 + (evW (Bq (mbf m9) n a9)))) 0 7))) (nI ((a9 + (evW (Bq (mbf m9) n a9))) + (figW (evW (Bq (mbf m9) n a9)) (Bq (mbf m9) n (a9 + (evW (Bq (mbf m9) n a9)))) 0 7)))) (upd (upd (mrd m9) (3 * r) (nI (Bq (mbf m9) n a9))) ((3 * r) + 1) ((nI (Bq (mbf m9) n (a9 + (evW (Bq (mbf m9) n a9))))) - (nI 48)))))) hx hb hE hP hD hS 5 rfl ((3 * r) + 1) rfl (by omega) (by decide) rfl dX4_readsEvent_143 (fun H locs hP hD hS => ?_)
          have hf12 : (figW (evW (Bq (mbf m9) n a9)) (Bq (mbf m9) n (a9 + (evW (Bq (mbf m9) n a9)))) 0 7) < 2 := None
          refine lv_iload_n hx hb dX4_readsEvent_144 rfl (lv_at hl 0 rfl) ?_
          refine lv_bipush (v := (nI 99)) hx hb dX4_readsEvent_145 (by decide) ?_
          refine k_eqN (tgt := 162) hx hb (Bq_lt31 hbf _) (by decide) dX4_readsEvent_147 (by decide) (fun c13 => ?_) (fun c13 => ?_)
          ·
            refine lv_aload_n hx hb dX4_readsEvent_162 rfl (lv_at hl 2 rfl) ?_
            refine va_get (D := g.1) (ci := 4) (v := .ref (a 5)) (C := RX4) (T := TX4) (N := 12) hx hb hts hiX4 hown hE.1 hP 0 rfl rfl 9 (by decide) f22 (fun _ h9 => h9) rfl dX4_readsEvent_163 ?_
            refine lv_iload_n hx hb dX4_readsEvent_166 rfl (lv_at hl 1 rfl) ?_
            refine lv_iconst (v := (nI 2)) hx hb dX4_readsEvent_167 (by decide) ?_
            refine lv_iadd hx hb dX4_readsEvent_168 ?_
            refine k_top (nI_add _ _) ?_
            refine lv_aload_n hx hb dX4_readsEvent_169 rfl (lv_at hl 2 rfl) ?_
            refine lv_iconst (v := (nI 0)) hx hb dX4_readsEvent_170 (by decide) ?_
            refine lv_iconst (v := (nI 5)) hx hb dX4_readsEvent_171 (by decide) ?_
            refine k_Vi (As := [.int (nI 0), .int (nI 5)]) (r := ((nI (Bq (mbf m9) n ((a9 + (evW (Bq (mbf m9) n a9))) + (figW (evW (Bq (mbf m9) n a9)) (Bq (mbf m9) n (a9 + (evW (Bq (mbf m9) n a9)))) 0 7)))) - (nI 48))) hF (c_X4_figure l g a (sMrd (sMat (sMiw m9 (nI (figW (evW (Bq (mbf m9) n a9)) (Bq (mbf m9) n (a9 + (evW (Bq (mbf m9) n a9)))) 0 7))) (nI ((a9 + (evW (Bq (mbf m9) n a9))) + (figW (evW (Bq (mbf m9) n a9)) (Bq (mbf m9) n (a9 + (evW (Bq (mbf m9) n a9)))) 0 7)))) (upd (upd (mrd m9) (3 * r) (nI (Bq (mbf m9) n a9))) ((3 * r) + 1) ((nI (Bq (mbf m9) n (a9 + (evW (Bq (mbf m9) n a9))))) - (nI 48)))) n ((a9 + (evW (Bq (mbf m9) n a9))) + (figW (evW (Bq (mbf m9) n a9)) (Bq (mbf m9) n (a9 + (evW (Bq (mbf m9) n a9)))) 0 7)) hn hln rfl (by omega) hbf (figW (evW (Bq (mbf m9) n a9)) (Bq (mbf m9) n (a9 + (evW (Bq (mbf m9) n a9)))) 0 7) rfl 0 (by decide) 5 (by decide)) (cwV 2 hts gX4_readsEvent_X4_figure rfl rfl rfl (by decide +kernel) ⟨Nat.le_of_ble_eq_true rfl, Nat.le_of_ble_eq_true rfl⟩) hE hP hD hS hA (k_pall _) ((k_pall _).symm) 0 rfl rfl rfl rfl hl.1 rfl (Nat.le_of_ble_eq_true rfl) dX4_readsEvent_172 ⟨Nat.le_of_ble_eq_true rfl, Nat.le_of_ble_eq_true rfl⟩ (fun H locs hP hD hS => ?_)
            have hP : va_P g.1 vwCl (wM g a (sMat (sMiw (sMrd m9 (upd (upd (mrd m9) (3 * r) (nI (Bq (mbf m9) n a9))) ((3 * r) + 1) ((nI (Bq (mbf m9) n (a9 + (evW (Bq (mbf m9) n a9))))) - (nI 48)))) (nI (figW (figW (evW (Bq (mbf m9) n a9)) (Bq (mbf m9) n (a9 + (evW (Bq (mbf m9) n a9)))) 0 7) (Bq (mbf m9) n ((a9 + (evW (Bq (mbf m9) n a9))) + (figW (evW (Bq (mbf m9) n a9)) (Bq (mbf m9) n (a9 + (evW (Bq (mbf m9) n a9)))) 0 7))) 0 5))) (nI (((a9 + (evW (Bq (mbf m9) n a9))) + (figW (evW (Bq (mbf m9) n a9)) (Bq (mbf m9) n (a9 + (evW (Bq (mbf m9) n a9)))) 0 7)) + (figW (figW (evW (Bq (mbf m9) n a9)) (Bq (mbf m9) n (a9 + (evW (Bq (mbf m9) n a9)))) 0 7) (Bq (mbf m9) n ((a9 + (evW (Bq (mbf m9) n a9))) + (figW (evW (Bq (mbf m9) n a9)) (Bq (mbf m9) n (a9 + (evW (Bq (mbf m9) n a9)))) 0 7))) 0 5))))) _ := hP
            have hD : va_D A (wM g a (sMat (sMiw (sMrd m9 (upd (upd (mrd m9) (3 * r) (nI (Bq (mbf m9) n a9))) ((3 * r) + 1) ((nI (Bq (mbf m9) n (a9 + (evW (Bq (mbf m9) n a9))))) - (nI 48)))) (nI (figW (figW (evW (Bq (mbf m9) n a9)) (Bq (mbf m9) n (a9 + (evW (Bq (mbf m9) n a9)))) 0 7) (Bq (mbf m9) n ((a9 + (evW (Bq (mbf m9) n a9))) + (figW (evW (Bq (mbf m9) n a9)) (Bq (mbf m9) n (a9 + (evW (Bq (mbf m9) n a9)))) 0 7))) 0 5))) (nI (((a9 + (evW (Bq (mbf m9) n a9))) + (figW (evW (Bq (mbf m9) n a9)) (Bq (mbf m9) n (a9 + (evW (Bq (mbf m9) n a9)))) 0 7)) + (figW (figW (evW (Bq (mbf m9) n a9)) (Bq (mbf m9) n (a9 + (evW (Bq (mbf m9) n a9)))) 0 7) (Bq (mbf m9) n ((a9 + (evW (Bq (mbf m9) n a9))) + (figW (evW (Bq (mbf m9) n a9)) (Bq (mbf m9) n (a9 + (evW (Bq (mbf m9) n a9)))) 0 7))) 0 5))))) := hD
            refine k_iast (f := (upd (upd (mrd m9) (3 * r) (nI (Bq (mbf m9) n a9))) ((3 * r) + 1) ((nI (Bq (mbf m9) n (a9 + (evW (Bq (mbf m9) n a9))))) - (nI 48)))) (ws1 := (wM g a (sMrd (sMat (sMiw m9 (nI (figW (figW (evW (Bq (mbf m9) n a9)) (Bq (mbf m9) n (a9 + (evW (Bq (mbf m9) n a9)))) 0 7) (Bq (mbf m9) n ((a9 + (evW (Bq (mbf m9) n a9))) + (figW (evW (Bq (mbf m9) n a9)) (Bq (mbf m9) n (a9 + (evW (Bq (mbf m9) n a9)))) 0 7))) 0 5))) (nI (((a9 + (evW (Bq (mbf m9) n a9))) + (figW (evW (Bq (mbf m9) n a9)) (Bq (mbf m9) n (a9 + (evW (Bq (mbf m9) n a9)))) 0 7)) + (figW (figW (evW (Bq (mbf m9) n a9)) (Bq (mbf m9) n (a9 + (evW (Bq (mbf m9) n a9)))) 0 7) (Bq (mbf m9) n ((a9 + (evW (Bq (mbf m9) n a9))) + (figW (evW (Bq (mbf m9) n a9)) (Bq (mbf m9) n (a9 + (evW (Bq (mbf m9) n a9)))) 0 7))) 0 5)))) (upd (upd (upd (mrd m9) (3 * r) (nI (Bq (mbf m9) n a9))) ((3 * r) + 1) ((nI (Bq (mbf m9) n (a9 + (evW (Bq (mbf m9) n a9))))) - (nI 48))) ((3 * r) + 2) ((nI (Bq (mbf m9) n ((a9 + (evW (Bq (mbf m9) n a9))) + (figW (evW (Bq (mbf m9) n a9)) (Bq (mbf m9) n (a9 + (evW (Bq (mbf m9) n a9)))) 0 7)))) - (nI 48)))))) hx hb hE hP hD hS 5 rfl ((3 * r) + 2) rfl (by omega) (by decide) rfl dX4_readsEvent_175 (fun H locs hP hD hS => ?_)
            have hf14 : (figW (figW (evW (Bq (mbf m9) n a9)) (Bq (mbf m9) n (a9 + (evW (Bq (mbf m9) n a9)))) 0 7) (Bq (mbf m9) n ((a9 + (evW (Bq (mbf m9) n a9))) + (figW (evW (Bq (mbf m9) n a9)) (Bq (mbf m9) n (a9 + (evW (Bq (mbf m9) n a9)))) 0 7))) 0 5) < 2 := None
            refine lv_aload_n hx hb dX4_readsEvent_176 rfl (lv_at hl 2 rfl) ?_
            refine lv_dup hx hb dX4_readsEvent_177 rfl ?_
            refine va_get (D := g.1) (ci := 4) (v := .int (mrm m9)) (C := RX4) (T := TX4) (N := 12) hx hb hts hiX4 hown hE.1 hP 0 rfl rfl 10 (by decide) f129 (fun _ h9 => h9) rfl dX4_readsEvent_178 ?_
            refine k_top hrm ?_
            refine lv_aload_n hx hb dX4_readsEvent_181 rfl (lv_at hl 2 rfl) ?_
            refine va_get (D := g.1) (ci := 4) (v := .int (nI (figW (figW (evW (Bq (mbf m9) n a9)) (Bq (mbf m9) n (a9 + (evW (Bq (mbf m9) n a9)))) 0 7) (Bq (mbf m9) n ((a9 + (evW (Bq (mbf m9) n a9))) + (figW (evW (Bq (mbf m9) n a9)) (Bq (mbf m9) n (a9 + (evW (Bq (mbf m9) n a9)))) 0 7))) 0 5))) (C := RX4) (T := TX4) (N := 12) hx hb hts hiX4 hown hE.1 hP 0 rfl rfl 8 (by decide) f119 (fun _ h9 => h9) rfl dX4_readsEvent_182 ?_
            refine k_meet (x := .int (nI (figW (figW (evW (Bq (mbf m9) n a9)) (Bq (mbf m9) n (a9 + (evW (Bq (mbf m9) n a9)))) 0 7) (Bq (mbf m9) n ((a9 + (evW (Bq (mbf m9) n a9))) + (figW (evW (Bq (mbf m9) n a9)) (Bq (mbf m9) n (a9 + (evW (Bq (mbf m9) n a9)))) 0 7))) 0 5))) (pj := 193) (rest := [.int (nI r), .ref (a 0)]) (fun J15 => ?_) ?_
            ·
              refine k_if0 (tgt := 192) hx hb (figW_lt31 _ _ _ _) dX4_readsEvent_185 (by decide) (fun c16 => ?_) (fun c16 => ?_)
              ·
                refine lv_iconst (v := (nI 0)) hx hb dX4_readsEvent_192 (by decide) ?_
                exact k_top (congrArg nI (by have h8 : figW (figW (evW (Bq (mbf m9) n a9)) (Bq (mbf m9) n (a9 + (evW (Bq (mbf m9) n a9)))) 0 7) (Bq (mbf m9) n ((a9 + (evW (Bq (mbf m9) n a9))) + (figW (evW (Bq (mbf m9) n a9)) (Bq (mbf m9) n (a9 + (evW (Bq (mbf m9) n a9)))) 0 7))) 0 5 < 2 := (figW_lt _ _ _ _); omega)) J15
              ·
                refine lv_iconst (v := (nI 1)) hx hb dX4_readsEvent_188 (by decide) ?_
                refine lv_goto (tgt := 193) hx hb dX4_readsEvent_189 (by decide) ?_
                exact k_top (congrArg nI (by have h8 : figW (figW (evW (Bq (mbf m9) n a9)) (Bq (mbf m9) n (a9 + (evW (Bq (mbf m9) n a9)))) 0 7) (Bq (mbf m9) n ((a9 + (evW (Bq (mbf m9) n a9))) + (figW (evW (Bq (mbf m9) n a9)) (Bq (mbf m9) n (a9 + (evW (Bq (mbf m9) n a9)))) 0 7))) 0 5 < 2 := (figW_lt _ _ _ _); omega)) J15
            ·
              refine lv_iadd hx hb dX4_readsEvent_193 ?_
              refine k_top (nI_add _ _) ?_
              refine va_put (D := g.1) (ci := 4) (v := .int (nI (r + (figW (figW (evW (Bq (mbf m9) n a9)) (Bq (mbf m9) n (a9 + (evW (Bq (mbf m9) n a9)))) 0 7) (Bq (mbf m9) n ((a9 + (evW (Bq (mbf m9) n a9))) + (figW (evW (Bq (mbf m9) n a9)) (Bq (mbf m9) n (a9 + (evW (Bq (mbf m9) n a9)))) 0 7))) 0 5)))) (ty := .int) (C := RX4) (T := TX4) (N := 12) hx hb hts hiX4 tyX4 tyX4_ok nmX4 hown hE.1 hP hD hS 0 rfl rfl 10 (by decide) f129 (fun _ h9 => h9) rfl (tyX4_ok 10 (by decide)) rfl rfl (Nat.le_of_ble_eq_true rfl) dX4_readsEvent_194 (fun H locs hP hD hS => ?_)
              have hP : va_P g.1 vwCl (wM g a (sMrm (sMrd (sMat (sMiw m9 (nI (figW (figW (evW (Bq (mbf m9) n a9)) (Bq (mbf m9) n (a9 + (evW (Bq (mbf m9) n a9)))) 0 7) (Bq (mbf m9) n ((a9 + (evW (Bq (mbf m9) n a9))) + (figW (evW (Bq (mbf m9) n a9)) (Bq (mbf m9) n (a9 + (evW (Bq (mbf m9) n a9)))) 0 7))) 0 5))) (nI (((a9 + (evW (Bq (mbf m9) n a9))) + (figW (evW (Bq (mbf m9) n a9)) (Bq (mbf m9) n (a9 + (evW (Bq (mbf m9) n a9)))) 0 7)) + (figW (figW (evW (Bq (mbf m9) n a9)) (Bq (mbf m9) n (a9 + (evW (Bq (mbf m9) n a9)))) 0 7) (Bq (mbf m9) n ((a9 + (evW (Bq (mbf m9) n a9))) + (figW (evW (Bq (mbf m9) n a9)) (Bq (mbf m9) n (a9 + (evW (Bq (mbf m9) n a9)))) 0 7))) 0 5)))) (upd (upd (upd (mrd m9) (3 * r) (nI (Bq (mbf m9) n a9))) ((3 * r) + 1) ((nI (Bq (mbf m9) n (a9 + (evW (Bq (mbf m9) n a9))))) - (nI 48))) ((3 * r) + 2) ((nI (Bq (mbf m9) n ((a9 + (evW (Bq (mbf m9) n a9))) + (figW (evW (Bq (mbf m9) n a9)) (Bq (mbf m9) n (a9 + (evW (Bq (mbf m9) n a9)))) 0 7)))) - (nI 48)))) (nI (r + (figW (figW (evW (Bq (mbf m9) n a9)) (Bq (mbf m9) n (a9 + (evW (Bq (mbf m9) n a9)))) 0 7) (Bq (mbf m9) n ((a9 + (evW (Bq (mbf m9) n a9))) + (figW (evW (Bq (mbf m9) n a9)) (Bq (mbf m9) n (a9 + (evW (Bq (mbf m9) n a9)))) 0 7))) 0 5))))) _ := hP
              have hD : va_D A (wM g a (sMrm (sMrd (sMat (sMiw m9 (nI (figW (figW (evW (Bq (mbf m9) n a9)) (Bq (mbf m9) n (a9 + (evW (Bq (mbf m9) n a9)))) 0 7) (Bq (mbf m9) n ((a9 + (evW (Bq (mbf m9) n a9))) + (figW (evW (Bq (mbf m9) n a9)) (Bq (mbf m9) n (a9 + (evW (Bq (mbf m9) n a9)))) 0 7))) 0 5))) (nI (((a9 + (evW (Bq (mbf m9) n a9))) + (figW (evW (Bq (mbf m9) n a9)) (Bq (mbf m9) n (a9 + (evW (Bq (mbf m9) n a9)))) 0 7)) + (figW (figW (evW (Bq (mbf m9) n a9)) (Bq (mbf m9) n (a9 + (evW (Bq (mbf m9) n a9)))) 0 7) (Bq (mbf m9) n ((a9 + (evW (Bq (mbf m9) n a9))) + (figW (evW (Bq (mbf m9) n a9)) (Bq (mbf m9) n (a9 + (evW (Bq (mbf m9) n a9)))) 0 7))) 0 5)))) (upd (upd (upd (mrd m9) (3 * r) (nI (Bq (mbf m9) n a9))) ((3 * r) + 1) ((nI (Bq (mbf m9) n (a9 + (evW (Bq (mbf m9) n a9))))) - (nI 48))) ((3 * r) + 2) ((nI (Bq (mbf m9) n ((a9 + (evW (Bq (mbf m9) n a9))) + (figW (evW (Bq (mbf m9) n a9)) (Bq (mbf m9) n (a9 + (evW (Bq (mbf m9) n a9)))) 0 7)))) - (nI 48)))) (nI (r + (figW (figW (evW (Bq (mbf m9) n a9)) (Bq (mbf m9) n (a9 + (evW (Bq (mbf m9) n a9)))) 0 7) (Bq (mbf m9) n ((a9 + (evW (Bq (mbf m9) n a9))) + (figW (evW (Bq (mbf m9) n a9)) (Bq (mbf m9) n (a9 + (evW (Bq (mbf m9) n a9)))) 0 7))) 0 5))))) := hD
              have e17 : (MR m9 (rEv (mbf m9) n a9 r (mrd m9))) = (sMrm (sMrd (sMat (sMiw m9 (nI (figW (figW (evW (Bq (mbf m9) n a9)) (Bq (mbf m9) n (a9 + (evW (Bq (mbf m9) n a9)))) 0 7) (Bq (mbf m9) n ((a9 + (evW (Bq (mbf m9) n a9))) + (figW (evW (Bq (mbf m9) n a9)) (Bq (mbf m9) n (a9 + (evW (Bq (mbf m9) n a9)))) 0 7))) 0 5))) (nI (((a9 + (evW (Bq (mbf m9) n a9))) + (figW (evW (Bq (mbf m9) n a9)) (Bq (mbf m9) n (a9 + (evW (Bq (mbf m9) n a9)))) 0 7)) + (figW (figW (evW (Bq (mbf m9) n a9)) (Bq (mbf m9) n (a9 + (evW (Bq (mbf m9) n a9)))) 0 7) (Bq (mbf m9) n ((a9 + (evW (Bq (mbf m9) n a9))) + (figW (evW (Bq (mbf m9) n a9)) (Bq (mbf m9) n (a9 + (evW (Bq (mbf m9) n a9)))) 0 7))) 0 5)))) (upd (upd (upd (mrd m9) (3 * r) (nI (Bq (mbf m9) n a9))) ((3 * r) + 1) ((nI (Bq (mbf m9) n (a9 + (evW (Bq (mbf m9) n a9))))) - (nI 48))) ((3 * r) + 2) ((nI (Bq (mbf m9) n ((a9 + (evW (Bq (mbf m9) n a9))) + (figW (evW (Bq (mbf m9) n a9)) (Bq (mbf m9) n (a9 + (evW (Bq (mbf m9) n a9)))) 0 7)))) - (nI 48)))) (nI (r + (figW (figW (evW (Bq (mbf m9) n a9)) (Bq (mbf m9) n (a9 + (evW (Bq (mbf m9) n a9)))) 0 7) (Bq (mbf m9) n ((a9 + (evW (Bq (mbf m9) n a9))) + (figW (evW (Bq (mbf m9) n a9)) (Bq (mbf m9) n (a9 + (evW (Bq (mbf m9) n a9)))) 0 7))) 0 5)))) := (by first | (simp only [rEv, rT, rO, rC, rC2, MR, if_neg c10, if_pos c10, if_neg c11, if_pos c11, if_pos c13, if_neg (not_not_intro c13)]; done) | (simp only [rEv, rT, rO, rC, rC2, MR, if_neg c10, if_pos c10, if_neg c11, if_pos c11, if_pos c13, if_neg (not_not_intro c13)]; rfl) | rfl | (simp [rEv, rT, rO, rC, rC2, MR, if_neg c10, if_pos c10, if_neg c11, if_pos c11, if_pos c13, if_neg (not_not_intro c13)]; done))
              have hP : va_P g.1 vwCl (wM g a (MR m9 (rEv (mbf m9) n a9 r (mrd m9)))) H := by rw [e17]; exact hP
              have hD : va_D A (wM g a (MR m9 (rEv (mbf m9) n a9 r (mrd m9)))) := by rw [e17]; exact hD
              exact k_vret hx hb hr hlocks hP hD hS (Nat.le_of_ble_eq_true rfl) (Nat.le_of_ble_eq_true rfl) dX4_readsEvent_197
          ·
            refine lv_iload_n hx hb dX4_readsEvent_150 rfl (lv_at hl 0 rfl) ?_
            refine lv_bipush (v := (nI 108)) hx hb dX4_readsEvent_151 (by decide) ?_
            refine k_eqN (tgt := 162) hx hb (Bq_lt31 hbf _) (by decide) dX4_readsEvent_153 (by decide) (fun c18 => ?_) (fun c18 => ?_)
            ·
              refine lv_aload_n hx hb dX4_readsEvent_162 rfl (lv_at hl 2 rfl) ?_
              refine va_get (D := g.1) (ci := 4) (v := .ref (a 5)) (C := RX4) (T := TX4) (N := 12) hx hb hts hiX4 hown hE.1 hP 0 rfl rfl 9 (by decide) f22 (fun _ h9 => h9) rfl dX4_readsEvent_163 ?_
              refine lv_iload_n hx hb dX4_readsEvent_166 rfl (lv_at hl 1 rfl) ?_
              refine lv_iconst (v := (nI 2)) hx hb dX4_readsEvent_167 (by decide) ?_
              refine lv_iadd hx hb dX4_readsEvent_168 ?_
              refine k_top (nI_add _ _) ?_
              refine lv_aload_n hx hb dX4_readsEvent_169 rfl (lv_at hl 2 rfl) ?_
              refine lv_iconst (v := (nI 0)) hx hb dX4_readsEvent_170 (by decide) ?_
              refine lv_iconst (v := (nI 5)) hx hb dX4_readsEvent_171 (by decide) ?_
              refine k_Vi (As := [.int (nI 0), .int (nI 5)]) (r := ((nI (Bq (mbf m9) n ((a9 + (evW (Bq (mbf m9) n a9))) + (figW (evW (Bq (mbf m9) n a9)) (Bq (mbf m9) n (a9 + (evW (Bq (mbf m9) n a9)))) 0 7)))) - (nI 48))) hF (c_X4_figure l g a (sMrd (sMat (sMiw m9 (nI (figW (evW (Bq (mbf m9) n a9)) (Bq (mbf m9) n (a9 + (evW (Bq (mbf m9) n a9)))) 0 7))) (nI ((a9 + (evW (Bq (mbf m9) n a9))) + (figW (evW (Bq (mbf m9) n a9)) (Bq (mbf m9) n (a9 + (evW (Bq (mbf m9) n a9)))) 0 7)))) (upd (upd (mrd m9) (3 * r) (nI (Bq (mbf m9) n a9))) ((3 * r) + 1) ((nI (Bq (mbf m9) n (a9 + (evW (Bq (mbf m9) n a9))))) - (nI 48)))) n ((a9 + (evW (Bq (mbf m9) n a9))) + (figW (evW (Bq (mbf m9) n a9)) (Bq (mbf m9) n (a9 + (evW (Bq (mbf m9) n a9)))) 0 7)) hn hln rfl (by omega) hbf (figW (evW (Bq (mbf m9) n a9)) (Bq (mbf m9) n (a9 + (evW (Bq (mbf m9) n a9)))) 0 7) rfl 0 (by decide) 5 (by decide)) (cwV 2 hts gX4_readsEvent_X4_figure rfl rfl rfl (by decide +kernel) ⟨Nat.le_of_ble_eq_true rfl, Nat.le_of_ble_eq_true rfl⟩) hE hP hD hS hA (k_pall _) ((k_pall _).symm) 0 rfl rfl rfl rfl hl.1 rfl (Nat.le_of_ble_eq_true rfl) dX4_readsEvent_172 ⟨Nat.le_of_ble_eq_true rfl, Nat.le_of_ble_eq_true rfl⟩ (fun H locs hP hD hS => ?_)
              have hP : va_P g.1 vwCl (wM g a (sMat (sMiw (sMrd m9 (upd (upd (mrd m9) (3 * r) (nI (Bq (mbf m9) n a9))) ((3 * r) + 1) ((nI (Bq (mbf m9) n (a9 + (evW (Bq (mbf m9) n a9))))) - (nI 48)))) (nI (figW (figW (evW (Bq (mbf m9) n a9)) (Bq (mbf m9) n (a9 + (evW (Bq (mbf m9) n a9)))) 0 7) (Bq (mbf m9) n ((a9 + (evW (Bq (mbf m9) n a9))) + (figW (evW (Bq (mbf m9) n a9)) (Bq (mbf m9) n (a9 + (evW (Bq (mbf m9) n a9)))) 0 7))) 0 5))) (nI (((a9 + (evW (Bq (mbf m9) n a9))) + (figW (evW (Bq (mbf m9) n a9)) (Bq (mbf m9) n (a9 + (evW (Bq (mbf m9) n a9)))) 0 7)) + (figW (figW (evW (Bq (mbf m9) n a9)) (Bq (mbf m9) n (a9 + (evW (Bq (mbf m9) n a9)))) 0 7) (Bq (mbf m9) n ((a9 + (evW (Bq (mbf m9) n a9))) + (figW (evW (Bq (mbf m9) n a9)) (Bq (mbf m9) n (a9 + (evW (Bq (mbf m9) n a9)))) 0 7))) 0 5))))) _ := hP
              have hD : va_D A (wM g a (sMat (sMiw (sMrd m9 (upd (upd (mrd m9) (3 * r) (nI (Bq (mbf m9) n a9))) ((3 * r) + 1) ((nI (Bq (mbf m9) n (a9 + (evW (Bq (mbf m9) n a9))))) - (nI 48)))) (nI (figW (figW (evW (Bq (mbf m9) n a9)) (Bq (mbf m9) n (a9 + (evW (Bq (mbf m9) n a9)))) 0 7) (Bq (mbf m9) n ((a9 + (evW (Bq (mbf m9) n a9))) + (figW (evW (Bq (mbf m9) n a9)) (Bq (mbf m9) n (a9 + (evW (Bq (mbf m9) n a9)))) 0 7))) 0 5))) (nI (((a9 + (evW (Bq (mbf m9) n a9))) + (figW (evW (Bq (mbf m9) n a9)) (Bq (mbf m9) n (a9 + (evW (Bq (mbf m9) n a9)))) 0 7)) + (figW (figW (evW (Bq (mbf m9) n a9)) (Bq (mbf m9) n (a9 + (evW (Bq (mbf m9) n a9)))) 0 7) (Bq (mbf m9) n ((a9 + (evW (Bq (mbf m9) n a9))) + (figW (evW (Bq (mbf m9) n a9)) (Bq (mbf m9) n (a9 + (evW (Bq (mbf m9) n a9)))) 0 7))) 0 5))))) := hD
              refine k_iast (f := (upd (upd (mrd m9) (3 * r) (nI (Bq (mbf m9) n a9))) ((3 * r) + 1) ((nI (Bq (mbf m9) n (a9 + (evW (Bq (mbf m9) n a9))))) - (nI 48)))) (ws1 := (wM g a (sMrd (sMat (sMiw m9 (nI (figW (figW (evW (Bq (mbf m9) n a9)) (Bq (mbf m9) n (a9 + (evW (Bq (mbf m9) n a9)))) 0 7) (Bq (mbf m9) n ((a9 + (evW (Bq (mbf m9) n a9))) + (figW (evW (Bq (mbf m9) n a9)) (Bq (mbf m9) n (a9 + (evW (Bq (mbf m9) n a9)))) 0 7))) 0 5))) (nI (((a9 + (evW (Bq (mbf m9) n a9))) + (figW (evW (Bq (mbf m9) n a9)) (Bq (mbf m9) n (a9 + (evW (Bq (mbf m9) n a9)))) 0 7)) + (figW (figW (evW (Bq (mbf m9) n a9)) (Bq (mbf m9) n (a9 + (evW (Bq (mbf m9) n a9)))) 0 7) (Bq (mbf m9) n ((a9 + (evW (Bq (mbf m9) n a9))) + (figW (evW (Bq (mbf m9) n a9)) (Bq (mbf m9) n (a9 + (evW (Bq (mbf m9) n a9)))) 0 7))) 0 5)))) (upd (upd (upd (mrd m9) (3 * r) (nI (Bq (mbf m9) n a9))) ((3 * r) + 1) ((nI (Bq (mbf m9) n (a9 + (evW (Bq (mbf m9) n a9))))) - (nI 48))) ((3 * r) + 2) ((nI (Bq (mbf m9) n ((a9 + (evW (Bq (mbf m9) n a9))) + (figW (evW (Bq (mbf m9) n a9)) (Bq (mbf m9) n (a9 + (evW (Bq (mbf m9) n a9)))) 0 7)))) - (nI 48)))))) hx hb hE hP hD hS 5 rfl ((3 * r) + 2) rfl (by omega) (by decide) rfl dX4_readsEvent_175 (fun H locs hP hD hS => ?_)
              have hf19 : (figW (figW (evW (Bq (mbf m9) n a9)) (Bq (mbf m9) n (a9 + (evW (Bq (mbf m9) n a9)))) 0 7) (Bq (mbf m9) n ((a9 + (evW (Bq (mbf m9) n a9))) + (figW (evW (Bq (mbf m9) n a9)) (Bq (mbf m9) n (a9 + (evW (Bq (mbf m9) n a9)))) 0 7))) 0 5) < 2 := None
              refine lv_aload_n hx hb dX4_readsEvent_176 rfl (lv_at hl 2 rfl) ?_
              refine lv_dup hx hb dX4_readsEvent_177 rfl ?_
              refine va_get (D := g.1) (ci := 4) (v := .int (mrm m9)) (C := RX4) (T := TX4) (N := 12) hx hb hts hiX4 hown hE.1 hP 0 rfl rfl 10 (by decide) f129 (fun _ h9 => h9) rfl dX4_readsEvent_178 ?_
              refine k_top hrm ?_
              refine lv_aload_n hx hb dX4_readsEvent_181 rfl (lv_at hl 2 rfl) ?_
              refine va_get (D := g.1) (ci := 4) (v := .int (nI (figW (figW (evW (Bq (mbf m9) n a9)) (Bq (mbf m9) n (a9 + (evW (Bq (mbf m9) n a9)))) 0 7) (Bq (mbf m9) n ((a9 + (evW (Bq (mbf m9) n a9))) + (figW (evW (Bq (mbf m9) n a9)) (Bq (mbf m9) n (a9 + (evW (Bq (mbf m9) n a9)))) 0 7))) 0 5))) (C := RX4) (T := TX4) (N := 12) hx hb hts hiX4 hown hE.1 hP 0 rfl rfl 8 (by decide) f119 (fun _ h9 => h9) rfl dX4_readsEvent_182 ?_
              refine k_meet (x := .int (nI (figW (figW (evW (Bq (mbf m9) n a9)) (Bq (mbf m9) n (a9 + (evW (Bq (mbf m9) n a9)))) 0 7) (Bq (mbf m9) n ((a9 + (evW (Bq (mbf m9) n a9))) + (figW (evW (Bq (mbf m9) n a9)) (Bq (mbf m9) n (a9 + (evW (Bq (mbf m9) n a9)))) 0 7))) 0 5))) (pj := 193) (rest := [.int (nI r), .ref (a 0)]) (fun J20 => ?_) ?_
              ·
                refine k_if0 (tgt := 192) hx hb (figW_lt31 _ _ _ _) dX4_readsEvent_185 (by decide) (fun c21 => ?_) (fun c21 => ?_)
                ·
                  refine lv_iconst (v := (nI 0)) hx hb dX4_readsEvent_192 (by decide) ?_
                  exact k_top (congrArg nI (by have h8 : figW (figW (evW (Bq (mbf m9) n a9)) (Bq (mbf m9) n (a9 + (evW (Bq (mbf m9) n a9)))) 0 7) (Bq (mbf m9) n ((a9 + (evW (Bq (mbf m9) n a9))) + (figW (evW (Bq (mbf m9) n a9)) (Bq (mbf m9) n (a9 + (evW (Bq (mbf m9) n a9)))) 0 7))) 0 5 < 2 := (figW_lt _ _ _ _); omega)) J20
                ·
                  refine lv_iconst (v := (nI 1)) hx hb dX4_readsEvent_188 (by decide) ?_
                  refine lv_goto (tgt := 193) hx hb dX4_readsEvent_189 (by decide) ?_
                  exact k_top (congrArg nI (by have h8 : figW (figW (evW (Bq (mbf m9) n a9)) (Bq (mbf m9) n (a9 + (evW (Bq (mbf m9) n a9)))) 0 7) (Bq (mbf m9) n ((a9 + (evW (Bq (mbf m9) n a9))) + (figW (evW (Bq (mbf m9) n a9)) (Bq (mbf m9) n (a9 + (evW (Bq (mbf m9) n a9)))) 0 7))) 0 5 < 2 := (figW_lt _ _ _ _); omega)) J20
              ·
                refine lv_iadd hx hb dX4_readsEvent_193 ?_
                refine k_top (nI_add _ _) ?_
                refine va_put (D := g.1) (ci := 4) (v := .int (nI (r + (figW (figW (evW (Bq (mbf m9) n a9)) (Bq (mbf m9) n (a9 + (evW (Bq (mbf m9) n a9)))) 0 7) (Bq (mbf m9) n ((a9 + (evW (Bq (mbf m9) n a9))) + (figW (evW (Bq (mbf m9) n a9)) (Bq (mbf m9) n (a9 + (evW (Bq (mbf m9) n a9)))) 0 7))) 0 5)))) (ty := .int) (C := RX4) (T := TX4) (N := 12) hx hb hts hiX4 tyX4 tyX4_ok nmX4 hown hE.1 hP hD hS 0 rfl rfl 10 (by decide) f129 (fun _ h9 => h9) rfl (tyX4_ok 10 (by decide)) rfl rfl (Nat.le_of_ble_eq_true rfl) dX4_readsEvent_194 (fun H locs hP hD hS => ?_)
                have hP : va_P g.1 vwCl (wM g a (sMrm (sMrd (sMat (sMiw m9 (nI (figW (figW (evW (Bq (mbf m9) n a9)) (Bq (mbf m9) n (a9 + (evW (Bq (mbf m9) n a9)))) 0 7) (Bq (mbf m9) n ((a9 + (evW (Bq (mbf m9) n a9))) + (figW (evW (Bq (mbf m9) n a9)) (Bq (mbf m9) n (a9 + (evW (Bq (mbf m9) n a9)))) 0 7))) 0 5))) (nI (((a9 + (evW (Bq (mbf m9) n a9))) + (figW (evW (Bq (mbf m9) n a9)) (Bq (mbf m9) n (a9 + (evW (Bq (mbf m9) n a9)))) 0 7)) + (figW (figW (evW (Bq (mbf m9) n a9)) (Bq (mbf m9) n (a9 + (evW (Bq (mbf m9) n a9)))) 0 7) (Bq (mbf m9) n ((a9 + (evW (Bq (mbf m9) n a9))) + (figW (evW (Bq (mbf m9) n a9)) (Bq (mbf m9) n (a9 + (evW (Bq (mbf m9) n a9)))) 0 7))) 0 5)))) (upd (upd (upd (mrd m9) (3 * r) (nI (Bq (mbf m9) n a9))) ((3 * r) + 1) ((nI (Bq (mbf m9) n (a9 + (evW (Bq (mbf m9) n a9))))) - (nI 48))) ((3 * r) + 2) ((nI (Bq (mbf m9) n ((a9 + (evW (Bq (mbf m9) n a9))) + (figW (evW (Bq (mbf m9) n a9)) (Bq (mbf m9) n (a9 + (evW (Bq (mbf m9) n a9)))) 0 7)))) - (nI 48)))) (nI (r + (figW (figW (evW (Bq (mbf m9) n a9)) (Bq (mbf m9) n (a9 + (evW (Bq (mbf m9) n a9)))) 0 7) (Bq (mbf m9) n ((a9 + (evW (Bq (mbf m9) n a9))) + (figW (evW (Bq (mbf m9) n a9)) (Bq (mbf m9) n (a9 + (evW (Bq (mbf m9) n a9)))) 0 7))) 0 5))))) _ := hP
                have hD : va_D A (wM g a (sMrm (sMrd (sMat (sMiw m9 (nI (figW (figW (evW (Bq (mbf m9) n a9)) (Bq (mbf m9) n (a9 + (evW (Bq (mbf m9) n a9)))) 0 7) (Bq (mbf m9) n ((a9 + (evW (Bq (mbf m9) n a9))) + (figW (evW (Bq (mbf m9) n a9)) (Bq (mbf m9) n (a9 + (evW (Bq (mbf m9) n a9)))) 0 7))) 0 5))) (nI (((a9 + (evW (Bq (mbf m9) n a9))) + (figW (evW (Bq (mbf m9) n a9)) (Bq (mbf m9) n (a9 + (evW (Bq (mbf m9) n a9)))) 0 7)) + (figW (figW (evW (Bq (mbf m9) n a9)) (Bq (mbf m9) n (a9 + (evW (Bq (mbf m9) n a9)))) 0 7) (Bq (mbf m9) n ((a9 + (evW (Bq (mbf m9) n a9))) + (figW (evW (Bq (mbf m9) n a9)) (Bq (mbf m9) n (a9 + (evW (Bq (mbf m9) n a9)))) 0 7))) 0 5)))) (upd (upd (upd (mrd m9) (3 * r) (nI (Bq (mbf m9) n a9))) ((3 * r) + 1) ((nI (Bq (mbf m9) n (a9 + (evW (Bq (mbf m9) n a9))))) - (nI 48))) ((3 * r) + 2) ((nI (Bq (mbf m9) n ((a9 + (evW (Bq (mbf m9) n a9))) + (figW (evW (Bq (mbf m9) n a9)) (Bq (mbf m9) n (a9 + (evW (Bq (mbf m9) n a9)))) 0 7)))) - (nI 48)))) (nI (r + (figW (figW (evW (Bq (mbf m9) n a9)) (Bq (mbf m9) n (a9 + (evW (Bq (mbf m9) n a9)))) 0 7) (Bq (mbf m9) n ((a9 + (evW (Bq (mbf m9) n a9))) + (figW (evW (Bq (mbf m9) n a9)) (Bq (mbf m9) n (a9 + (evW (Bq (mbf m9) n a9)))) 0 7))) 0 5))))) := hD
                have e22 : (MR m9 (rEv (mbf m9) n a9 r (mrd m9))) = (sMrm (sMrd (sMat (sMiw m9 (nI (figW (figW (evW (Bq (mbf m9) n a9)) (Bq (mbf m9) n (a9 + (evW (Bq (mbf m9) n a9)))) 0 7) (Bq (mbf m9) n ((a9 + (evW (Bq (mbf m9) n a9))) + (figW (evW (Bq (mbf m9) n a9)) (Bq (mbf m9) n (a9 + (evW (Bq (mbf m9) n a9)))) 0 7))) 0 5))) (nI (((a9 + (evW (Bq (mbf m9) n a9))) + (figW (evW (Bq (mbf m9) n a9)) (Bq (mbf m9) n (a9 + (evW (Bq (mbf m9) n a9)))) 0 7)) + (figW (figW (evW (Bq (mbf m9) n a9)) (Bq (mbf m9) n (a9 + (evW (Bq (mbf m9) n a9)))) 0 7) (Bq (mbf m9) n ((a9 + (evW (Bq (mbf m9) n a9))) + (figW (evW (Bq (mbf m9) n a9)) (Bq (mbf m9) n (a9 + (evW (Bq (mbf m9) n a9)))) 0 7))) 0 5)))) (upd (upd (upd (mrd m9) (3 * r) (nI (Bq (mbf m9) n a9))) ((3 * r) + 1) ((nI (Bq (mbf m9) n (a9 + (evW (Bq (mbf m9) n a9))))) - (nI 48))) ((3 * r) + 2) ((nI (Bq (mbf m9) n ((a9 + (evW (Bq (mbf m9) n a9))) + (figW (evW (Bq (mbf m9) n a9)) (Bq (mbf m9) n (a9 + (evW (Bq (mbf m9) n a9)))) 0 7)))) - (nI 48)))) (nI (r + (figW (figW (evW (Bq (mbf m9) n a9)) (Bq (mbf m9) n (a9 + (evW (Bq (mbf m9) n a9)))) 0 7) (Bq (mbf m9) n ((a9 + (evW (Bq (mbf m9) n a9))) + (figW (evW (Bq (mbf m9) n a9)) (Bq (mbf m9) n (a9 + (evW (Bq (mbf m9) n a9)))) 0 7))) 0 5)))) := (by first | (simp only [rEv, rT, rO, rC, rC2, MR, if_neg c10, if_pos c10, if_neg c11, if_pos c11, if_neg c13, if_pos c13, if_pos c18, if_neg (not_not_intro c18)]; done) | (simp only [rEv, rT, rO, rC, rC2, MR, if_neg c10, if_pos c10, if_neg c11, if_pos c11, if_neg c13, if_pos c13, if_pos c18, if_neg (not_not_intro c18)]; rfl) | rfl | (simp [rEv, rT, rO, rC, rC2, MR, if_neg c10, if_pos c10, if_neg c11, if_pos c11, if_neg c13, if_pos c13, if_pos c18, if_neg (not_not_intro c18)]; done))
                have hP : va_P g.1 vwCl (wM g a (MR m9 (rEv (mbf m9) n a9 r (mrd m9)))) H := by rw [e22]; exact hP
                have hD : va_D A (wM g a (MR m9 (rEv (mbf m9) n a9 r (mrd m9)))) := by rw [e22]; exact hD
                exact k_vret hx hb hr hlocks hP hD hS (Nat.le_of_ble_eq_true rfl) (Nat.le_of_ble_eq_true rfl) dX4_readsEvent_197
            ·
              refine lv_iload_n hx hb dX4_readsEvent_156 rfl (lv_at hl 0 rfl) ?_
              refine lv_bipush (v := (nI 115)) hx hb dX4_readsEvent_157 (by decide) ?_
              refine k_neN (tgt := 176) hx hb (Bq_lt31 hbf _) (by decide) dX4_readsEvent_159 (by decide) (fun c23 => ?_) (fun c23 => ?_)
              ·
                have hf24 : (figW (evW (Bq (mbf m9) n a9)) (Bq (mbf m9) n (a9 + (evW (Bq (mbf m9) n a9)))) 0 7) < 2 := None
                refine lv_aload_n hx hb dX4_readsEvent_176 rfl (lv_at hl 2 rfl) ?_
                refine lv_dup hx hb dX4_readsEvent_177 rfl ?_
                refine va_get (D := g.1) (ci := 4) (v := .int (mrm m9)) (C := RX4) (T := TX4) (N := 12) hx hb hts hiX4 hown hE.1 hP 0 rfl rfl 10 (by decide) f129 (fun _ h9 => h9) rfl dX4_readsEvent_178 ?_
                refine k_top hrm ?_
                refine lv_aload_n hx hb dX4_readsEvent_181 rfl (lv_at hl 2 rfl) ?_
                refine va_get (D := g.1) (ci := 4) (v := .int (nI (figW (evW (Bq (mbf m9) n a9)) (Bq (mbf m9) n (a9 + (evW (Bq (mbf m9) n a9)))) 0 7))) (C := RX4) (T := TX4) (N := 12) hx hb hts hiX4 hown hE.1 hP 0 rfl rfl 8 (by decide) f119 (fun _ h9 => h9) rfl dX4_readsEvent_182 ?_
                refine k_meet (x := .int (nI (figW (evW (Bq (mbf m9) n a9)) (Bq (mbf m9) n (a9 + (evW (Bq (mbf m9) n a9)))) 0 7))) (pj := 193) (rest := [.int (nI r), .ref (a 0)]) (fun J25 => ?_) ?_
                ·
                  refine k_if0 (tgt := 192) hx hb (figW_lt31 _ _ _ _) dX4_readsEvent_185 (by decide) (fun c26 => ?_) (fun c26 => ?_)
                  ·
                    refine lv_iconst (v := (nI 0)) hx hb dX4_readsEvent_192 (by decide) ?_
                    exact k_top (congrArg nI (by have h8 : figW (evW (Bq (mbf m9) n a9)) (Bq (mbf m9) n (a9 + (evW (Bq (mbf m9) n a9)))) 0 7 < 2 := (figW_lt _ _ _ _); omega)) J25
                  ·
                    refine lv_iconst (v := (nI 1)) hx hb dX4_readsEvent_188 (by decide) ?_
                    refine lv_goto (tgt := 193) hx hb dX4_readsEvent_189 (by decide) ?_
                    exact k_top (congrArg nI (by have h8 : figW (evW (Bq (mbf m9) n a9)) (Bq (mbf m9) n (a9 + (evW (Bq (mbf m9) n a9)))) 0 7 < 2 := (figW_lt _ _ _ _); omega)) J25
                ·
                  refine lv_iadd hx hb dX4_readsEvent_193 ?_
                  refine k_top (nI_add _ _) ?_
                  refine va_put (D := g.1) (ci := 4) (v := .int (nI (r + (figW (evW (Bq (mbf m9) n a9)) (Bq (mbf m9) n (a9 + (evW (Bq (mbf m9) n a9)))) 0 7)))) (ty := .int) (C := RX4) (T := TX4) (N := 12) hx hb hts hiX4 tyX4 tyX4_ok nmX4 hown hE.1 hP hD hS 0 rfl rfl 10 (by decide) f129 (fun _ h9 => h9) rfl (tyX4_ok 10 (by decide)) rfl rfl (Nat.le_of_ble_eq_true rfl) dX4_readsEvent_194 (fun H locs hP hD hS => ?_)
                  have hP : va_P g.1 vwCl (wM g a (sMrm (sMrd (sMat (sMiw m9 (nI (figW (evW (Bq (mbf m9) n a9)) (Bq (mbf m9) n (a9 + (evW (Bq (mbf m9) n a9)))) 0 7))) (nI ((a9 + (evW (Bq (mbf m9) n a9))) + (figW (evW (Bq (mbf m9) n a9)) (Bq (mbf m9) n (a9 + (evW (Bq (mbf m9) n a9)))) 0 7)))) (upd (upd (mrd m9) (3 * r) (nI (Bq (mbf m9) n a9))) ((3 * r) + 1) ((nI (Bq (mbf m9) n (a9 + (evW (Bq (mbf m9) n a9))))) - (nI 48)))) (nI (r + (figW (evW (Bq (mbf m9) n a9)) (Bq (mbf m9) n (a9 + (evW (Bq (mbf m9) n a9)))) 0 7))))) _ := hP
                  have hD : va_D A (wM g a (sMrm (sMrd (sMat (sMiw m9 (nI (figW (evW (Bq (mbf m9) n a9)) (Bq (mbf m9) n (a9 + (evW (Bq (mbf m9) n a9)))) 0 7))) (nI ((a9 + (evW (Bq (mbf m9) n a9))) + (figW (evW (Bq (mbf m9) n a9)) (Bq (mbf m9) n (a9 + (evW (Bq (mbf m9) n a9)))) 0 7)))) (upd (upd (mrd m9) (3 * r) (nI (Bq (mbf m9) n a9))) ((3 * r) + 1) ((nI (Bq (mbf m9) n (a9 + (evW (Bq (mbf m9) n a9))))) - (nI 48)))) (nI (r + (figW (evW (Bq (mbf m9) n a9)) (Bq (mbf m9) n (a9 + (evW (Bq (mbf m9) n a9)))) 0 7))))) := hD
                  have e27 : (MR m9 (rEv (mbf m9) n a9 r (mrd m9))) = (sMrm (sMrd (sMat (sMiw m9 (nI (figW (evW (Bq (mbf m9) n a9)) (Bq (mbf m9) n (a9 + (evW (Bq (mbf m9) n a9)))) 0 7))) (nI ((a9 + (evW (Bq (mbf m9) n a9))) + (figW (evW (Bq (mbf m9) n a9)) (Bq (mbf m9) n (a9 + (evW (Bq (mbf m9) n a9)))) 0 7)))) (upd (upd (mrd m9) (3 * r) (nI (Bq (mbf m9) n a9))) ((3 * r) + 1) ((nI (Bq (mbf m9) n (a9 + (evW (Bq (mbf m9) n a9))))) - (nI 48)))) (nI (r + (figW (evW (Bq (mbf m9) n a9)) (Bq (mbf m9) n (a9 + (evW (Bq (mbf m9) n a9)))) 0 7)))) := (by first | (simp only [rEv, rT, rO, rC, rC2, MR, if_neg c10, if_pos c10, if_neg c11, if_pos c11, if_neg c13, if_pos c13, if_neg c18, if_pos c18, if_neg c23, if_pos c23]; done) | (simp only [rEv, rT, rO, rC, rC2, MR, if_neg c10, if_pos c10, if_neg c11, if_pos c11, if_neg c13, if_pos c13, if_neg c18, if_pos c18, if_neg c23, if_pos c23]; rfl) | rfl | (simp [rEv, rT, rO, rC, rC2, MR, if_neg c10, if_pos c10, if_neg c11, if_pos c11, if_neg c13, if_pos c13, if_neg c18, if_pos c18, if_neg c23, if_pos c23]; done))
                  have hP : va_P g.1 vwCl (wM g a (MR m9 (rEv (mbf m9) n a9 r (mrd m9)))) H := by rw [e27]; exact hP
                  have hD : va_D A (wM g a (MR m9 (rEv (mbf m9) n a9 r (mrd m9)))) := by rw [e27]; exact hD
                  exact k_vret hx hb hr hlocks hP hD hS (Nat.le_of_ble_eq_true rfl) (Nat.le_of_ble_eq_true rfl) dX4_readsEvent_197
              ·
                refine lv_aload_n hx hb dX4_readsEvent_162 rfl (lv_at hl 2 rfl) ?_
                refine va_get (D := g.1) (ci := 4) (v := .ref (a 5)) (C := RX4) (T := TX4) (N := 12) hx hb hts hiX4 hown hE.1 hP 0 rfl rfl 9 (by decide) f22 (fun _ h9 => h9) rfl dX4_readsEvent_163 ?_
                refine lv_iload_n hx hb dX4_readsEvent_166 rfl (lv_at hl 1 rfl) ?_
                refine lv_iconst (v := (nI 2)) hx hb dX4_readsEvent_167 (by decide) ?_
                refine lv_iadd hx hb dX4_readsEvent_168 ?_
                refine k_top (nI_add _ _) ?_
                refine lv_aload_n hx hb dX4_readsEvent_169 rfl (lv_at hl 2 rfl) ?_
                refine lv_iconst (v := (nI 0)) hx hb dX4_readsEvent_170 (by decide) ?_
                refine lv_iconst (v := (nI 5)) hx hb dX4_readsEvent_171 (by decide) ?_
                refine k_Vi (As := [.int (nI 0), .int (nI 5)]) (r := ((nI (Bq (mbf m9) n ((a9 + (evW (Bq (mbf m9) n a9))) + (figW (evW (Bq (mbf m9) n a9)) (Bq (mbf m9) n (a9 + (evW (Bq (mbf m9) n a9)))) 0 7)))) - (nI 48))) hF (c_X4_figure l g a (sMrd (sMat (sMiw m9 (nI (figW (evW (Bq (mbf m9) n a9)) (Bq (mbf m9) n (a9 + (evW (Bq (mbf m9) n a9)))) 0 7))) (nI ((a9 + (evW (Bq (mbf m9) n a9))) + (figW (evW (Bq (mbf m9) n a9)) (Bq (mbf m9) n (a9 + (evW (Bq (mbf m9) n a9)))) 0 7)))) (upd (upd (mrd m9) (3 * r) (nI (Bq (mbf m9) n a9))) ((3 * r) + 1) ((nI (Bq (mbf m9) n (a9 + (evW (Bq (mbf m9) n a9))))) - (nI 48)))) n ((a9 + (evW (Bq (mbf m9) n a9))) + (figW (evW (Bq (mbf m9) n a9)) (Bq (mbf m9) n (a9 + (evW (Bq (mbf m9) n a9)))) 0 7)) hn hln rfl (by omega) hbf (figW (evW (Bq (mbf m9) n a9)) (Bq (mbf m9) n (a9 + (evW (Bq (mbf m9) n a9)))) 0 7) rfl 0 (by decide) 5 (by decide)) (cwV 2 hts gX4_readsEvent_X4_figure rfl rfl rfl (by decide +kernel) ⟨Nat.le_of_ble_eq_true rfl, Nat.le_of_ble_eq_true rfl⟩) hE hP hD hS hA (k_pall _) ((k_pall _).symm) 0 rfl rfl rfl rfl hl.1 rfl (Nat.le_of_ble_eq_true rfl) dX4_readsEvent_172 ⟨Nat.le_of_ble_eq_true rfl, Nat.le_of_ble_eq_true rfl⟩ (fun H locs hP hD hS => ?_)
                have hP : va_P g.1 vwCl (wM g a (sMat (sMiw (sMrd m9 (upd (upd (mrd m9) (3 * r) (nI (Bq (mbf m9) n a9))) ((3 * r) + 1) ((nI (Bq (mbf m9) n (a9 + (evW (Bq (mbf m9) n a9))))) - (nI 48)))) (nI (figW (figW (evW (Bq (mbf m9) n a9)) (Bq (mbf m9) n (a9 + (evW (Bq (mbf m9) n a9)))) 0 7) (Bq (mbf m9) n ((a9 + (evW (Bq (mbf m9) n a9))) + (figW (evW (Bq (mbf m9) n a9)) (Bq (mbf m9) n (a9 + (evW (Bq (mbf m9) n a9)))) 0 7))) 0 5))) (nI (((a9 + (evW (Bq (mbf m9) n a9))) + (figW (evW (Bq (mbf m9) n a9)) (Bq (mbf m9) n (a9 + (evW (Bq (mbf m9) n a9)))) 0 7)) + (figW (figW (evW (Bq (mbf m9) n a9)) (Bq (mbf m9) n (a9 + (evW (Bq (mbf m9) n a9)))) 0 7) (Bq (mbf m9) n ((a9 + (evW (Bq (mbf m9) n a9))) + (figW (evW (Bq (mbf m9) n a9)) (Bq (mbf m9) n (a9 + (evW (Bq (mbf m9) n a9)))) 0 7))) 0 5))))) _ := hP
                have hD : va_D A (wM g a (sMat (sMiw (sMrd m9 (upd (upd (mrd m9) (3 * r) (nI (Bq (mbf m9) n a9))) ((3 * r) + 1) ((nI (Bq (mbf m9) n (a9 + (evW (Bq (mbf m9) n a9))))) - (nI 48)))) (nI (figW (figW (evW (Bq (mbf m9) n a9)) (Bq (mbf m9) n (a9 + (evW (Bq (mbf m9) n a9)))) 0 7) (Bq (mbf m9) n ((a9 + (evW (Bq (mbf m9) n a9))) + (figW (evW (Bq (mbf m9) n a9)) (Bq (mbf m9) n (a9 + (evW (Bq (mbf m9) n a9)))) 0 7))) 0 5))) (nI (((a9 + (evW (Bq (mbf m9) n a9))) + (figW (evW (Bq (mbf m9) n a9)) (Bq (mbf m9) n (a9 + (evW (Bq (mbf m9) n a9)))) 0 7)) + (figW (figW (evW (Bq (mbf m9) n a9)) (Bq (mbf m9) n (a9 + (evW (Bq (mbf m9) n a9)))) 0 7) (Bq (mbf m9) n ((a9 + (evW (Bq (mbf m9) n a9))) + (figW (evW (Bq (mbf m9) n a9)) (Bq (mbf m9) n (a9 + (evW (Bq (mbf m9) n a9)))) 0 7))) 0 5))))) := hD
                refine k_iast (f := (upd (upd (mrd m9) (3 * r) (nI (Bq (mbf m9) n a9))) ((3 * r) + 1) ((nI (Bq (mbf m9) n (a9 + (evW (Bq (mbf m9) n a9))))) - (nI 48)))) (ws1 := (wM g a (sMrd (sMat (sMiw m9 (nI (figW (figW (evW (Bq (mbf m9) n a9)) (Bq (mbf m9) n (a9 + (evW (Bq (mbf m9) n a9)))) 0 7) (Bq (mbf m9) n ((a9 + (evW (Bq (mbf m9) n a9))) + (figW (evW (Bq (mbf m9) n a9)) (Bq (mbf m9) n (a9 + (evW (Bq (mbf m9) n a9)))) 0 7))) 0 5))) (nI (((a9 + (evW (Bq (mbf m9) n a9))) + (figW (evW (Bq (mbf m9) n a9)) (Bq (mbf m9) n (a9 + (evW (Bq (mbf m9) n a9)))) 0 7)) + (figW (figW (evW (Bq (mbf m9) n a9)) (Bq (mbf m9) n (a9 + (evW (Bq (mbf m9) n a9)))) 0 7) (Bq (mbf m9) n ((a9 + (evW (Bq (mbf m9) n a9))) + (figW (evW (Bq (mbf m9) n a9)) (Bq (mbf m9) n (a9 + (evW (Bq (mbf m9) n a9)))) 0 7))) 0 5)))) (upd (upd (upd (mrd m9) (3 * r) (nI (Bq (mbf m9) n a9))) ((3 * r) + 1) ((nI (Bq (mbf m9) n (a9 + (evW (Bq (mbf m9) n a9))))) - (nI 48))) ((3 * r) + 2) ((nI (Bq (mbf m9) n ((a9 + (evW (Bq (mbf m9) n a9))) + (figW (evW (Bq (mbf m9) n a9)) (Bq (mbf m9) n (a9 + (evW (Bq (mbf m9) n a9)))) 0 7)))) - (nI 48)))))) hx hb hE hP hD hS 5 rfl ((3 * r) + 2) rfl (by omega) (by decide) rfl dX4_readsEvent_175 (fun H locs hP hD hS => ?_)
                have hf28 : (figW (figW (evW (Bq (mbf m9) n a9)) (Bq (mbf m9) n (a9 + (evW (Bq (mbf m9) n a9)))) 0 7) (Bq (mbf m9) n ((a9 + (evW (Bq (mbf m9) n a9))) + (figW (evW (Bq (mbf m9) n a9)) (Bq (mbf m9) n (a9 + (evW (Bq (mbf m9) n a9)))) 0 7))) 0 5) < 2 := None
                refine lv_aload_n hx hb dX4_readsEvent_176 rfl (lv_at hl 2 rfl) ?_
                refine lv_dup hx hb dX4_readsEvent_177 rfl ?_
                refine va_get (D := g.1) (ci := 4) (v := .int (mrm m9)) (C := RX4) (T := TX4) (N := 12) hx hb hts hiX4 hown hE.1 hP 0 rfl rfl 10 (by decide) f129 (fun _ h9 => h9) rfl dX4_readsEvent_178 ?_
                refine k_top hrm ?_
                refine lv_aload_n hx hb dX4_readsEvent_181 rfl (lv_at hl 2 rfl) ?_
                refine va_get (D := g.1) (ci := 4) (v := .int (nI (figW (figW (evW (Bq (mbf m9) n a9)) (Bq (mbf m9) n (a9 + (evW (Bq (mbf m9) n a9)))) 0 7) (Bq (mbf m9) n ((a9 + (evW (Bq (mbf m9) n a9))) + (figW (evW (Bq (mbf m9) n a9)) (Bq (mbf m9) n (a9 + (evW (Bq (mbf m9) n a9)))) 0 7))) 0 5))) (C := RX4) (T := TX4) (N := 12) hx hb hts hiX4 hown hE.1 hP 0 rfl rfl 8 (by decide) f119 (fun _ h9 => h9) rfl dX4_readsEvent_182 ?_
                refine k_meet (x := .int (nI (figW (figW (evW (Bq (mbf m9) n a9)) (Bq (mbf m9) n (a9 + (evW (Bq (mbf m9) n a9)))) 0 7) (Bq (mbf m9) n ((a9 + (evW (Bq (mbf m9) n a9))) + (figW (evW (Bq (mbf m9) n a9)) (Bq (mbf m9) n (a9 + (evW (Bq (mbf m9) n a9)))) 0 7))) 0 5))) (pj := 193) (rest := [.int (nI r), .ref (a 0)]) (fun J29 => ?_) ?_
                ·
                  refine k_if0 (tgt := 192) hx hb (figW_lt31 _ _ _ _) dX4_readsEvent_185 (by decide) (fun c30 => ?_) (fun c30 => ?_)
                  ·
                    refine lv_iconst (v := (nI 0)) hx hb dX4_readsEvent_192 (by decide) ?_
                    exact k_top (congrArg nI (by have h8 : figW (figW (evW (Bq (mbf m9) n a9)) (Bq (mbf m9) n (a9 + (evW (Bq (mbf m9) n a9)))) 0 7) (Bq (mbf m9) n ((a9 + (evW (Bq (mbf m9) n a9))) + (figW (evW (Bq (mbf m9) n a9)) (Bq (mbf m9) n (a9 + (evW (Bq (mbf m9) n a9)))) 0 7))) 0 5 < 2 := (figW_lt _ _ _ _); omega)) J29
                  ·
                    refine lv_iconst (v := (nI 1)) hx hb dX4_readsEvent_188 (by decide) ?_
                    refine lv_goto (tgt := 193) hx hb dX4_readsEvent_189 (by decide) ?_
                    exact k_top (congrArg nI (by have h8 : figW (figW (evW (Bq (mbf m9) n a9)) (Bq (mbf m9) n (a9 + (evW (Bq (mbf m9) n a9)))) 0 7) (Bq (mbf m9) n ((a9 + (evW (Bq (mbf m9) n a9))) + (figW (evW (Bq (mbf m9) n a9)) (Bq (mbf m9) n (a9 + (evW (Bq (mbf m9) n a9)))) 0 7))) 0 5 < 2 := (figW_lt _ _ _ _); omega)) J29
                ·
                  refine lv_iadd hx hb dX4_readsEvent_193 ?_
                  refine k_top (nI_add _ _) ?_
                  refine va_put (D := g.1) (ci := 4) (v := .int (nI (r + (figW (figW (evW (Bq (mbf m9) n a9)) (Bq (mbf m9) n (a9 + (evW (Bq (mbf m9) n a9)))) 0 7) (Bq (mbf m9) n ((a9 + (evW (Bq (mbf m9) n a9))) + (figW (evW (Bq (mbf m9) n a9)) (Bq (mbf m9) n (a9 + (evW (Bq (mbf m9) n a9)))) 0 7))) 0 5)))) (ty := .int) (C := RX4) (T := TX4) (N := 12) hx hb hts hiX4 tyX4 tyX4_ok nmX4 hown hE.1 hP hD hS 0 rfl rfl 10 (by decide) f129 (fun _ h9 => h9) rfl (tyX4_ok 10 (by decide)) rfl rfl (Nat.le_of_ble_eq_true rfl) dX4_readsEvent_194 (fun H locs hP hD hS => ?_)
                  have hP : va_P g.1 vwCl (wM g a (sMrm (sMrd (sMat (sMiw m9 (nI (figW (figW (evW (Bq (mbf m9) n a9)) (Bq (mbf m9) n (a9 + (evW (Bq (mbf m9) n a9)))) 0 7) (Bq (mbf m9) n ((a9 + (evW (Bq (mbf m9) n a9))) + (figW (evW (Bq (mbf m9) n a9)) (Bq (mbf m9) n (a9 + (evW (Bq (mbf m9) n a9)))) 0 7))) 0 5))) (nI (((a9 + (evW (Bq (mbf m9) n a9))) + (figW (evW (Bq (mbf m9) n a9)) (Bq (mbf m9) n (a9 + (evW (Bq (mbf m9) n a9)))) 0 7)) + (figW (figW (evW (Bq (mbf m9) n a9)) (Bq (mbf m9) n (a9 + (evW (Bq (mbf m9) n a9)))) 0 7) (Bq (mbf m9) n ((a9 + (evW (Bq (mbf m9) n a9))) + (figW (evW (Bq (mbf m9) n a9)) (Bq (mbf m9) n (a9 + (evW (Bq (mbf m9) n a9)))) 0 7))) 0 5)))) (upd (upd (upd (mrd m9) (3 * r) (nI (Bq (mbf m9) n a9))) ((3 * r) + 1) ((nI (Bq (mbf m9) n (a9 + (evW (Bq (mbf m9) n a9))))) - (nI 48))) ((3 * r) + 2) ((nI (Bq (mbf m9) n ((a9 + (evW (Bq (mbf m9) n a9))) + (figW (evW (Bq (mbf m9) n a9)) (Bq (mbf m9) n (a9 + (evW (Bq (mbf m9) n a9)))) 0 7)))) - (nI 48)))) (nI (r + (figW (figW (evW (Bq (mbf m9) n a9)) (Bq (mbf m9) n (a9 + (evW (Bq (mbf m9) n a9)))) 0 7) (Bq (mbf m9) n ((a9 + (evW (Bq (mbf m9) n a9))) + (figW (evW (Bq (mbf m9) n a9)) (Bq (mbf m9) n (a9 + (evW (Bq (mbf m9) n a9)))) 0 7))) 0 5))))) _ := hP
                  have hD : va_D A (wM g a (sMrm (sMrd (sMat (sMiw m9 (nI (figW (figW (evW (Bq (mbf m9) n a9)) (Bq (mbf m9) n (a9 + (evW (Bq (mbf m9) n a9)))) 0 7) (Bq (mbf m9) n ((a9 + (evW (Bq (mbf m9) n a9))) + (figW (evW (Bq (mbf m9) n a9)) (Bq (mbf m9) n (a9 + (evW (Bq (mbf m9) n a9)))) 0 7))) 0 5))) (nI (((a9 + (evW (Bq (mbf m9) n a9))) + (figW (evW (Bq (mbf m9) n a9)) (Bq (mbf m9) n (a9 + (evW (Bq (mbf m9) n a9)))) 0 7)) + (figW (figW (evW (Bq (mbf m9) n a9)) (Bq (mbf m9) n (a9 + (evW (Bq (mbf m9) n a9)))) 0 7) (Bq (mbf m9) n ((a9 + (evW (Bq (mbf m9) n a9))) + (figW (evW (Bq (mbf m9) n a9)) (Bq (mbf m9) n (a9 + (evW (Bq (mbf m9) n a9)))) 0 7))) 0 5)))) (upd (upd (upd (mrd m9) (3 * r) (nI (Bq (mbf m9) n a9))) ((3 * r) + 1) ((nI (Bq (mbf m9) n (a9 + (evW (Bq (mbf m9) n a9))))) - (nI 48))) ((3 * r) + 2) ((nI (Bq (mbf m9) n ((a9 + (evW (Bq (mbf m9) n a9))) + (figW (evW (Bq (mbf m9) n a9)) (Bq (mbf m9) n (a9 + (evW (Bq (mbf m9) n a9)))) 0 7)))) - (nI 48)))) (nI (r + (figW (figW (evW (Bq (mbf m9) n a9)) (Bq (mbf m9) n (a9 + (evW (Bq (mbf m9) n a9)))) 0 7) (Bq (mbf m9) n ((a9 + (evW (Bq (mbf m9) n a9))) + (figW (evW (Bq (mbf m9) n a9)) (Bq (mbf m9) n (a9 + (evW (Bq (mbf m9) n a9)))) 0 7))) 0 5))))) := hD
                  have e31 : (MR m9 (rEv (mbf m9) n a9 r (mrd m9))) = (sMrm (sMrd (sMat (sMiw m9 (nI (figW (figW (evW (Bq (mbf m9) n a9)) (Bq (mbf m9) n (a9 + (evW (Bq (mbf m9) n a9)))) 0 7) (Bq (mbf m9) n ((a9 + (evW (Bq (mbf m9) n a9))) + (figW (evW (Bq (mbf m9) n a9)) (Bq (mbf m9) n (a9 + (evW (Bq (mbf m9) n a9)))) 0 7))) 0 5))) (nI (((a9 + (evW (Bq (mbf m9) n a9))) + (figW (evW (Bq (mbf m9) n a9)) (Bq (mbf m9) n (a9 + (evW (Bq (mbf m9) n a9)))) 0 7)) + (figW (figW (evW (Bq (mbf m9) n a9)) (Bq (mbf m9) n (a9 + (evW (Bq (mbf m9) n a9)))) 0 7) (Bq (mbf m9) n ((a9 + (evW (Bq (mbf m9) n a9))) + (figW (evW (Bq (mbf m9) n a9)) (Bq (mbf m9) n (a9 + (evW (Bq (mbf m9) n a9)))) 0 7))) 0 5)))) (upd (upd (upd (mrd m9) (3 * r) (nI (Bq (mbf m9) n a9))) ((3 * r) + 1) ((nI (Bq (mbf m9) n (a9 + (evW (Bq (mbf m9) n a9))))) - (nI 48))) ((3 * r) + 2) ((nI (Bq (mbf m9) n ((a9 + (evW (Bq (mbf m9) n a9))) + (figW (evW (Bq (mbf m9) n a9)) (Bq (mbf m9) n (a9 + (evW (Bq (mbf m9) n a9)))) 0 7)))) - (nI 48)))) (nI (r + (figW (figW (evW (Bq (mbf m9) n a9)) (Bq (mbf m9) n (a9 + (evW (Bq (mbf m9) n a9)))) 0 7) (Bq (mbf m9) n ((a9 + (evW (Bq (mbf m9) n a9))) + (figW (evW (Bq (mbf m9) n a9)) (Bq (mbf m9) n (a9 + (evW (Bq (mbf m9) n a9)))) 0 7))) 0 5)))) := (by first | (simp only [rEv, rT, rO, rC, rC2, MR, if_neg c10, if_pos c10, if_neg c11, if_pos c11, if_neg c13, if_pos c13, if_neg c18, if_pos c18, if_pos c23, if_neg (not_not_intro c23)]; done) | (simp only [rEv, rT, rO, rC, rC2, MR, if_neg c10, if_pos c10, if_neg c11, if_pos c11, if_neg c13, if_pos c13, if_neg c18, if_pos c18, if_pos c23, if_neg (not_not_intro c23)]; rfl) | rfl | (simp [rEv, rT, rO, rC, rC2, MR, if_neg c10, if_pos c10, if_neg c11, if_pos c11, if_neg c13, if_pos c13, if_neg c18, if_pos c18, if_pos c23, if_neg (not_not_intro c23)]; done))
                  have hP : va_P g.1 vwCl (wM g a (MR m9 (rEv (mbf m9) n a9 r (mrd m9)))) H := by rw [e31]; exact hP
                  have hD : va_D A (wM g a (MR m9 (rEv (mbf m9) n a9 r (mrd m9)))) := by rw [e31]; exact hD
                  exact k_vret hx hb hr hlocks hP hD hS (Nat.le_of_ble_eq_true rfl) (Nat.le_of_ble_eq_true rfl) dX4_readsEvent_197
        ·
          refine lv_aload_n hx hb dX4_readsEvent_112 rfl (lv_at hl 2 rfl) ?_
          refine va_get (D := g.1) (ci := 4) (v := .ref (a 5)) (C := RX4) (T := TX4) (N := 12) hx hb hts hiX4 hown hE.1 hP 0 rfl rfl 9 (by decide) f22 (fun _ h9 => h9) rfl dX4_readsEvent_113 ?_
          refine lv_iload_n hx hb dX4_readsEvent_116 rfl (lv_at hl 1 rfl) ?_
          refine lv_iconst (v := (nI 1)) hx hb dX4_readsEvent_117 (by decide) ?_
          refine lv_iadd hx hb dX4_readsEvent_118 ?_
          refine k_top (nI_add _ _) ?_
          refine lv_aload_n hx hb dX4_readsEvent_119 rfl (lv_at hl 2 rfl) ?_
          refine lv_iconst (v := (nI 0)) hx hb dX4_readsEvent_120 (by decide) ?_
          refine lv_iconst (v := (nI 5)) hx hb dX4_readsEvent_121 (by decide) ?_
          refine k_Vi (As := [.int (nI 0), .int (nI 5)]) (r := ((nI (Bq (mbf m9) n (a9 + (evW (Bq (mbf m9) n a9))))) - (nI 48))) hF (c_X4_figure l g a (sMrd (sMat (sMiw m9 (nI (evW (Bq (mbf m9) n a9)))) (nI (a9 + (evW (Bq (mbf m9) n a9))))) (upd (mrd m9) (3 * r) (nI (Bq (mbf m9) n a9)))) n (a9 + (evW (Bq (mbf m9) n a9))) hn hln rfl (by omega) hbf (evW (Bq (mbf m9) n a9)) rfl 0 (by decide) 5 (by decide)) (cwV 2 hts gX4_readsEvent_X4_figure rfl rfl rfl (by decide +kernel) ⟨Nat.le_of_ble_eq_true rfl, Nat.le_of_ble_eq_true rfl⟩) hE hP hD hS hA (k_pall _) ((k_pall _).symm) 0 rfl rfl rfl rfl hl.1 rfl (Nat.le_of_ble_eq_true rfl) dX4_readsEvent_122 ⟨Nat.le_of_ble_eq_true rfl, Nat.le_of_ble_eq_true rfl⟩ (fun H locs hP hD hS => ?_)
          have hP : va_P g.1 vwCl (wM g a (sMat (sMiw (sMrd m9 (upd (mrd m9) (3 * r) (nI (Bq (mbf m9) n a9)))) (nI (figW (evW (Bq (mbf m9) n a9)) (Bq (mbf m9) n (a9 + (evW (Bq (mbf m9) n a9)))) 0 5))) (nI ((a9 + (evW (Bq (mbf m9) n a9))) + (figW (evW (Bq (mbf m9) n a9)) (Bq (mbf m9) n (a9 + (evW (Bq (mbf m9) n a9)))) 0 5))))) _ := hP
          have hD : va_D A (wM g a (sMat (sMiw (sMrd m9 (upd (mrd m9) (3 * r) (nI (Bq (mbf m9) n a9)))) (nI (figW (evW (Bq (mbf m9) n a9)) (Bq (mbf m9) n (a9 + (evW (Bq (mbf m9) n a9)))) 0 5))) (nI ((a9 + (evW (Bq (mbf m9) n a9))) + (figW (evW (Bq (mbf m9) n a9)) (Bq (mbf m9) n (a9 + (evW (Bq (mbf m9) n a9)))) 0 5))))) := hD
          refine k_iast (f := (upd (mrd m9) (3 * r) (nI (Bq (mbf m9) n a9)))) (ws1 := (wM g a (sMrd (sMat (sMiw m9 (nI (figW (evW (Bq (mbf m9) n a9)) (Bq (mbf m9) n (a9 + (evW (Bq (mbf m9) n a9)))) 0 5))) (nI ((a9 + (evW (Bq (mbf m9) n a9))) + (figW (evW (Bq (mbf m9) n a9)) (Bq (mbf m9) n (a9 + (evW (Bq (mbf m9) n a9)))) 0 5)))) (upd (upd (mrd m9) (3 * r) (nI (Bq (mbf m9) n a9))) ((3 * r) + 1) ((nI (Bq (mbf m9) n (a9 + (evW (Bq (mbf m9) n a9))))) - (nI 48)))))) hx hb hE hP hD hS 5 rfl ((3 * r) + 1) rfl (by omega) (by decide) rfl dX4_readsEvent_125 (fun H locs hP hD hS => ?_)
          refine lv_goto (tgt := 144) hx hb dX4_readsEvent_126 (by decide) ?_
          have hf32 : (figW (evW (Bq (mbf m9) n a9)) (Bq (mbf m9) n (a9 + (evW (Bq (mbf m9) n a9)))) 0 5) < 2 := None
          refine lv_iload_n hx hb dX4_readsEvent_144 rfl (lv_at hl 0 rfl) ?_
          refine lv_bipush (v := (nI 99)) hx hb dX4_readsEvent_145 (by decide) ?_
          refine k_eqN (tgt := 162) hx hb (Bq_lt31 hbf _) (by decide) dX4_readsEvent_147 (by decide) (fun c33 => ?_) (fun c33 => ?_)
          ·
            exact absurd c33 (by omega)
          ·
            refine lv_iload_n hx hb dX4_readsEvent_150 rfl (lv_at hl 0 rfl) ?_
            refine lv_bipush (v := (nI 108)) hx hb dX4_readsEvent_151 (by decide) ?_
            refine k_eqN (tgt := 162) hx hb (Bq_lt31 hbf _) (by decide) dX4_readsEvent_153 (by decide) (fun c34 => ?_) (fun c34 => ?_)
            ·
              refine lv_aload_n hx hb dX4_readsEvent_162 rfl (lv_at hl 2 rfl) ?_
              refine va_get (D := g.1) (ci := 4) (v := .ref (a 5)) (C := RX4) (T := TX4) (N := 12) hx hb hts hiX4 hown hE.1 hP 0 rfl rfl 9 (by decide) f22 (fun _ h9 => h9) rfl dX4_readsEvent_163 ?_
              refine lv_iload_n hx hb dX4_readsEvent_166 rfl (lv_at hl 1 rfl) ?_
              refine lv_iconst (v := (nI 2)) hx hb dX4_readsEvent_167 (by decide) ?_
              refine lv_iadd hx hb dX4_readsEvent_168 ?_
              refine k_top (nI_add _ _) ?_
              refine lv_aload_n hx hb dX4_readsEvent_169 rfl (lv_at hl 2 rfl) ?_
              refine lv_iconst (v := (nI 0)) hx hb dX4_readsEvent_170 (by decide) ?_
              refine lv_iconst (v := (nI 5)) hx hb dX4_readsEvent_171 (by decide) ?_
              refine k_Vi (As := [.int (nI 0), .int (nI 5)]) (r := ((nI (Bq (mbf m9) n ((a9 + (evW (Bq (mbf m9) n a9))) + (figW (evW (Bq (mbf m9) n a9)) (Bq (mbf m9) n (a9 + (evW (Bq (mbf m9) n a9)))) 0 5)))) - (nI 48))) hF (c_X4_figure l g a (sMrd (sMat (sMiw m9 (nI (figW (evW (Bq (mbf m9) n a9)) (Bq (mbf m9) n (a9 + (evW (Bq (mbf m9) n a9)))) 0 5))) (nI ((a9 + (evW (Bq (mbf m9) n a9))) + (figW (evW (Bq (mbf m9) n a9)) (Bq (mbf m9) n (a9 + (evW (Bq (mbf m9) n a9)))) 0 5)))) (upd (upd (mrd m9) (3 * r) (nI (Bq (mbf m9) n a9))) ((3 * r) + 1) ((nI (Bq (mbf m9) n (a9 + (evW (Bq (mbf m9) n a9))))) - (nI 48)))) n ((a9 + (evW (Bq (mbf m9) n a9))) + (figW (evW (Bq (mbf m9) n a9)) (Bq (mbf m9) n (a9 + (evW (Bq (mbf m9) n a9)))) 0 5)) hn hln rfl (by omega) hbf (figW (evW (Bq (mbf m9) n a9)) (Bq (mbf m9) n (a9 + (evW (Bq (mbf m9) n a9)))) 0 5) rfl 0 (by decide) 5 (by decide)) (cwV 2 hts gX4_readsEvent_X4_figure rfl rfl rfl (by decide +kernel) ⟨Nat.le_of_ble_eq_true rfl, Nat.le_of_ble_eq_true rfl⟩) hE hP hD hS hA (k_pall _) ((k_pall _).symm) 0 rfl rfl rfl rfl hl.1 rfl (Nat.le_of_ble_eq_true rfl) dX4_readsEvent_172 ⟨Nat.le_of_ble_eq_true rfl, Nat.le_of_ble_eq_true rfl⟩ (fun H locs hP hD hS => ?_)
              have hP : va_P g.1 vwCl (wM g a (sMat (sMiw (sMrd m9 (upd (upd (mrd m9) (3 * r) (nI (Bq (mbf m9) n a9))) ((3 * r) + 1) ((nI (Bq (mbf m9) n (a9 + (evW (Bq (mbf m9) n a9))))) - (nI 48)))) (nI (figW (figW (evW (Bq (mbf m9) n a9)) (Bq (mbf m9) n (a9 + (evW (Bq (mbf m9) n a9)))) 0 5) (Bq (mbf m9) n ((a9 + (evW (Bq (mbf m9) n a9))) + (figW (evW (Bq (mbf m9) n a9)) (Bq (mbf m9) n (a9 + (evW (Bq (mbf m9) n a9)))) 0 5))) 0 5))) (nI (((a9 + (evW (Bq (mbf m9) n a9))) + (figW (evW (Bq (mbf m9) n a9)) (Bq (mbf m9) n (a9 + (evW (Bq (mbf m9) n a9)))) 0 5)) + (figW (figW (evW (Bq (mbf m9) n a9)) (Bq (mbf m9) n (a9 + (evW (Bq (mbf m9) n a9)))) 0 5) (Bq (mbf m9) n ((a9 + (evW (Bq (mbf m9) n a9))) + (figW (evW (Bq (mbf m9) n a9)) (Bq (mbf m9) n (a9 + (evW (Bq (mbf m9) n a9)))) 0 5))) 0 5))))) _ := hP
              have hD : va_D A (wM g a (sMat (sMiw (sMrd m9 (upd (upd (mrd m9) (3 * r) (nI (Bq (mbf m9) n a9))) ((3 * r) + 1) ((nI (Bq (mbf m9) n (a9 + (evW (Bq (mbf m9) n a9))))) - (nI 48)))) (nI (figW (figW (evW (Bq (mbf m9) n a9)) (Bq (mbf m9) n (a9 + (evW (Bq (mbf m9) n a9)))) 0 5) (Bq (mbf m9) n ((a9 + (evW (Bq (mbf m9) n a9))) + (figW (evW (Bq (mbf m9) n a9)) (Bq (mbf m9) n (a9 + (evW (Bq (mbf m9) n a9)))) 0 5))) 0 5))) (nI (((a9 + (evW (Bq (mbf m9) n a9))) + (figW (evW (Bq (mbf m9) n a9)) (Bq (mbf m9) n (a9 + (evW (Bq (mbf m9) n a9)))) 0 5)) + (figW (figW (evW (Bq (mbf m9) n a9)) (Bq (mbf m9) n (a9 + (evW (Bq (mbf m9) n a9)))) 0 5) (Bq (mbf m9) n ((a9 + (evW (Bq (mbf m9) n a9))) + (figW (evW (Bq (mbf m9) n a9)) (Bq (mbf m9) n (a9 + (evW (Bq (mbf m9) n a9)))) 0 5))) 0 5))))) := hD
              refine k_iast (f := (upd (upd (mrd m9) (3 * r) (nI (Bq (mbf m9) n a9))) ((3 * r) + 1) ((nI (Bq (mbf m9) n (a9 + (evW (Bq (mbf m9) n a9))))) - (nI 48)))) (ws1 := (wM g a (sMrd (sMat (sMiw m9 (nI (figW (figW (evW (Bq (mbf m9) n a9)) (Bq (mbf m9) n (a9 + (evW (Bq (mbf m9) n a9)))) 0 5) (Bq (mbf m9) n ((a9 + (evW (Bq (mbf m9) n a9))) + (figW (evW (Bq (mbf m9) n a9)) (Bq (mbf m9) n (a9 + (evW (Bq (mbf m9) n a9)))) 0 5))) 0 5))) (nI (((a9 + (evW (Bq (mbf m9) n a9))) + (figW (evW (Bq (mbf m9) n a9)) (Bq (mbf m9) n (a9 + (evW (Bq (mbf m9) n a9)))) 0 5)) + (figW (figW (evW (Bq (mbf m9) n a9)) (Bq (mbf m9) n (a9 + (evW (Bq (mbf m9) n a9)))) 0 5) (Bq (mbf m9) n ((a9 + (evW (Bq (mbf m9) n a9))) + (figW (evW (Bq (mbf m9) n a9)) (Bq (mbf m9) n (a9 + (evW (Bq (mbf m9) n a9)))) 0 5))) 0 5)))) (upd (upd (upd (mrd m9) (3 * r) (nI (Bq (mbf m9) n a9))) ((3 * r) + 1) ((nI (Bq (mbf m9) n (a9 + (evW (Bq (mbf m9) n a9))))) - (nI 48))) ((3 * r) + 2) ((nI (Bq (mbf m9) n ((a9 + (evW (Bq (mbf m9) n a9))) + (figW (evW (Bq (mbf m9) n a9)) (Bq (mbf m9) n (a9 + (evW (Bq (mbf m9) n a9)))) 0 5)))) - (nI 48)))))) hx hb hE hP hD hS 5 rfl ((3 * r) + 2) rfl (by omega) (by decide) rfl dX4_readsEvent_175 (fun H locs hP hD hS => ?_)
              have hf35 : (figW (figW (evW (Bq (mbf m9) n a9)) (Bq (mbf m9) n (a9 + (evW (Bq (mbf m9) n a9)))) 0 5) (Bq (mbf m9) n ((a9 + (evW (Bq (mbf m9) n a9))) + (figW (evW (Bq (mbf m9) n a9)) (Bq (mbf m9) n (a9 + (evW (Bq (mbf m9) n a9)))) 0 5))) 0 5) < 2 := None
              refine lv_aload_n hx hb dX4_readsEvent_176 rfl (lv_at hl 2 rfl) ?_
              refine lv_dup hx hb dX4_readsEvent_177 rfl ?_
              refine va_get (D := g.1) (ci := 4) (v := .int (mrm m9)) (C := RX4) (T := TX4) (N := 12) hx hb hts hiX4 hown hE.1 hP 0 rfl rfl 10 (by decide) f129 (fun _ h9 => h9) rfl dX4_readsEvent_178 ?_
              refine k_top hrm ?_
              refine lv_aload_n hx hb dX4_readsEvent_181 rfl (lv_at hl 2 rfl) ?_
              refine va_get (D := g.1) (ci := 4) (v := .int (nI (figW (figW (evW (Bq (mbf m9) n a9)) (Bq (mbf m9) n (a9 + (evW (Bq (mbf m9) n a9)))) 0 5) (Bq (mbf m9) n ((a9 + (evW (Bq (mbf m9) n a9))) + (figW (evW (Bq (mbf m9) n a9)) (Bq (mbf m9) n (a9 + (evW (Bq (mbf m9) n a9)))) 0 5))) 0 5))) (C := RX4) (T := TX4) (N := 12) hx hb hts hiX4 hown hE.1 hP 0 rfl rfl 8 (by decide) f119 (fun _ h9 => h9) rfl dX4_readsEvent_182 ?_
              refine k_meet (x := .int (nI (figW (figW (evW (Bq (mbf m9) n a9)) (Bq (mbf m9) n (a9 + (evW (Bq (mbf m9) n a9)))) 0 5) (Bq (mbf m9) n ((a9 + (evW (Bq (mbf m9) n a9))) + (figW (evW (Bq (mbf m9) n a9)) (Bq (mbf m9) n (a9 + (evW (Bq (mbf m9) n a9)))) 0 5))) 0 5))) (pj := 193) (rest := [.int (nI r), .ref (a 0)]) (fun J36 => ?_) ?_
              ·
                refine k_if0 (tgt := 192) hx hb (figW_lt31 _ _ _ _) dX4_readsEvent_185 (by decide) (fun c37 => ?_) (fun c37 => ?_)
                ·
                  refine lv_iconst (v := (nI 0)) hx hb dX4_readsEvent_192 (by decide) ?_
                  exact k_top (congrArg nI (by have h8 : figW (figW (evW (Bq (mbf m9) n a9)) (Bq (mbf m9) n (a9 + (evW (Bq (mbf m9) n a9)))) 0 5) (Bq (mbf m9) n ((a9 + (evW (Bq (mbf m9) n a9))) + (figW (evW (Bq (mbf m9) n a9)) (Bq (mbf m9) n (a9 + (evW (Bq (mbf m9) n a9)))) 0 5))) 0 5 < 2 := (figW_lt _ _ _ _); omega)) J36
                ·
                  refine lv_iconst (v := (nI 1)) hx hb dX4_readsEvent_188 (by decide) ?_
                  refine lv_goto (tgt := 193) hx hb dX4_readsEvent_189 (by decide) ?_
                  exact k_top (congrArg nI (by have h8 : figW (figW (evW (Bq (mbf m9) n a9)) (Bq (mbf m9) n (a9 + (evW (Bq (mbf m9) n a9)))) 0 5) (Bq (mbf m9) n ((a9 + (evW (Bq (mbf m9) n a9))) + (figW (evW (Bq (mbf m9) n a9)) (Bq (mbf m9) n (a9 + (evW (Bq (mbf m9) n a9)))) 0 5))) 0 5 < 2 := (figW_lt _ _ _ _); omega)) J36
              ·
                refine lv_iadd hx hb dX4_readsEvent_193 ?_
                refine k_top (nI_add _ _) ?_
                refine va_put (D := g.1) (ci := 4) (v := .int (nI (r + (figW (figW (evW (Bq (mbf m9) n a9)) (Bq (mbf m9) n (a9 + (evW (Bq (mbf m9) n a9)))) 0 5) (Bq (mbf m9) n ((a9 + (evW (Bq (mbf m9) n a9))) + (figW (evW (Bq (mbf m9) n a9)) (Bq (mbf m9) n (a9 + (evW (Bq (mbf m9) n a9)))) 0 5))) 0 5)))) (ty := .int) (C := RX4) (T := TX4) (N := 12) hx hb hts hiX4 tyX4 tyX4_ok nmX4 hown hE.1 hP hD hS 0 rfl rfl 10 (by decide) f129 (fun _ h9 => h9) rfl (tyX4_ok 10 (by decide)) rfl rfl (Nat.le_of_ble_eq_true rfl) dX4_readsEvent_194 (fun H locs hP hD hS => ?_)
                have hP : va_P g.1 vwCl (wM g a (sMrm (sMrd (sMat (sMiw m9 (nI (figW (figW (evW (Bq (mbf m9) n a9)) (Bq (mbf m9) n (a9 + (evW (Bq (mbf m9) n a9)))) 0 5) (Bq (mbf m9) n ((a9 + (evW (Bq (mbf m9) n a9))) + (figW (evW (Bq (mbf m9) n a9)) (Bq (mbf m9) n (a9 + (evW (Bq (mbf m9) n a9)))) 0 5))) 0 5))) (nI (((a9 + (evW (Bq (mbf m9) n a9))) + (figW (evW (Bq (mbf m9) n a9)) (Bq (mbf m9) n (a9 + (evW (Bq (mbf m9) n a9)))) 0 5)) + (figW (figW (evW (Bq (mbf m9) n a9)) (Bq (mbf m9) n (a9 + (evW (Bq (mbf m9) n a9)))) 0 5) (Bq (mbf m9) n ((a9 + (evW (Bq (mbf m9) n a9))) + (figW (evW (Bq (mbf m9) n a9)) (Bq (mbf m9) n (a9 + (evW (Bq (mbf m9) n a9)))) 0 5))) 0 5)))) (upd (upd (upd (mrd m9) (3 * r) (nI (Bq (mbf m9) n a9))) ((3 * r) + 1) ((nI (Bq (mbf m9) n (a9 + (evW (Bq (mbf m9) n a9))))) - (nI 48))) ((3 * r) + 2) ((nI (Bq (mbf m9) n ((a9 + (evW (Bq (mbf m9) n a9))) + (figW (evW (Bq (mbf m9) n a9)) (Bq (mbf m9) n (a9 + (evW (Bq (mbf m9) n a9)))) 0 5)))) - (nI 48)))) (nI (r + (figW (figW (evW (Bq (mbf m9) n a9)) (Bq (mbf m9) n (a9 + (evW (Bq (mbf m9) n a9)))) 0 5) (Bq (mbf m9) n ((a9 + (evW (Bq (mbf m9) n a9))) + (figW (evW (Bq (mbf m9) n a9)) (Bq (mbf m9) n (a9 + (evW (Bq (mbf m9) n a9)))) 0 5))) 0 5))))) _ := hP
                have hD : va_D A (wM g a (sMrm (sMrd (sMat (sMiw m9 (nI (figW (figW (evW (Bq (mbf m9) n a9)) (Bq (mbf m9) n (a9 + (evW (Bq (mbf m9) n a9)))) 0 5) (Bq (mbf m9) n ((a9 + (evW (Bq (mbf m9) n a9))) + (figW (evW (Bq (mbf m9) n a9)) (Bq (mbf m9) n (a9 + (evW (Bq (mbf m9) n a9)))) 0 5))) 0 5))) (nI (((a9 + (evW (Bq (mbf m9) n a9))) + (figW (evW (Bq (mbf m9) n a9)) (Bq (mbf m9) n (a9 + (evW (Bq (mbf m9) n a9)))) 0 5)) + (figW (figW (evW (Bq (mbf m9) n a9)) (Bq (mbf m9) n (a9 + (evW (Bq (mbf m9) n a9)))) 0 5) (Bq (mbf m9) n ((a9 + (evW (Bq (mbf m9) n a9))) + (figW (evW (Bq (mbf m9) n a9)) (Bq (mbf m9) n (a9 + (evW (Bq (mbf m9) n a9)))) 0 5))) 0 5)))) (upd (upd (upd (mrd m9) (3 * r) (nI (Bq (mbf m9) n a9))) ((3 * r) + 1) ((nI (Bq (mbf m9) n (a9 + (evW (Bq (mbf m9) n a9))))) - (nI 48))) ((3 * r) + 2) ((nI (Bq (mbf m9) n ((a9 + (evW (Bq (mbf m9) n a9))) + (figW (evW (Bq (mbf m9) n a9)) (Bq (mbf m9) n (a9 + (evW (Bq (mbf m9) n a9)))) 0 5)))) - (nI 48)))) (nI (r + (figW (figW (evW (Bq (mbf m9) n a9)) (Bq (mbf m9) n (a9 + (evW (Bq (mbf m9) n a9)))) 0 5) (Bq (mbf m9) n ((a9 + (evW (Bq (mbf m9) n a9))) + (figW (evW (Bq (mbf m9) n a9)) (Bq (mbf m9) n (a9 + (evW (Bq (mbf m9) n a9)))) 0 5))) 0 5))))) := hD
                have e38 : (MR m9 (rEv (mbf m9) n a9 r (mrd m9))) = (sMrm (sMrd (sMat (sMiw m9 (nI (figW (figW (evW (Bq (mbf m9) n a9)) (Bq (mbf m9) n (a9 + (evW (Bq (mbf m9) n a9)))) 0 5) (Bq (mbf m9) n ((a9 + (evW (Bq (mbf m9) n a9))) + (figW (evW (Bq (mbf m9) n a9)) (Bq (mbf m9) n (a9 + (evW (Bq (mbf m9) n a9)))) 0 5))) 0 5))) (nI (((a9 + (evW (Bq (mbf m9) n a9))) + (figW (evW (Bq (mbf m9) n a9)) (Bq (mbf m9) n (a9 + (evW (Bq (mbf m9) n a9)))) 0 5)) + (figW (figW (evW (Bq (mbf m9) n a9)) (Bq (mbf m9) n (a9 + (evW (Bq (mbf m9) n a9)))) 0 5) (Bq (mbf m9) n ((a9 + (evW (Bq (mbf m9) n a9))) + (figW (evW (Bq (mbf m9) n a9)) (Bq (mbf m9) n (a9 + (evW (Bq (mbf m9) n a9)))) 0 5))) 0 5)))) (upd (upd (upd (mrd m9) (3 * r) (nI (Bq (mbf m9) n a9))) ((3 * r) + 1) ((nI (Bq (mbf m9) n (a9 + (evW (Bq (mbf m9) n a9))))) - (nI 48))) ((3 * r) + 2) ((nI (Bq (mbf m9) n ((a9 + (evW (Bq (mbf m9) n a9))) + (figW (evW (Bq (mbf m9) n a9)) (Bq (mbf m9) n (a9 + (evW (Bq (mbf m9) n a9)))) 0 5)))) - (nI 48)))) (nI (r + (figW (figW (evW (Bq (mbf m9) n a9)) (Bq (mbf m9) n (a9 + (evW (Bq (mbf m9) n a9)))) 0 5) (Bq (mbf m9) n ((a9 + (evW (Bq (mbf m9) n a9))) + (figW (evW (Bq (mbf m9) n a9)) (Bq (mbf m9) n (a9 + (evW (Bq (mbf m9) n a9)))) 0 5))) 0 5)))) := (by first | (simp only [rEv, rT, rO, rC, rC2, MR, if_neg c10, if_pos c10, if_pos c11, if_neg (not_not_intro c11), if_neg c33, if_pos c33, if_pos c34, if_neg (not_not_intro c34)]; done) | (simp only [rEv, rT, rO, rC, rC2, MR, if_neg c10, if_pos c10, if_pos c11, if_neg (not_not_intro c11), if_neg c33, if_pos c33, if_pos c34, if_neg (not_not_intro c34)]; rfl) | rfl | (simp [rEv, rT, rO, rC, rC2, MR, if_neg c10, if_pos c10, if_pos c11, if_neg (not_not_intro c11), if_neg c33, if_pos c33, if_pos c34, if_neg (not_not_intro c34)]; done))
                have hP : va_P g.1 vwCl (wM g a (MR m9 (rEv (mbf m9) n a9 r (mrd m9)))) H := by rw [e38]; exact hP
                have hD : va_D A (wM g a (MR m9 (rEv (mbf m9) n a9 r (mrd m9)))) := by rw [e38]; exact hD
                exact k_vret hx hb hr hlocks hP hD hS (Nat.le_of_ble_eq_true rfl) (Nat.le_of_ble_eq_true rfl) dX4_readsEvent_197
            ·
              refine lv_iload_n hx hb dX4_readsEvent_156 rfl (lv_at hl 0 rfl) ?_
              refine lv_bipush (v := (nI 115)) hx hb dX4_readsEvent_157 (by decide) ?_
              refine k_neN (tgt := 176) hx hb (Bq_lt31 hbf _) (by decide) dX4_readsEvent_159 (by decide) (fun c39 => ?_) (fun c39 => ?_)
              ·
                have hf40 : (figW (evW (Bq (mbf m9) n a9)) (Bq (mbf m9) n (a9 + (evW (Bq (mbf m9) n a9)))) 0 5) < 2 := None
                refine lv_aload_n hx hb dX4_readsEvent_176 rfl (lv_at hl 2 rfl) ?_
                refine lv_dup hx hb dX4_readsEvent_177 rfl ?_
                refine va_get (D := g.1) (ci := 4) (v := .int (mrm m9)) (C := RX4) (T := TX4) (N := 12) hx hb hts hiX4 hown hE.1 hP 0 rfl rfl 10 (by decide) f129 (fun _ h9 => h9) rfl dX4_readsEvent_178 ?_
                refine k_top hrm ?_
                refine lv_aload_n hx hb dX4_readsEvent_181 rfl (lv_at hl 2 rfl) ?_
                refine va_get (D := g.1) (ci := 4) (v := .int (nI (figW (evW (Bq (mbf m9) n a9)) (Bq (mbf m9) n (a9 + (evW (Bq (mbf m9) n a9)))) 0 5))) (C := RX4) (T := TX4) (N := 12) hx hb hts hiX4 hown hE.1 hP 0 rfl rfl 8 (by decide) f119 (fun _ h9 => h9) rfl dX4_readsEvent_182 ?_
                refine k_meet (x := .int (nI (figW (evW (Bq (mbf m9) n a9)) (Bq (mbf m9) n (a9 + (evW (Bq (mbf m9) n a9)))) 0 5))) (pj := 193) (rest := [.int (nI r), .ref (a 0)]) (fun J41 => ?_) ?_
                ·
                  refine k_if0 (tgt := 192) hx hb (figW_lt31 _ _ _ _) dX4_readsEvent_185 (by decide) (fun c42 => ?_) (fun c42 => ?_)
                  ·
                    refine lv_iconst (v := (nI 0)) hx hb dX4_readsEvent_192 (by decide) ?_
                    exact k_top (congrArg nI (by have h8 : figW (evW (Bq (mbf m9) n a9)) (Bq (mbf m9) n (a9 + (evW (Bq (mbf m9) n a9)))) 0 5 < 2 := (figW_lt _ _ _ _); omega)) J41
                  ·
                    refine lv_iconst (v := (nI 1)) hx hb dX4_readsEvent_188 (by decide) ?_
                    refine lv_goto (tgt := 193) hx hb dX4_readsEvent_189 (by decide) ?_
                    exact k_top (congrArg nI (by have h8 : figW (evW (Bq (mbf m9) n a9)) (Bq (mbf m9) n (a9 + (evW (Bq (mbf m9) n a9)))) 0 5 < 2 := (figW_lt _ _ _ _); omega)) J41
                ·
                  refine lv_iadd hx hb dX4_readsEvent_193 ?_
                  refine k_top (nI_add _ _) ?_
                  refine va_put (D := g.1) (ci := 4) (v := .int (nI (r + (figW (evW (Bq (mbf m9) n a9)) (Bq (mbf m9) n (a9 + (evW (Bq (mbf m9) n a9)))) 0 5)))) (ty := .int) (C := RX4) (T := TX4) (N := 12) hx hb hts hiX4 tyX4 tyX4_ok nmX4 hown hE.1 hP hD hS 0 rfl rfl 10 (by decide) f129 (fun _ h9 => h9) rfl (tyX4_ok 10 (by decide)) rfl rfl (Nat.le_of_ble_eq_true rfl) dX4_readsEvent_194 (fun H locs hP hD hS => ?_)
                  have hP : va_P g.1 vwCl (wM g a (sMrm (sMrd (sMat (sMiw m9 (nI (figW (evW (Bq (mbf m9) n a9)) (Bq (mbf m9) n (a9 + (evW (Bq (mbf m9) n a9)))) 0 5))) (nI ((a9 + (evW (Bq (mbf m9) n a9))) + (figW (evW (Bq (mbf m9) n a9)) (Bq (mbf m9) n (a9 + (evW (Bq (mbf m9) n a9)))) 0 5)))) (upd (upd (mrd m9) (3 * r) (nI (Bq (mbf m9) n a9))) ((3 * r) + 1) ((nI (Bq (mbf m9) n (a9 + (evW (Bq (mbf m9) n a9))))) - (nI 48)))) (nI (r + (figW (evW (Bq (mbf m9) n a9)) (Bq (mbf m9) n (a9 + (evW (Bq (mbf m9) n a9)))) 0 5))))) _ := hP
                  have hD : va_D A (wM g a (sMrm (sMrd (sMat (sMiw m9 (nI (figW (evW (Bq (mbf m9) n a9)) (Bq (mbf m9) n (a9 + (evW (Bq (mbf m9) n a9)))) 0 5))) (nI ((a9 + (evW (Bq (mbf m9) n a9))) + (figW (evW (Bq (mbf m9) n a9)) (Bq (mbf m9) n (a9 + (evW (Bq (mbf m9) n a9)))) 0 5)))) (upd (upd (mrd m9) (3 * r) (nI (Bq (mbf m9) n a9))) ((3 * r) + 1) ((nI (Bq (mbf m9) n (a9 + (evW (Bq (mbf m9) n a9))))) - (nI 48)))) (nI (r + (figW (evW (Bq (mbf m9) n a9)) (Bq (mbf m9) n (a9 + (evW (Bq (mbf m9) n a9)))) 0 5))))) := hD
                  have e43 : (MR m9 (rEv (mbf m9) n a9 r (mrd m9))) = (sMrm (sMrd (sMat (sMiw m9 (nI (figW (evW (Bq (mbf m9) n a9)) (Bq (mbf m9) n (a9 + (evW (Bq (mbf m9) n a9)))) 0 5))) (nI ((a9 + (evW (Bq (mbf m9) n a9))) + (figW (evW (Bq (mbf m9) n a9)) (Bq (mbf m9) n (a9 + (evW (Bq (mbf m9) n a9)))) 0 5)))) (upd (upd (mrd m9) (3 * r) (nI (Bq (mbf m9) n a9))) ((3 * r) + 1) ((nI (Bq (mbf m9) n (a9 + (evW (Bq (mbf m9) n a9))))) - (nI 48)))) (nI (r + (figW (evW (Bq (mbf m9) n a9)) (Bq (mbf m9) n (a9 + (evW (Bq (mbf m9) n a9)))) 0 5)))) := (by first | (simp only [rEv, rT, rO, rC, rC2, MR, if_neg c10, if_pos c10, if_pos c11, if_neg (not_not_intro c11), if_neg c33, if_pos c33, if_neg c34, if_pos c34, if_neg c39, if_pos c39]; done) | (simp only [rEv, rT, rO, rC, rC2, MR, if_neg c10, if_pos c10, if_pos c11, if_neg (not_not_intro c11), if_neg c33, if_pos c33, if_neg c34, if_pos c34, if_neg c39, if_pos c39]; rfl) | rfl | (simp [rEv, rT, rO, rC, rC2, MR, if_neg c10, if_pos c10, if_pos c11, if_neg (not_not_intro c11), if_neg c33, if_pos c33, if_neg c34, if_pos c34, if_neg c39, if_pos c39]; done))
                  have hP : va_P g.1 vwCl (wM g a (MR m9 (rEv (mbf m9) n a9 r (mrd m9)))) H := by rw [e43]; exact hP
                  have hD : va_D A (wM g a (MR m9 (rEv (mbf m9) n a9 r (mrd m9)))) := by rw [e43]; exact hD
                  exact k_vret hx hb hr hlocks hP hD hS (Nat.le_of_ble_eq_true rfl) (Nat.le_of_ble_eq_true rfl) dX4_readsEvent_197
              ·
                exact absurd c39 (by omega)
      ·
        refine lv_aload_n hx hb dX4_readsEvent_91 rfl (lv_at hl 2 rfl) ?_
        refine va_get (D := g.1) (ci := 4) (v := .ref (a 5)) (C := RX4) (T := TX4) (N := 12) hx hb hts hiX4 hown hE.1 hP 0 rfl rfl 9 (by decide) f22 (fun _ h9 => h9) rfl dX4_readsEvent_92 ?_
        refine lv_iload_n hx hb dX4_readsEvent_95 rfl (lv_at hl 1 rfl) ?_
        refine lv_iconst (v := (nI 1)) hx hb dX4_readsEvent_96 (by decide) ?_
        refine lv_iadd hx hb dX4_readsEvent_97 ?_
        refine k_top (nI_add _ _) ?_
        refine lv_aload_n hx hb dX4_readsEvent_98 rfl (lv_at hl 2 rfl) ?_
        refine k_Vi (As := []) (r := (numV (mbf m9) n (a9 + (evW (Bq (mbf m9) n a9))) (evW (Bq (mbf m9) n a9)))) hF (c_X4_number l g a (sMrd (sMat (sMiw m9 (nI (evW (Bq (mbf m9) n a9)))) (nI (a9 + (evW (Bq (mbf m9) n a9))))) (upd (mrd m9) (3 * r) (nI (Bq (mbf m9) n a9)))) n (a9 + (evW (Bq (mbf m9) n a9))) hn hln rfl (by omega) hbf (by omega) (evW (Bq (mbf m9) n a9)) rfl) (cwV 0 hts gX4_readsEvent_X4_number rfl rfl rfl (by decide +kernel) ⟨Nat.le_of_ble_eq_true rfl, Nat.le_of_ble_eq_true rfl⟩) hE hP hD hS hA (k_pall _) ((k_pall _).symm) 0 rfl rfl rfl rfl hl.1 rfl (Nat.le_of_ble_eq_true rfl) dX4_readsEvent_99 ⟨Nat.le_of_ble_eq_true rfl, Nat.le_of_ble_eq_true rfl⟩ (fun H locs hP hD hS => ?_)
        have hP : va_P g.1 vwCl (wM g a (sMat (sMiw (sMrd m9 (upd (mrd m9) (3 * r) (nI (Bq (mbf m9) n a9)))) (nI (figW (evW (Bq (mbf m9) n a9)) (Bq (mbf m9) n (a9 + (evW (Bq (mbf m9) n a9)))) 1 9))) (nI (numA (mbf m9) n (a9 + (evW (Bq (mbf m9) n a9))) (evW (Bq (mbf m9) n a9)))))) _ := hP
        have hD : va_D A (wM g a (sMat (sMiw (sMrd m9 (upd (mrd m9) (3 * r) (nI (Bq (mbf m9) n a9)))) (nI (figW (evW (Bq (mbf m9) n a9)) (Bq (mbf m9) n (a9 + (evW (Bq (mbf m9) n a9)))) 1 9))) (nI (numA (mbf m9) n (a9 + (evW (Bq (mbf m9) n a9))) (evW (Bq (mbf m9) n a9)))))) := hD
        refine k_iast (f := (upd (mrd m9) (3 * r) (nI (Bq (mbf m9) n a9)))) (ws1 := (wM g a (sMrd (sMat (sMiw m9 (nI (figW (evW (Bq (mbf m9) n a9)) (Bq (mbf m9) n (a9 + (evW (Bq (mbf m9) n a9)))) 1 9))) (nI (numA (mbf m9) n (a9 + (evW (Bq (mbf m9) n a9))) (evW (Bq (mbf m9) n a9))))) (upd (upd (mrd m9) (3 * r) (nI (Bq (mbf m9) n a9))) ((3 * r) + 1) (numV (mbf m9) n (a9 + (evW (Bq (mbf m9) n a9))) (evW (Bq (mbf m9) n a9))))))) hx hb hE hP hD hS 5 rfl ((3 * r) + 1) rfl (by omega) (by decide) rfl dX4_readsEvent_102 (fun H locs hP hD hS => ?_)
        refine lv_goto (tgt := 144) hx hb dX4_readsEvent_103 (by decide) ?_
        have hf44 : (figW (evW (Bq (mbf m9) n a9)) (Bq (mbf m9) n (a9 + (evW (Bq (mbf m9) n a9)))) 1 9) < 2 := None
        refine lv_iload_n hx hb dX4_readsEvent_144 rfl (lv_at hl 0 rfl) ?_
        refine lv_bipush (v := (nI 99)) hx hb dX4_readsEvent_145 (by decide) ?_
        refine k_eqN (tgt := 162) hx hb (Bq_lt31 hbf _) (by decide) dX4_readsEvent_147 (by decide) (fun c45 => ?_) (fun c45 => ?_)
        ·
          exact absurd c45 (by omega)
        ·
          refine lv_iload_n hx hb dX4_readsEvent_150 rfl (lv_at hl 0 rfl) ?_
          refine lv_bipush (v := (nI 108)) hx hb dX4_readsEvent_151 (by decide) ?_
          refine k_eqN (tgt := 162) hx hb (Bq_lt31 hbf _) (by decide) dX4_readsEvent_153 (by decide) (fun c46 => ?_) (fun c46 => ?_)
          ·
            refine lv_aload_n hx hb dX4_readsEvent_162 rfl (lv_at hl 2 rfl) ?_
            refine va_get (D := g.1) (ci := 4) (v := .ref (a 5)) (C := RX4) (T := TX4) (N := 12) hx hb hts hiX4 hown hE.1 hP 0 rfl rfl 9 (by decide) f22 (fun _ h9 => h9) rfl dX4_readsEvent_163 ?_
            refine lv_iload_n hx hb dX4_readsEvent_166 rfl (lv_at hl 1 rfl) ?_
            refine lv_iconst (v := (nI 2)) hx hb dX4_readsEvent_167 (by decide) ?_
            refine lv_iadd hx hb dX4_readsEvent_168 ?_
            refine k_top (nI_add _ _) ?_
            refine lv_aload_n hx hb dX4_readsEvent_169 rfl (lv_at hl 2 rfl) ?_
            refine lv_iconst (v := (nI 0)) hx hb dX4_readsEvent_170 (by decide) ?_
            refine lv_iconst (v := (nI 5)) hx hb dX4_readsEvent_171 (by decide) ?_
            refine k_Vi (As := [.int (nI 0), .int (nI 5)]) (r := ((nI (Bq (mbf m9) n (numA (mbf m9) n (a9 + (evW (Bq (mbf m9) n a9))) (evW (Bq (mbf m9) n a9))))) - (nI 48))) hF (c_X4_figure l g a (sMrd (sMat (sMiw m9 (nI (figW (evW (Bq (mbf m9) n a9)) (Bq (mbf m9) n (a9 + (evW (Bq (mbf m9) n a9)))) 1 9))) (nI (numA (mbf m9) n (a9 + (evW (Bq (mbf m9) n a9))) (evW (Bq (mbf m9) n a9))))) (upd (upd (mrd m9) (3 * r) (nI (Bq (mbf m9) n a9))) ((3 * r) + 1) (numV (mbf m9) n (a9 + (evW (Bq (mbf m9) n a9))) (evW (Bq (mbf m9) n a9))))) n (numA (mbf m9) n (a9 + (evW (Bq (mbf m9) n a9))) (evW (Bq (mbf m9) n a9))) hn hln rfl (by omega) hbf (figW (evW (Bq (mbf m9) n a9)) (Bq (mbf m9) n (a9 + (evW (Bq (mbf m9) n a9)))) 1 9) rfl 0 (by decide) 5 (by decide)) (cwV 2 hts gX4_readsEvent_X4_figure rfl rfl rfl (by decide +kernel) ⟨Nat.le_of_ble_eq_true rfl, Nat.le_of_ble_eq_true rfl⟩) hE hP hD hS hA (k_pall _) ((k_pall _).symm) 0 rfl rfl rfl rfl hl.1 rfl (Nat.le_of_ble_eq_true rfl) dX4_readsEvent_172 ⟨Nat.le_of_ble_eq_true rfl, Nat.le_of_ble_eq_true rfl⟩ (fun H locs hP hD hS => ?_)
            have hP : va_P g.1 vwCl (wM g a (sMat (sMiw (sMrd m9 (upd (upd (mrd m9) (3 * r) (nI (Bq (mbf m9) n a9))) ((3 * r) + 1) (numV (mbf m9) n (a9 + (evW (Bq (mbf m9) n a9))) (evW (Bq (mbf m9) n a9))))) (nI (figW (figW (evW (Bq (mbf m9) n a9)) (Bq (mbf m9) n (a9 + (evW (Bq (mbf m9) n a9)))) 1 9) (Bq (mbf m9) n (numA (mbf m9) n (a9 + (evW (Bq (mbf m9) n a9))) (evW (Bq (mbf m9) n a9)))) 0 5))) (nI ((numA (mbf m9) n (a9 + (evW (Bq (mbf m9) n a9))) (evW (Bq (mbf m9) n a9))) + (figW (figW (evW (Bq (mbf m9) n a9)) (Bq (mbf m9) n (a9 + (evW (Bq (mbf m9) n a9)))) 1 9) (Bq (mbf m9) n (numA (mbf m9) n (a9 + (evW (Bq (mbf m9) n a9))) (evW (Bq (mbf m9) n a9)))) 0 5))))) _ := hP
            have hD : va_D A (wM g a (sMat (sMiw (sMrd m9 (upd (upd (mrd m9) (3 * r) (nI (Bq (mbf m9) n a9))) ((3 * r) + 1) (numV (mbf m9) n (a9 + (evW (Bq (mbf m9) n a9))) (evW (Bq (mbf m9) n a9))))) (nI (figW (figW (evW (Bq (mbf m9) n a9)) (Bq (mbf m9) n (a9 + (evW (Bq (mbf m9) n a9)))) 1 9) (Bq (mbf m9) n (numA (mbf m9) n (a9 + (evW (Bq (mbf m9) n a9))) (evW (Bq (mbf m9) n a9)))) 0 5))) (nI ((numA (mbf m9) n (a9 + (evW (Bq (mbf m9) n a9))) (evW (Bq (mbf m9) n a9))) + (figW (figW (evW (Bq (mbf m9) n a9)) (Bq (mbf m9) n (a9 + (evW (Bq (mbf m9) n a9)))) 1 9) (Bq (mbf m9) n (numA (mbf m9) n (a9 + (evW (Bq (mbf m9) n a9))) (evW (Bq (mbf m9) n a9)))) 0 5))))) := hD
            refine k_iast (f := (upd (upd (mrd m9) (3 * r) (nI (Bq (mbf m9) n a9))) ((3 * r) + 1) (numV (mbf m9) n (a9 + (evW (Bq (mbf m9) n a9))) (evW (Bq (mbf m9) n a9))))) (ws1 := (wM g a (sMrd (sMat (sMiw m9 (nI (figW (figW (evW (Bq (mbf m9) n a9)) (Bq (mbf m9) n (a9 + (evW (Bq (mbf m9) n a9)))) 1 9) (Bq (mbf m9) n (numA (mbf m9) n (a9 + (evW (Bq (mbf m9) n a9))) (evW (Bq (mbf m9) n a9)))) 0 5))) (nI ((numA (mbf m9) n (a9 + (evW (Bq (mbf m9) n a9))) (evW (Bq (mbf m9) n a9))) + (figW (figW (evW (Bq (mbf m9) n a9)) (Bq (mbf m9) n (a9 + (evW (Bq (mbf m9) n a9)))) 1 9) (Bq (mbf m9) n (numA (mbf m9) n (a9 + (evW (Bq (mbf m9) n a9))) (evW (Bq (mbf m9) n a9)))) 0 5)))) (upd (upd (upd (mrd m9) (3 * r) (nI (Bq (mbf m9) n a9))) ((3 * r) + 1) (numV (mbf m9) n (a9 + (evW (Bq (mbf m9) n a9))) (evW (Bq (mbf m9) n a9)))) ((3 * r) + 2) ((nI (Bq (mbf m9) n (numA (mbf m9) n (a9 + (evW (Bq (mbf m9) n a9))) (evW (Bq (mbf m9) n a9))))) - (nI 48)))))) hx hb hE hP hD hS 5 rfl ((3 * r) + 2) rfl (by omega) (by decide) rfl dX4_readsEvent_175 (fun H locs hP hD hS => ?_)
            have hf47 : (figW (figW (evW (Bq (mbf m9) n a9)) (Bq (mbf m9) n (a9 + (evW (Bq (mbf m9) n a9)))) 1 9) (Bq (mbf m9) n (numA (mbf m9) n (a9 + (evW (Bq (mbf m9) n a9))) (evW (Bq (mbf m9) n a9)))) 0 5) < 2 := None
            refine lv_aload_n hx hb dX4_readsEvent_176 rfl (lv_at hl 2 rfl) ?_
            refine lv_dup hx hb dX4_readsEvent_177 rfl ?_
            refine va_get (D := g.1) (ci := 4) (v := .int (mrm m9)) (C := RX4) (T := TX4) (N := 12) hx hb hts hiX4 hown hE.1 hP 0 rfl rfl 10 (by decide) f129 (fun _ h9 => h9) rfl dX4_readsEvent_178 ?_
            refine k_top hrm ?_
            refine lv_aload_n hx hb dX4_readsEvent_181 rfl (lv_at hl 2 rfl) ?_
            refine va_get (D := g.1) (ci := 4) (v := .int (nI (figW (figW (evW (Bq (mbf m9) n a9)) (Bq (mbf m9) n (a9 + (evW (Bq (mbf m9) n a9)))) 1 9) (Bq (mbf m9) n (numA (mbf m9) n (a9 + (evW (Bq (mbf m9) n a9))) (evW (Bq (mbf m9) n a9)))) 0 5))) (C := RX4) (T := TX4) (N := 12) hx hb hts hiX4 hown hE.1 hP 0 rfl rfl 8 (by decide) f119 (fun _ h9 => h9) rfl dX4_readsEvent_182 ?_
            refine k_meet (x := .int (nI (figW (figW (evW (Bq (mbf m9) n a9)) (Bq (mbf m9) n (a9 + (evW (Bq (mbf m9) n a9)))) 1 9) (Bq (mbf m9) n (numA (mbf m9) n (a9 + (evW (Bq (mbf m9) n a9))) (evW (Bq (mbf m9) n a9)))) 0 5))) (pj := 193) (rest := [.int (nI r), .ref (a 0)]) (fun J48 => ?_) ?_
            ·
              refine k_if0 (tgt := 192) hx hb (figW_lt31 _ _ _ _) dX4_readsEvent_185 (by decide) (fun c49 => ?_) (fun c49 => ?_)
              ·
                refine lv_iconst (v := (nI 0)) hx hb dX4_readsEvent_192 (by decide) ?_
                exact k_top (congrArg nI (by have h8 : figW (figW (evW (Bq (mbf m9) n a9)) (Bq (mbf m9) n (a9 + (evW (Bq (mbf m9) n a9)))) 1 9) (Bq (mbf m9) n (numA (mbf m9) n (a9 + (evW (Bq (mbf m9) n a9))) (evW (Bq (mbf m9) n a9)))) 0 5 < 2 := (figW_lt _ _ _ _); omega)) J48
              ·
                refine lv_iconst (v := (nI 1)) hx hb dX4_readsEvent_188 (by decide) ?_
                refine lv_goto (tgt := 193) hx hb dX4_readsEvent_189 (by decide) ?_
                exact k_top (congrArg nI (by have h8 : figW (figW (evW (Bq (mbf m9) n a9)) (Bq (mbf m9) n (a9 + (evW (Bq (mbf m9) n a9)))) 1 9) (Bq (mbf m9) n (numA (mbf m9) n (a9 + (evW (Bq (mbf m9) n a9))) (evW (Bq (mbf m9) n a9)))) 0 5 < 2 := (figW_lt _ _ _ _); omega)) J48
            ·
              refine lv_iadd hx hb dX4_readsEvent_193 ?_
              refine k_top (nI_add _ _) ?_
              refine va_put (D := g.1) (ci := 4) (v := .int (nI (r + (figW (figW (evW (Bq (mbf m9) n a9)) (Bq (mbf m9) n (a9 + (evW (Bq (mbf m9) n a9)))) 1 9) (Bq (mbf m9) n (numA (mbf m9) n (a9 + (evW (Bq (mbf m9) n a9))) (evW (Bq (mbf m9) n a9)))) 0 5)))) (ty := .int) (C := RX4) (T := TX4) (N := 12) hx hb hts hiX4 tyX4 tyX4_ok nmX4 hown hE.1 hP hD hS 0 rfl rfl 10 (by decide) f129 (fun _ h9 => h9) rfl (tyX4_ok 10 (by decide)) rfl rfl (Nat.le_of_ble_eq_true rfl) dX4_readsEvent_194 (fun H locs hP hD hS => ?_)
              have hP : va_P g.1 vwCl (wM g a (sMrm (sMrd (sMat (sMiw m9 (nI (figW (figW (evW (Bq (mbf m9) n a9)) (Bq (mbf m9) n (a9 + (evW (Bq (mbf m9) n a9)))) 1 9) (Bq (mbf m9) n (numA (mbf m9) n (a9 + (evW (Bq (mbf m9) n a9))) (evW (Bq (mbf m9) n a9)))) 0 5))) (nI ((numA (mbf m9) n (a9 + (evW (Bq (mbf m9) n a9))) (evW (Bq (mbf m9) n a9))) + (figW (figW (evW (Bq (mbf m9) n a9)) (Bq (mbf m9) n (a9 + (evW (Bq (mbf m9) n a9)))) 1 9) (Bq (mbf m9) n (numA (mbf m9) n (a9 + (evW (Bq (mbf m9) n a9))) (evW (Bq (mbf m9) n a9)))) 0 5)))) (upd (upd (upd (mrd m9) (3 * r) (nI (Bq (mbf m9) n a9))) ((3 * r) + 1) (numV (mbf m9) n (a9 + (evW (Bq (mbf m9) n a9))) (evW (Bq (mbf m9) n a9)))) ((3 * r) + 2) ((nI (Bq (mbf m9) n (numA (mbf m9) n (a9 + (evW (Bq (mbf m9) n a9))) (evW (Bq (mbf m9) n a9))))) - (nI 48)))) (nI (r + (figW (figW (evW (Bq (mbf m9) n a9)) (Bq (mbf m9) n (a9 + (evW (Bq (mbf m9) n a9)))) 1 9) (Bq (mbf m9) n (numA (mbf m9) n (a9 + (evW (Bq (mbf m9) n a9))) (evW (Bq (mbf m9) n a9)))) 0 5))))) _ := hP
              have hD : va_D A (wM g a (sMrm (sMrd (sMat (sMiw m9 (nI (figW (figW (evW (Bq (mbf m9) n a9)) (Bq (mbf m9) n (a9 + (evW (Bq (mbf m9) n a9)))) 1 9) (Bq (mbf m9) n (numA (mbf m9) n (a9 + (evW (Bq (mbf m9) n a9))) (evW (Bq (mbf m9) n a9)))) 0 5))) (nI ((numA (mbf m9) n (a9 + (evW (Bq (mbf m9) n a9))) (evW (Bq (mbf m9) n a9))) + (figW (figW (evW (Bq (mbf m9) n a9)) (Bq (mbf m9) n (a9 + (evW (Bq (mbf m9) n a9)))) 1 9) (Bq (mbf m9) n (numA (mbf m9) n (a9 + (evW (Bq (mbf m9) n a9))) (evW (Bq (mbf m9) n a9)))) 0 5)))) (upd (upd (upd (mrd m9) (3 * r) (nI (Bq (mbf m9) n a9))) ((3 * r) + 1) (numV (mbf m9) n (a9 + (evW (Bq (mbf m9) n a9))) (evW (Bq (mbf m9) n a9)))) ((3 * r) + 2) ((nI (Bq (mbf m9) n (numA (mbf m9) n (a9 + (evW (Bq (mbf m9) n a9))) (evW (Bq (mbf m9) n a9))))) - (nI 48)))) (nI (r + (figW (figW (evW (Bq (mbf m9) n a9)) (Bq (mbf m9) n (a9 + (evW (Bq (mbf m9) n a9)))) 1 9) (Bq (mbf m9) n (numA (mbf m9) n (a9 + (evW (Bq (mbf m9) n a9))) (evW (Bq (mbf m9) n a9)))) 0 5))))) := hD
              have e50 : (MR m9 (rEv (mbf m9) n a9 r (mrd m9))) = (sMrm (sMrd (sMat (sMiw m9 (nI (figW (figW (evW (Bq (mbf m9) n a9)) (Bq (mbf m9) n (a9 + (evW (Bq (mbf m9) n a9)))) 1 9) (Bq (mbf m9) n (numA (mbf m9) n (a9 + (evW (Bq (mbf m9) n a9))) (evW (Bq (mbf m9) n a9)))) 0 5))) (nI ((numA (mbf m9) n (a9 + (evW (Bq (mbf m9) n a9))) (evW (Bq (mbf m9) n a9))) + (figW (figW (evW (Bq (mbf m9) n a9)) (Bq (mbf m9) n (a9 + (evW (Bq (mbf m9) n a9)))) 1 9) (Bq (mbf m9) n (numA (mbf m9) n (a9 + (evW (Bq (mbf m9) n a9))) (evW (Bq (mbf m9) n a9)))) 0 5)))) (upd (upd (upd (mrd m9) (3 * r) (nI (Bq (mbf m9) n a9))) ((3 * r) + 1) (numV (mbf m9) n (a9 + (evW (Bq (mbf m9) n a9))) (evW (Bq (mbf m9) n a9)))) ((3 * r) + 2) ((nI (Bq (mbf m9) n (numA (mbf m9) n (a9 + (evW (Bq (mbf m9) n a9))) (evW (Bq (mbf m9) n a9))))) - (nI 48)))) (nI (r + (figW (figW (evW (Bq (mbf m9) n a9)) (Bq (mbf m9) n (a9 + (evW (Bq (mbf m9) n a9)))) 1 9) (Bq (mbf m9) n (numA (mbf m9) n (a9 + (evW (Bq (mbf m9) n a9))) (evW (Bq (mbf m9) n a9)))) 0 5)))) := (by first | (simp only [rEv, rT, rO, rC, rC2, MR, if_pos c10, if_neg (not_not_intro c10), if_neg c45, if_pos c45, if_pos c46, if_neg (not_not_intro c46)]; done) | (simp only [rEv, rT, rO, rC, rC2, MR, if_pos c10, if_neg (not_not_intro c10), if_neg c45, if_pos c45, if_pos c46, if_neg (not_not_intro c46)]; rfl) | rfl | (simp [rEv, rT, rO, rC, rC2, MR, if_pos c10, if_neg (not_not_intro c10), if_neg c45, if_pos c45, if_pos c46, if_neg (not_not_intro c46)]; done))
              have hP : va_P g.1 vwCl (wM g a (MR m9 (rEv (mbf m9) n a9 r (mrd m9)))) H := by rw [e50]; exact hP
              have hD : va_D A (wM g a (MR m9 (rEv (mbf m9) n a9 r (mrd m9)))) := by rw [e50]; exact hD
              exact k_vret hx hb hr hlocks hP hD hS (Nat.le_of_ble_eq_true rfl) (Nat.le_of_ble_eq_true rfl) dX4_readsEvent_197
          ·
            refine lv_iload_n hx hb dX4_readsEvent_156 rfl (lv_at hl 0 rfl) ?_
            refine lv_bipush (v := (nI 115)) hx hb dX4_readsEvent_157 (by decide) ?_
            refine k_neN (tgt := 176) hx hb (Bq_lt31 hbf _) (by decide) dX4_readsEvent_159 (by decide) (fun c51 => ?_) (fun c51 => ?_)
            ·
              have hf52 : (figW (evW (Bq (mbf m9) n a9)) (Bq (mbf m9) n (a9 + (evW (Bq (mbf m9) n a9)))) 1 9) < 2 := None
              refine lv_aload_n hx hb dX4_readsEvent_176 rfl (lv_at hl 2 rfl) ?_
              refine lv_dup hx hb dX4_readsEvent_177 rfl ?_
              refine va_get (D := g.1) (ci := 4) (v := .int (mrm m9)) (C := RX4) (T := TX4) (N := 12) hx hb hts hiX4 hown hE.1 hP 0 rfl rfl 10 (by decide) f129 (fun _ h9 => h9) rfl dX4_readsEvent_178 ?_
              refine k_top hrm ?_
              refine lv_aload_n hx hb dX4_readsEvent_181 rfl (lv_at hl 2 rfl) ?_
              refine va_get (D := g.1) (ci := 4) (v := .int (nI (figW (evW (Bq (mbf m9) n a9)) (Bq (mbf m9) n (a9 + (evW (Bq (mbf m9) n a9)))) 1 9))) (C := RX4) (T := TX4) (N := 12) hx hb hts hiX4 hown hE.1 hP 0 rfl rfl 8 (by decide) f119 (fun _ h9 => h9) rfl dX4_readsEvent_182 ?_
              refine k_meet (x := .int (nI (figW (evW (Bq (mbf m9) n a9)) (Bq (mbf m9) n (a9 + (evW (Bq (mbf m9) n a9)))) 1 9))) (pj := 193) (rest := [.int (nI r), .ref (a 0)]) (fun J53 => ?_) ?_
              ·
                refine k_if0 (tgt := 192) hx hb (figW_lt31 _ _ _ _) dX4_readsEvent_185 (by decide) (fun c54 => ?_) (fun c54 => ?_)
                ·
                  refine lv_iconst (v := (nI 0)) hx hb dX4_readsEvent_192 (by decide) ?_
                  exact k_top (congrArg nI (by have h8 : figW (evW (Bq (mbf m9) n a9)) (Bq (mbf m9) n (a9 + (evW (Bq (mbf m9) n a9)))) 1 9 < 2 := (figW_lt _ _ _ _); omega)) J53
                ·
                  refine lv_iconst (v := (nI 1)) hx hb dX4_readsEvent_188 (by decide) ?_
                  refine lv_goto (tgt := 193) hx hb dX4_readsEvent_189 (by decide) ?_
                  exact k_top (congrArg nI (by have h8 : figW (evW (Bq (mbf m9) n a9)) (Bq (mbf m9) n (a9 + (evW (Bq (mbf m9) n a9)))) 1 9 < 2 := (figW_lt _ _ _ _); omega)) J53
              ·
                refine lv_iadd hx hb dX4_readsEvent_193 ?_
                refine k_top (nI_add _ _) ?_
                refine va_put (D := g.1) (ci := 4) (v := .int (nI (r + (figW (evW (Bq (mbf m9) n a9)) (Bq (mbf m9) n (a9 + (evW (Bq (mbf m9) n a9)))) 1 9)))) (ty := .int) (C := RX4) (T := TX4) (N := 12) hx hb hts hiX4 tyX4 tyX4_ok nmX4 hown hE.1 hP hD hS 0 rfl rfl 10 (by decide) f129 (fun _ h9 => h9) rfl (tyX4_ok 10 (by decide)) rfl rfl (Nat.le_of_ble_eq_true rfl) dX4_readsEvent_194 (fun H locs hP hD hS => ?_)
                have hP : va_P g.1 vwCl (wM g a (sMrm (sMrd (sMat (sMiw m9 (nI (figW (evW (Bq (mbf m9) n a9)) (Bq (mbf m9) n (a9 + (evW (Bq (mbf m9) n a9)))) 1 9))) (nI (numA (mbf m9) n (a9 + (evW (Bq (mbf m9) n a9))) (evW (Bq (mbf m9) n a9))))) (upd (upd (mrd m9) (3 * r) (nI (Bq (mbf m9) n a9))) ((3 * r) + 1) (numV (mbf m9) n (a9 + (evW (Bq (mbf m9) n a9))) (evW (Bq (mbf m9) n a9))))) (nI (r + (figW (evW (Bq (mbf m9) n a9)) (Bq (mbf m9) n (a9 + (evW (Bq (mbf m9) n a9)))) 1 9))))) _ := hP
                have hD : va_D A (wM g a (sMrm (sMrd (sMat (sMiw m9 (nI (figW (evW (Bq (mbf m9) n a9)) (Bq (mbf m9) n (a9 + (evW (Bq (mbf m9) n a9)))) 1 9))) (nI (numA (mbf m9) n (a9 + (evW (Bq (mbf m9) n a9))) (evW (Bq (mbf m9) n a9))))) (upd (upd (mrd m9) (3 * r) (nI (Bq (mbf m9) n a9))) ((3 * r) + 1) (numV (mbf m9) n (a9 + (evW (Bq (mbf m9) n a9))) (evW (Bq (mbf m9) n a9))))) (nI (r + (figW (evW (Bq (mbf m9) n a9)) (Bq (mbf m9) n (a9 + (evW (Bq (mbf m9) n a9)))) 1 9))))) := hD
                have e55 : (MR m9 (rEv (mbf m9) n a9 r (mrd m9))) = (sMrm (sMrd (sMat (sMiw m9 (nI (figW (evW (Bq (mbf m9) n a9)) (Bq (mbf m9) n (a9 + (evW (Bq (mbf m9) n a9)))) 1 9))) (nI (numA (mbf m9) n (a9 + (evW (Bq (mbf m9) n a9))) (evW (Bq (mbf m9) n a9))))) (upd (upd (mrd m9) (3 * r) (nI (Bq (mbf m9) n a9))) ((3 * r) + 1) (numV (mbf m9) n (a9 + (evW (Bq (mbf m9) n a9))) (evW (Bq (mbf m9) n a9))))) (nI (r + (figW (evW (Bq (mbf m9) n a9)) (Bq (mbf m9) n (a9 + (evW (Bq (mbf m9) n a9)))) 1 9)))) := (by first | (simp only [rEv, rT, rO, rC, rC2, MR, if_pos c10, if_neg (not_not_intro c10), if_neg c45, if_pos c45, if_neg c46, if_pos c46, if_neg c51, if_pos c51]; done) | (simp only [rEv, rT, rO, rC, rC2, MR, if_pos c10, if_neg (not_not_intro c10), if_neg c45, if_pos c45, if_neg c46, if_pos c46, if_neg c51, if_pos c51]; rfl) | rfl | (simp [rEv, rT, rO, rC, rC2, MR, if_pos c10, if_neg (not_not_intro c10), if_neg c45, if_pos c45, if_neg c46, if_pos c46, if_neg c51, if_pos c51]; done))
                have hP : va_P g.1 vwCl (wM g a (MR m9 (rEv (mbf m9) n a9 r (mrd m9)))) H := by rw [e55]; exact hP
                have hD : va_D A (wM g a (MR m9 (rEv (mbf m9) n a9 r (mrd m9)))) := by rw [e55]; exact hD
                exact k_vret hx hb hr hlocks hP hD hS (Nat.le_of_ble_eq_true rfl) (Nat.le_of_ble_eq_true rfl) dX4_readsEvent_197
            ·
              exact absurd c51 (by omega)
set_option maxHeartbeats 4000000 in
set_option maxRecDepth 100000 in
theorem c_X4_reads (l : Launch) (g : kG) (a : Nat → Nat) (m9 : MSt) (n : Nat) (hn : n ≤ 60) (hln : mln m9 = nI n) (hbf : Tok (mbf m9) n) : KI l yX4_reads wsX4_reads ({ frames := 4, cells := 0, slots := 0, locals := 88 }) g [.ref (a 0)] (wM g a m9) (nI ((rFin (mbf m9) n (mrd m9)).2.1)) (wM g a (MR m9 (rFin (mbf m9) n (mrd m9)))) 0 0 := by
  refine k_begin (cc := cX4_reads) (maxL := 1) (ret := (some .boolean)) (Qc := fun A => kQi g (nI ((rFin (mbf m9) n (mrd m9)).2.1)) (wM g a (MR m9 (rFin (mbf m9) n (mrd m9)))) A) (by decide) rfl (Nat.le_of_ble_eq_true rfl) ?_
  intro p e s m below meth c A ls hF hr hlocks hin hE hP hD hS hA hl
  obtain ⟨hx, hb, hml, hown, hts⟩ := id hF
  have hown : s.vm.findClass RX4 = some m.cls := hown
  have hl : lv_has ls 1 [(0, .ref (a 0))] := hl
  have hiX4 : ∀ w ∈ wsX40, w ∈ wsX4_reads := fun _ h => List.mem_cons_of_mem _ (List.mem_append_right _ (h))
  have f116 : (Cond.fieldLink RX4 116 "ConcertUsherModel" "at" "I").before _ s = true := hts _ (List.mem_of_getElem? (i := 1) rfl)
  have f129 : (Cond.fieldLink RX4 129 "ConcertUsherModel" "readMany" "I").before _ s = true := hts _ (List.mem_of_getElem? (i := 2) rfl)
  have f119 : (Cond.fieldLink RX4 119 "ConcertUsherModel" "isWell" "Z").before _ s = true := hts _ (List.mem_of_getElem? (i := 3) rfl)
  have f113 : (Cond.fieldLink RX4 113 "ConcertUsherModel" "length" "I").before _ s = true := hts _ (List.mem_of_getElem? (i := 4) rfl)
  refine lv_aload_n hx hb dX4_reads_0 rfl (lv_at hl 0 rfl) ?_
  refine lv_iconst (v := (nI 0)) hx hb dX4_reads_1 (by decide) ?_
  refine va_put (D := g.1) (ci := 4) (v := .int (nI 0)) (ty := .int) (C := RX4) (T := TX4) (N := 12) hx hb hts hiX4 tyX4 tyX4_ok nmX4 hown hE.1 hP hD hS 0 rfl rfl 7 (by decide) f116 (fun _ h9 => h9) rfl (tyX4_ok 7 (by decide)) rfl rfl (Nat.le_of_ble_eq_true rfl) dX4_reads_2 (fun H locs hP hD hS => ?_)
  have hP : va_P g.1 vwCl (wM g a (sMat m9 (nI 0))) _ := hP
  have hD : va_D A (wM g a (sMat m9 (nI 0))) := hD
  refine lv_aload_n hx hb dX4_reads_5 rfl (lv_at hl 0 rfl) ?_
  refine lv_iconst (v := (nI 0)) hx hb dX4_reads_6 (by decide) ?_
  refine va_put (D := g.1) (ci := 4) (v := .int (nI 0)) (ty := .int) (C := RX4) (T := TX4) (N := 12) hx hb hts hiX4 tyX4 tyX4_ok nmX4 hown hE.1 hP hD hS 0 rfl rfl 10 (by decide) f129 (fun _ h9 => h9) rfl (tyX4_ok 10 (by decide)) rfl rfl (Nat.le_of_ble_eq_true rfl) dX4_reads_7 (fun H locs hP hD hS => ?_)
  have hP : va_P g.1 vwCl (wM g a (sMrm (sMat m9 (nI 0)) (nI 0))) _ := hP
  have hD : va_D A (wM g a (sMrm (sMat m9 (nI 0)) (nI 0))) := hD
  refine lv_aload_n hx hb dX4_reads_10 rfl (lv_at hl 0 rfl) ?_
  refine k_Vv (As := []) hF (c_X4_readsEvent l g a (sMrm (sMat m9 (nI 0)) (nI 0)) n 0 hn hln rfl (by omega) hbf (by omega) 0 rfl (by omega)) (cwV 0 hts gX4_reads_X4_readsEvent rfl rfl rfl (by decide +kernel) ⟨Nat.le_of_ble_eq_true rfl, Nat.le_of_ble_eq_true rfl⟩) hE hP hD hS hA (k_pall _) ((k_pall _).symm) 0 rfl rfl rfl rfl hl.1 rfl (Nat.le_of_ble_eq_true rfl) dX4_reads_11 ⟨Nat.le_of_ble_eq_true rfl, Nat.le_of_ble_eq_true rfl⟩ (fun H locs hP hD hS => ?_)
  have hP : va_P g.1 vwCl (wM g a (sMrm (sMrd (sMat (sMiw m9 (nI (rEv (mbf m9) n 0 0 (mrd m9)).2.1)) (nI (rEv (mbf m9) n 0 0 (mrd m9)).1)) ((rEv (mbf m9) n 0 0 (mrd m9)).2.2.2)) (nI (rEv (mbf m9) n 0 0 (mrd m9)).2.2.1))) _ := hP
  have hD : va_D A (wM g a (sMrm (sMrd (sMat (sMiw m9 (nI (rEv (mbf m9) n 0 0 (mrd m9)).2.1)) (nI (rEv (mbf m9) n 0 0 (mrd m9)).1)) ((rEv (mbf m9) n 0 0 (mrd m9)).2.2.2)) (nI (rEv (mbf m9) n 0 0 (mrd m9)).2.2.1))) := hD
  refine k_loop (N := 100) (Inv := fun (i : Nat) (H : Heap) (locs : List Loc) (ls : Array Slot) => va_P g.1 vwCl (wM g a (sMrm (sMrd (sMat (sMiw m9 (nI (rS (mbf m9) n (mrd m9) i).2.1)) (nI (rS (mbf m9) n (mrd m9) i).1)) ((rS (mbf m9) n (mrd m9) i).2.2.2)) (nI (rS (mbf m9) n (mrd m9) i).2.2.1))) H ∧ va_D A (wM g a (sMrm (sMrd (sMat (sMiw m9 (nI (rS (mbf m9) n (mrd m9) i).2.1)) (nI (rS (mbf m9) n (mrd m9) i).1)) ((rS (mbf m9) n (mrd m9) i).2.2.2)) (nI (rS (mbf m9) n (mrd m9) i).2.2.1))) ∧ va_S A s.heap H locs ∧ lv_has ls 1 [(0, .ref (a 0))] ∧ (rdEnd (mbf m9) n (mrd m9) 0 100 = rdEnd (mbf m9) n (mrd m9) i (100 - i) ∧ rOK n (rS (mbf m9) n (mrd m9) i) i)) 0 (Nat.zero_le _) ⟨hP, hD, hS, lv_sub hl [0] rfl, ⟨rfl, rOK_0 hbf (mrd m9)⟩⟩ (fun i hle2 ih1 H locs ls hinv => ?_)
  obtain ⟨hP, hD, hS, hl, hR⟩ := hinv
  refine lv_aload_n hx hb dX4_reads_14 rfl (lv_at hl 0 rfl) ?_
  refine va_get (D := g.1) (ci := 4) (v := .int (nI (rS (mbf m9) n (mrd m9) i).2.1)) (C := RX4) (T := TX4) (N := 12) hx hb hts hiX4 hown hE.1 hP 0 rfl rfl 8 (by decide) f119 (fun _ h9 => h9) rfl dX4_reads_15 ?_
  refine k_if0 (tgt := 85) hx hb (Nat.lt_of_lt_of_le hR.2.1 (by decide)) dX4_reads_18 (by decide) (fun c3 => ?_) (fun c3 => ?_)
  ·
    have hF : (rFin (mbf m9) n (mrd m9)) = (rS (mbf m9) n (mrd m9) i) := by unfold rFin; rw [hR.1, rdEnd_go (rOK_lt hn hR.2), if_neg (fun z => z.1 c3)]
    refine lv_aload_n hx hb dX4_reads_85 rfl (lv_at hl 0 rfl) ?_
    refine va_get (D := g.1) (ci := 4) (v := .int (nI (rS (mbf m9) n (mrd m9) i).2.1)) (C := RX4) (T := TX4) (N := 12) hx hb hts hiX4 hown hE.1 hP 0 rfl rfl 8 (by decide) f119 (fun _ h9 => h9) rfl dX4_reads_86 ?_
    have e4 : (MR m9 (rFin (mbf m9) n (mrd m9))) = (sMrm (sMrd (sMat (sMiw m9 (nI (rS (mbf m9) n (mrd m9) i).2.1)) (nI (rS (mbf m9) n (mrd m9) i).1)) ((rS (mbf m9) n (mrd m9) i).2.2.2)) (nI (rS (mbf m9) n (mrd m9) i).2.2.1)) := (by first | (simp only [MR, if_pos c3, if_neg (not_not_intro c3), hF]; done) | (simp only [MR, if_pos c3, if_neg (not_not_intro c3), hF]; rfl) | rfl | (simp [MR, if_pos c3, if_neg (not_not_intro c3), hF]; done))
    have hP : va_P g.1 vwCl (wM g a (MR m9 (rFin (mbf m9) n (mrd m9)))) H := by rw [e4]; exact hP
    have hD : va_D A (wM g a (MR m9 (rFin (mbf m9) n (mrd m9)))) := by rw [e4]; exact hD
    exact k_iret hx hb hr hlocks (bo_nar (k_b2 (rFin_lt hn hbf (mrd m9)).1)) (by first | (simp only [MR, bI, if_pos c3, if_neg (not_not_intro c3), hF]; done) | (simp only [MR, bI, if_pos c3, if_neg (not_not_intro c3), hF]; rfl) | rfl | (simp [MR, bI, if_pos c3, if_neg (not_not_intro c3), hF]; done)) hP hD hS (Nat.le_of_ble_eq_true rfl) (Nat.le_of_ble_eq_true rfl) dX4_reads_89
  ·
    refine lv_aload_n hx hb dX4_reads_21 rfl (lv_at hl 0 rfl) ?_
    refine va_get (D := g.1) (ci := 4) (v := .int (nI (rS (mbf m9) n (mrd m9) i).1)) (C := RX4) (T := TX4) (N := 12) hx hb hts hiX4 hown hE.1 hP 0 rfl rfl 7 (by decide) f116 (fun _ h9 => h9) rfl dX4_reads_22 ?_
    refine lv_aload_n hx hb dX4_reads_25 rfl (lv_at hl 0 rfl) ?_
    refine va_get (D := g.1) (ci := 4) (v := .int (mln m9)) (C := RX4) (T := TX4) (N := 12) hx hb hts hiX4 hown hE.1 hP 0 rfl rfl 6 (by decide) f113 (fun _ h9 => h9) rfl dX4_reads_26 ?_
    refine k_top hln ?_
    refine k_geN (tgt := 85) hx hb (Nat.lt_of_le_of_lt hR.2.2.1 (by omega)) (by omega) dX4_reads_29 (by decide) (fun c5 => ?_) (fun c5 => ?_)
    ·
      have hF : (rFin (mbf m9) n (mrd m9)) = (rS (mbf m9) n (mrd m9) i) := by unfold rFin; rw [hR.1, rdEnd_go (rOK_lt hn hR.2), if_neg (fun z => absurd z.2 (Nat.not_lt.mpr c5))]
      refine lv_aload_n hx hb dX4_reads_85 rfl (lv_at hl 0 rfl) ?_
      refine va_get (D := g.1) (ci := 4) (v := .int (nI (rS (mbf m9) n (mrd m9) i).2.1)) (C := RX4) (T := TX4) (N := 12) hx hb hts hiX4 hown hE.1 hP 0 rfl rfl 8 (by decide) f119 (fun _ h9 => h9) rfl dX4_reads_86 ?_
      have e6 : (MR m9 (rFin (mbf m9) n (mrd m9))) = (sMrm (sMrd (sMat (sMiw m9 (nI (rS (mbf m9) n (mrd m9) i).2.1)) (nI (rS (mbf m9) n (mrd m9) i).1)) ((rS (mbf m9) n (mrd m9) i).2.2.2)) (nI (rS (mbf m9) n (mrd m9) i).2.2.1)) := (by first | (simp only [MR, if_neg c3, if_pos c3, if_pos c5, if_neg (not_not_intro c5), hF]; done) | (simp only [MR, if_neg c3, if_pos c3, if_pos c5, if_neg (not_not_intro c5), hF]; rfl) | rfl | (simp [MR, if_neg c3, if_pos c3, if_pos c5, if_neg (not_not_intro c5), hF]; done))
      have hP : va_P g.1 vwCl (wM g a (MR m9 (rFin (mbf m9) n (mrd m9)))) H := by rw [e6]; exact hP
      have hD : va_D A (wM g a (MR m9 (rFin (mbf m9) n (mrd m9)))) := by rw [e6]; exact hD
      exact k_iret hx hb hr hlocks (bo_nar (k_b2 (rFin_lt hn hbf (mrd m9)).1)) (by first | (simp only [MR, bI, if_neg c3, if_pos c3, if_pos c5, if_neg (not_not_intro c5), hF]; done) | (simp only [MR, bI, if_neg c3, if_pos c3, if_pos c5, if_neg (not_not_intro c5), hF]; rfl) | rfl | (simp [MR, bI, if_neg c3, if_pos c3, if_pos c5, if_neg (not_not_intro c5), hF]; done)) hP hD hS (Nat.le_of_ble_eq_true rfl) (Nat.le_of_ble_eq_true rfl) dX4_reads_89
    ·
      have hR2 : (rS (mbf m9) n (mrd m9) i).1 ≤ n := hR.2.2.1
      have hR3 : 3 * (rS (mbf m9) n (mrd m9) i).2.2.1 ≤ (rS (mbf m9) n (mrd m9) i).1 + 1 := hR.2.2.2.1
      have hR1 : (rS (mbf m9) n (mrd m9) i).2.1 < 2 := hR.2.1
      have hlt9 : (rS (mbf m9) n (mrd m9) i).1 < n := by omega
      refine lv_aload_n hx hb dX4_reads_32 rfl (lv_at hl 0 rfl) ?_
      refine lv_aload_n hx hb dX4_reads_33 rfl (lv_at hl 0 rfl) ?_
      refine k_Vi (As := []) (r := (nI (Bq (mbf m9) n ((rS (mbf m9) n (mrd m9) i).1)))) hF (c_X4_sign l g a (sMrm (sMrd (sMat (sMiw m9 (nI (rS (mbf m9) n (mrd m9) i).2.1)) (nI (rS (mbf m9) n (mrd m9) i).1)) ((rS (mbf m9) n (mrd m9) i).2.2.2)) (nI (rS (mbf m9) n (mrd m9) i).2.2.1)) n ((rS (mbf m9) n (mrd m9) i).1) hn hln rfl (by omega) hbf) (cwV 0 hts gX4_reads_X4_sign rfl rfl rfl (by decide +kernel) ⟨Nat.le_of_ble_eq_true rfl, Nat.le_of_ble_eq_true rfl⟩) hE hP hD hS hA (k_pall _) ((k_pall _).symm) 0 rfl rfl rfl rfl hl.1 rfl (Nat.le_of_ble_eq_true rfl) dX4_reads_34 ⟨Nat.le_of_ble_eq_true rfl, Nat.le_of_ble_eq_true rfl⟩ (fun H locs hP hD hS => ?_)
      have hP : va_P g.1 vwCl (wM g a (sMrm (sMrd (sMat (sMiw m9 (nI (rS (mbf m9) n (mrd m9) i).2.1)) (nI (rS (mbf m9) n (mrd m9) i).1)) ((rS (mbf m9) n (mrd m9) i).2.2.2)) (nI (rS (mbf m9) n (mrd m9) i).2.2.1))) _ := hP
      have hD : va_D A (wM g a (sMrm (sMrd (sMat (sMiw m9 (nI (rS (mbf m9) n (mrd m9) i).2.1)) (nI (rS (mbf m9) n (mrd m9) i).1)) ((rS (mbf m9) n (mrd m9) i).2.2.2)) (nI (rS (mbf m9) n (mrd m9) i).2.2.1))) := hD
      refine k_meet (x := .int (nI (b01 (Bq (mbf m9) n ((rS (mbf m9) n (mrd m9) i).1) = 59)))) (pj := 47) (rest := [.ref (a 0)]) (fun J7 => ?_) ?_
      ·
        refine lv_bipush (v := (nI 59)) hx hb dX4_reads_37 (by decide) ?_
        refine k_neN (tgt := 46) hx hb (Bq_lt31 hbf _) (by decide) dX4_reads_39 (by decide) (fun c8 => ?_) (fun c8 => ?_)
        ·
          refine lv_iconst (v := (nI 0)) hx hb dX4_reads_46 (by decide) ?_
          exact k_top (by first | rfl | exact congrArg nI (by omega) | exact (by first | (simp only [MR, bI, if_neg c3, if_pos c3, if_neg (Nat.not_le.mpr c5), if_pos (Nat.not_le.mpr c5), if_neg c8, if_pos c8]; done) | (simp only [MR, bI, if_neg c3, if_pos c3, if_neg (Nat.not_le.mpr c5), if_pos (Nat.not_le.mpr c5), if_neg c8, if_pos c8]; rfl) | rfl | (simp [MR, bI, if_neg c3, if_pos c3, if_neg (Nat.not_le.mpr c5), if_pos (Nat.not_le.mpr c5), if_neg c8, if_pos c8]; done))) J7
        ·
          refine lv_iconst (v := (nI 1)) hx hb dX4_reads_42 (by decide) ?_
          refine lv_goto (tgt := 47) hx hb dX4_reads_43 (by decide) ?_
          exact k_top (by first | rfl | exact congrArg nI (by omega) | exact (by first | (simp only [MR, bI, if_neg c3, if_pos c3, if_neg (Nat.not_le.mpr c5), if_pos (Nat.not_le.mpr c5), if_pos c8, if_neg (not_not_intro c8)]; done) | (simp only [MR, bI, if_neg c3, if_pos c3, if_neg (Nat.not_le.mpr c5), if_pos (Nat.not_le.mpr c5), if_pos c8, if_neg (not_not_intro c8)]; rfl) | rfl | (simp [MR, bI, if_neg c3, if_pos c3, if_neg (Nat.not_le.mpr c5), if_pos (Nat.not_le.mpr c5), if_pos c8, if_neg (not_not_intro c8)]; done))) J7
      ·
        refine va_put (D := g.1) (ci := 4) (v := .int (nI (b01 (Bq (mbf m9) n ((rS (mbf m9) n (mrd m9) i).1) = 59)))) (ty := .boolean) (C := RX4) (T := TX4) (N := 12) hx hb hts hiX4 tyX4 tyX4_ok nmX4 hown hE.1 hP hD hS 0 rfl rfl 8 (by decide) f119 (fun _ h9 => h9) rfl (tyX4_ok 8 (by decide)) (bo_nar (k_b2 b01_lt)) (bo_fits (k_b2 b01_lt)) (Nat.le_of_ble_eq_true rfl) dX4_reads_47 (fun H locs hP hD hS => ?_)
        have hP : va_P g.1 vwCl (wM g a (sMiw (sMrm (sMrd (sMat m9 (nI (rS (mbf m9) n (mrd m9) i).1)) ((rS (mbf m9) n (mrd m9) i).2.2.2)) (nI (rS (mbf m9) n (mrd m9) i).2.2.1)) (nI (b01 (Bq (mbf m9) n ((rS (mbf m9) n (mrd m9) i).1) = 59))))) _ := hP
        have hD : va_D A (wM g a (sMiw (sMrm (sMrd (sMat m9 (nI (rS (mbf m9) n (mrd m9) i).1)) ((rS (mbf m9) n (mrd m9) i).2.2.2)) (nI (rS (mbf m9) n (mrd m9) i).2.2.1)) (nI (b01 (Bq (mbf m9) n ((rS (mbf m9) n (mrd m9) i).1) = 59))))) := hD
        have hb2 : b01 (Bq (mbf m9) n ((rS (mbf m9) n (mrd m9) i).1) = 59) < 2 := b01_lt
        refine lv_aload_n hx hb dX4_reads_50 rfl (lv_at hl 0 rfl) ?_
        refine lv_dup hx hb dX4_reads_51 rfl ?_
        refine va_get (D := g.1) (ci := 4) (v := .int (nI (rS (mbf m9) n (mrd m9) i).1)) (C := RX4) (T := TX4) (N := 12) hx hb hts hiX4 hown hE.1 hP 0 rfl rfl 7 (by decide) f116 (fun _ h9 => h9) rfl dX4_reads_52 ?_
        refine lv_aload_n hx hb dX4_reads_55 rfl (lv_at hl 0 rfl) ?_
        refine va_get (D := g.1) (ci := 4) (v := .int (nI (b01 (Bq (mbf m9) n ((rS (mbf m9) n (mrd m9) i).1) = 59)))) (C := RX4) (T := TX4) (N := 12) hx hb hts hiX4 hown hE.1 hP 0 rfl rfl 8 (by decide) f119 (fun _ h9 => h9) rfl dX4_reads_56 ?_
        refine k_meet (x := .int (nI (b01 (Bq (mbf m9) n ((rS (mbf m9) n (mrd m9) i).1) = 59)))) (pj := 67) (rest := [.int (nI ((rS (mbf m9) n (mrd m9) i).1)), .ref (a 0)]) (fun J9 => ?_) ?_
        ·
          refine k_if0 (tgt := 66) hx hb b01_lt31 dX4_reads_59 (by decide) (fun c10 => ?_) (fun c10 => ?_)
          ·
            refine lv_iconst (v := (nI 0)) hx hb dX4_reads_66 (by decide) ?_
            exact k_top (congrArg nI (by have h8 : b01 (Bq (mbf m9) n ((rS (mbf m9) n (mrd m9) i).1) = 59) < 2 := b01_lt; omega)) J9
          ·
            refine lv_iconst (v := (nI 1)) hx hb dX4_reads_62 (by decide) ?_
            refine lv_goto (tgt := 67) hx hb dX4_reads_63 (by decide) ?_
            exact k_top (congrArg nI (by have h8 : b01 (Bq (mbf m9) n ((rS (mbf m9) n (mrd m9) i).1) = 59) < 2 := b01_lt; omega)) J9
        ·
          refine lv_iadd hx hb dX4_reads_67 ?_
          refine k_top (nI_add _ _) ?_
          refine va_put (D := g.1) (ci := 4) (v := .int (nI (((rS (mbf m9) n (mrd m9) i).1) + (b01 (Bq (mbf m9) n ((rS (mbf m9) n (mrd m9) i).1) = 59))))) (ty := .int) (C := RX4) (T := TX4) (N := 12) hx hb hts hiX4 tyX4 tyX4_ok nmX4 hown hE.1 hP hD hS 0 rfl rfl 7 (by decide) f116 (fun _ h9 => h9) rfl (tyX4_ok 7 (by decide)) rfl rfl (Nat.le_of_ble_eq_true rfl) dX4_reads_68 (fun H locs hP hD hS => ?_)
          have hP : va_P g.1 vwCl (wM g a (sMat (sMiw (sMrm (sMrd m9 ((rS (mbf m9) n (mrd m9) i).2.2.2)) (nI (rS (mbf m9) n (mrd m9) i).2.2.1)) (nI (b01 (Bq (mbf m9) n ((rS (mbf m9) n (mrd m9) i).1) = 59)))) (nI (((rS (mbf m9) n (mrd m9) i).1) + (b01 (Bq (mbf m9) n ((rS (mbf m9) n (mrd m9) i).1) = 59)))))) _ := hP
          have hD : va_D A (wM g a (sMat (sMiw (sMrm (sMrd m9 ((rS (mbf m9) n (mrd m9) i).2.2.2)) (nI (rS (mbf m9) n (mrd m9) i).2.2.1)) (nI (b01 (Bq (mbf m9) n ((rS (mbf m9) n (mrd m9) i).1) = 59)))) (nI (((rS (mbf m9) n (mrd m9) i).1) + (b01 (Bq (mbf m9) n ((rS (mbf m9) n (mrd m9) i).1) = 59)))))) := hD
          refine lv_aload_n hx hb dX4_reads_71 rfl (lv_at hl 0 rfl) ?_
          refine va_get (D := g.1) (ci := 4) (v := .int (nI (b01 (Bq (mbf m9) n ((rS (mbf m9) n (mrd m9) i).1) = 59)))) (C := RX4) (T := TX4) (N := 12) hx hb hts hiX4 hown hE.1 hP 0 rfl rfl 8 (by decide) f119 (fun _ h9 => h9) rfl dX4_reads_72 ?_
          refine k_if0 (tgt := 14) hx hb b01_lt31 dX4_reads_75 (by decide) (fun c11 => ?_) (fun c11 => ?_)
          ·
            have hq9 : ¬ Bq (mbf m9) n ((rS (mbf m9) n (mrd m9) i).1) = 59 := b01_0.mp c11
            have hT : (rS (mbf m9) n (mrd m9) (i + 1)) = ((rS (mbf m9) n (mrd m9) i).1, 0, (rS (mbf m9) n (mrd m9) i).2.2.1, (rS (mbf m9) n (mrd m9) i).2.2.2) := if_neg hq9
            have e12 : (sMrm (sMrd (sMat (sMiw m9 (nI (rS (mbf m9) n (mrd m9) (i + 1)).2.1)) (nI (rS (mbf m9) n (mrd m9) (i + 1)).1)) (rS (mbf m9) n (mrd m9) (i + 1)).2.2.2) (nI (rS (mbf m9) n (mrd m9) (i + 1)).2.2.1)) = (sMat (sMiw (sMrm (sMrd m9 ((rS (mbf m9) n (mrd m9) i).2.2.2)) (nI (rS (mbf m9) n (mrd m9) i).2.2.1)) (nI (b01 (Bq (mbf m9) n ((rS (mbf m9) n (mrd m9) i).1) = 59)))) (nI (((rS (mbf m9) n (mrd m9) i).1) + (b01 (Bq (mbf m9) n ((rS (mbf m9) n (mrd m9) i).1) = 59))))) := (by rw [hT, b01_f hq9]; rfl)
            exact ih1 _ _ _ (rOK_lt hn hR.2) ⟨(by rw [e12]; exact hP), (by rw [e12]; exact hD), hS, lv_sub hl [0] rfl, ⟨by rw [hR.1, rdEnd_go (rOK_lt hn hR.2), if_pos ⟨c3, hlt9⟩], rOK_s hbf hR.2 c3 hlt9⟩⟩
          ·
            have hq9 : Bq (mbf m9) n ((rS (mbf m9) n (mrd m9) i).1) = 59 := Decidable.not_not.mp (fun z => c11 (b01_f z))
            have hT : (rS (mbf m9) n (mrd m9) (i + 1)) = rEv (mbf m9) n ((rS (mbf m9) n (mrd m9) i).1 + 1) (rS (mbf m9) n (mrd m9) i).2.2.1 (rS (mbf m9) n (mrd m9) i).2.2.2 := if_pos hq9
            have hb9 : b01 (Bq (mbf m9) n ((rS (mbf m9) n (mrd m9) i).1) = 59) = 1 := b01_t hq9
            refine lv_aload_n hx hb dX4_reads_78 rfl (lv_at hl 0 rfl) ?_
            refine k_Vv (As := []) hF (c_X4_readsEvent l g a (sMat (sMiw (sMrm (sMrd m9 ((rS (mbf m9) n (mrd m9) i).2.2.2)) (nI (rS (mbf m9) n (mrd m9) i).2.2.1)) (nI (b01 (Bq (mbf m9) n ((rS (mbf m9) n (mrd m9) i).1) = 59)))) (nI (((rS (mbf m9) n (mrd m9) i).1) + (b01 (Bq (mbf m9) n ((rS (mbf m9) n (mrd m9) i).1) = 59))))) n (((rS (mbf m9) n (mrd m9) i).1) + (b01 (Bq (mbf m9) n ((rS (mbf m9) n (mrd m9) i).1) = 59))) hn hln rfl (by omega) hbf (by omega) ((rS (mbf m9) n (mrd m9) i).2.2.1) rfl (by omega)) (cwV 0 hts gX4_reads_X4_readsEvent rfl rfl rfl (by decide +kernel) ⟨Nat.le_of_ble_eq_true rfl, Nat.le_of_ble_eq_true rfl⟩) hE hP hD hS hA (k_pall _) ((k_pall _).symm) 0 rfl rfl rfl rfl hl.1 rfl (Nat.le_of_ble_eq_true rfl) dX4_reads_79 ⟨Nat.le_of_ble_eq_true rfl, Nat.le_of_ble_eq_true rfl⟩ (fun H locs hP hD hS => ?_)
            have hP : va_P g.1 vwCl (wM g a (sMrm (sMrd (sMat (sMiw m9 (nI (rEv (mbf m9) n (((rS (mbf m9) n (mrd m9) i).1) + (b01 (Bq (mbf m9) n ((rS (mbf m9) n (mrd m9) i).1) = 59))) ((rS (mbf m9) n (mrd m9) i).2.2.1) ((rS (mbf m9) n (mrd m9) i).2.2.2)).2.1)) (nI (rEv (mbf m9) n (((rS (mbf m9) n (mrd m9) i).1) + (b01 (Bq (mbf m9) n ((rS (mbf m9) n (mrd m9) i).1) = 59))) ((rS (mbf m9) n (mrd m9) i).2.2.1) ((rS (mbf m9) n (mrd m9) i).2.2.2)).1)) ((rEv (mbf m9) n (((rS (mbf m9) n (mrd m9) i).1) + (b01 (Bq (mbf m9) n ((rS (mbf m9) n (mrd m9) i).1) = 59))) ((rS (mbf m9) n (mrd m9) i).2.2.1) ((rS (mbf m9) n (mrd m9) i).2.2.2)).2.2.2)) (nI (rEv (mbf m9) n (((rS (mbf m9) n (mrd m9) i).1) + (b01 (Bq (mbf m9) n ((rS (mbf m9) n (mrd m9) i).1) = 59))) ((rS (mbf m9) n (mrd m9) i).2.2.1) ((rS (mbf m9) n (mrd m9) i).2.2.2)).2.2.1))) _ := hP
            have hD : va_D A (wM g a (sMrm (sMrd (sMat (sMiw m9 (nI (rEv (mbf m9) n (((rS (mbf m9) n (mrd m9) i).1) + (b01 (Bq (mbf m9) n ((rS (mbf m9) n (mrd m9) i).1) = 59))) ((rS (mbf m9) n (mrd m9) i).2.2.1) ((rS (mbf m9) n (mrd m9) i).2.2.2)).2.1)) (nI (rEv (mbf m9) n (((rS (mbf m9) n (mrd m9) i).1) + (b01 (Bq (mbf m9) n ((rS (mbf m9) n (mrd m9) i).1) = 59))) ((rS (mbf m9) n (mrd m9) i).2.2.1) ((rS (mbf m9) n (mrd m9) i).2.2.2)).1)) ((rEv (mbf m9) n (((rS (mbf m9) n (mrd m9) i).1) + (b01 (Bq (mbf m9) n ((rS (mbf m9) n (mrd m9) i).1) = 59))) ((rS (mbf m9) n (mrd m9) i).2.2.1) ((rS (mbf m9) n (mrd m9) i).2.2.2)).2.2.2)) (nI (rEv (mbf m9) n (((rS (mbf m9) n (mrd m9) i).1) + (b01 (Bq (mbf m9) n ((rS (mbf m9) n (mrd m9) i).1) = 59))) ((rS (mbf m9) n (mrd m9) i).2.2.1) ((rS (mbf m9) n (mrd m9) i).2.2.2)).2.2.1))) := hD
            refine lv_goto (tgt := 14) hx hb dX4_reads_82 (by decide) ?_
            have e13 : (sMrm (sMrd (sMat (sMiw m9 (nI (rS (mbf m9) n (mrd m9) (i + 1)).2.1)) (nI (rS (mbf m9) n (mrd m9) (i + 1)).1)) (rS (mbf m9) n (mrd m9) (i + 1)).2.2.2) (nI (rS (mbf m9) n (mrd m9) (i + 1)).2.2.1)) = (sMrm (sMrd (sMat (sMiw m9 (nI (rEv (mbf m9) n (((rS (mbf m9) n (mrd m9) i).1) + (b01 (Bq (mbf m9) n ((rS (mbf m9) n (mrd m9) i).1) = 59))) ((rS (mbf m9) n (mrd m9) i).2.2.1) ((rS (mbf m9) n (mrd m9) i).2.2.2)).2.1)) (nI (rEv (mbf m9) n (((rS (mbf m9) n (mrd m9) i).1) + (b01 (Bq (mbf m9) n ((rS (mbf m9) n (mrd m9) i).1) = 59))) ((rS (mbf m9) n (mrd m9) i).2.2.1) ((rS (mbf m9) n (mrd m9) i).2.2.2)).1)) ((rEv (mbf m9) n (((rS (mbf m9) n (mrd m9) i).1) + (b01 (Bq (mbf m9) n ((rS (mbf m9) n (mrd m9) i).1) = 59))) ((rS (mbf m9) n (mrd m9) i).2.2.1) ((rS (mbf m9) n (mrd m9) i).2.2.2)).2.2.2)) (nI (rEv (mbf m9) n (((rS (mbf m9) n (mrd m9) i).1) + (b01 (Bq (mbf m9) n ((rS (mbf m9) n (mrd m9) i).1) = 59))) ((rS (mbf m9) n (mrd m9) i).2.2.1) ((rS (mbf m9) n (mrd m9) i).2.2.2)).2.2.1)) := (by rw [hT, hb9])
            exact ih1 _ _ _ (rOK_lt hn hR.2) ⟨(by rw [e13]; exact hP), (by rw [e13]; exact hD), hS, lv_sub hl [0] rfl, ⟨by rw [hR.1, rdEnd_go (rOK_lt hn hR.2), if_pos ⟨c3, hlt9⟩], rOK_s hbf hR.2 c3 hlt9⟩⟩
set_option maxHeartbeats 4000000 in
set_option maxRecDepth 100000 in
theorem c_X4_firstError (l : Launch) (g : kG) (a : Nat → Nat) (m9 : MSt) (n : Nat) (hn : n ≤ 60) (hln : mln m9 = nI n) (hbf : Tok (mbf m9) n) : KI l yX4_firstError wsX4_firstError ({ frames := 5, cells := 0, slots := 0, locals := 108 }) g [.ref (a 0)] (wM g a m9) (nI (if (rFin (mbf m9) n (mrd m9)).2.1 = 0 then (rFin (mbf m9) n (mrd m9)).1 else n)) (wM g a (MR (sMth m9 (nI 0)) (rFin (mbf m9) n (mrd m9)))) 0 0 := by
  refine k_begin (cc := cX4_firstError) (maxL := 1) (ret := (some .int)) (Qc := fun A => kQi g (nI (if (rFin (mbf m9) n (mrd m9)).2.1 = 0 then (rFin (mbf m9) n (mrd m9)).1 else n)) (wM g a (MR (sMth m9 (nI 0)) (rFin (mbf m9) n (mrd m9)))) A) (by decide) rfl (Nat.le_of_ble_eq_true rfl) ?_
  intro p e s m below meth c A ls hF hr hlocks hin hE hP hD hS hA hl
  obtain ⟨hx, hb, hml, hown, hts⟩ := id hF
  have hown : s.vm.findClass RX4 = some m.cls := hown
  have hl : lv_has ls 1 [(0, .ref (a 0))] := hl
  have hiX4 : ∀ w ∈ wsX40, w ∈ wsX4_firstError := fun _ h => List.mem_cons_of_mem _ (List.mem_append_right _ (h))
  have f25 : (Cond.fieldLink RX4 25 "ConcertUsherModel" "thrown" "I").before _ s = true := hts _ (List.mem_of_getElem? (i := 1) rfl)
  have f116 : (Cond.fieldLink RX4 116 "ConcertUsherModel" "at" "I").before _ s = true := hts _ (List.mem_of_getElem? (i := 3) rfl)
  have f113 : (Cond.fieldLink RX4 113 "ConcertUsherModel" "length" "I").before _ s = true := hts _ (List.mem_of_getElem? (i := 2) rfl)
  refine lv_aload_n hx hb dX4_firstError_0 rfl (lv_at hl 0 rfl) ?_
  refine lv_iconst (v := (nI 0)) hx hb dX4_firstError_1 (by decide) ?_
  refine va_put (D := g.1) (ci := 4) (v := .int (nI 0)) (ty := .int) (C := RX4) (T := TX4) (N := 12) hx hb hts hiX4 tyX4 tyX4_ok nmX4 hown hE.1 hP hD hS 0 rfl rfl 0 (by decide) f25 (fun _ h9 => h9) rfl (tyX4_ok 0 (by decide)) rfl rfl (Nat.le_of_ble_eq_true rfl) dX4_firstError_2 (fun H locs hP hD hS => ?_)
  have hP : va_P g.1 vwCl (wM g a (sMth m9 (nI 0))) _ := hP
  have hD : va_D A (wM g a (sMth m9 (nI 0))) := hD
  refine lv_aload_n hx hb dX4_firstError_5 rfl (lv_at hl 0 rfl) ?_
  refine k_Vi (As := []) (r := (nI ((rFin (mbf m9) n (mrd m9)).2.1))) hF (c_X4_reads l g a (sMth m9 (nI 0)) n hn hln hbf) (cwV 0 hts gX4_firstError_X4_reads rfl rfl rfl (by decide +kernel) ⟨Nat.le_of_ble_eq_true rfl, Nat.le_of_ble_eq_true rfl⟩) hE hP hD hS hA (k_pall _) ((k_pall _).symm) 0 rfl rfl rfl rfl hl.1 rfl (Nat.le_of_ble_eq_true rfl) dX4_firstError_6 ⟨Nat.le_of_ble_eq_true rfl, Nat.le_of_ble_eq_true rfl⟩ (fun H locs hP hD hS => ?_)
  have hP : va_P g.1 vwCl (wM g a (sMrm (sMrd (sMat (sMiw (sMth m9 (nI 0)) (nI (rFin (mbf m9) n (mrd m9)).2.1)) (nI (rFin (mbf m9) n (mrd m9)).1)) ((rFin (mbf m9) n (mrd m9)).2.2.2)) (nI (rFin (mbf m9) n (mrd m9)).2.2.1))) _ := hP
  have hD : va_D A (wM g a (sMrm (sMrd (sMat (sMiw (sMth m9 (nI 0)) (nI (rFin (mbf m9) n (mrd m9)).2.1)) (nI (rFin (mbf m9) n (mrd m9)).1)) ((rFin (mbf m9) n (mrd m9)).2.2.2)) (nI (rFin (mbf m9) n (mrd m9)).2.2.1))) := hD
  refine k_if0 (tgt := 19) hx hb (Nat.lt_of_lt_of_le (rFin_lt hn hbf (mrd m9)).1 (by decide)) dX4_firstError_9 (by decide) (fun c1 => ?_) (fun c1 => ?_)
  ·
    refine lv_aload_n hx hb dX4_firstError_19 rfl (lv_at hl 0 rfl) ?_
    refine va_get (D := g.1) (ci := 4) (v := .int (nI (rFin (mbf m9) n (mrd m9)).1)) (C := RX4) (T := TX4) (N := 12) hx hb hts hiX4 hown hE.1 hP 0 rfl rfl 7 (by decide) f116 (fun _ h9 => h9) rfl dX4_firstError_20 ?_
    have e2 : (MR (sMth m9 (nI 0)) (rFin (mbf m9) n (mrd m9))) = (sMrm (sMrd (sMat (sMiw (sMth m9 (nI 0)) (nI (rFin (mbf m9) n (mrd m9)).2.1)) (nI (rFin (mbf m9) n (mrd m9)).1)) ((rFin (mbf m9) n (mrd m9)).2.2.2)) (nI (rFin (mbf m9) n (mrd m9)).2.2.1)) := (by first | (simp only [MR, if_pos c1, if_neg (not_not_intro c1)]; done) | (simp only [MR, if_pos c1, if_neg (not_not_intro c1)]; rfl) | rfl | (simp [MR, if_pos c1, if_neg (not_not_intro c1)]; done))
    have hP : va_P g.1 vwCl (wM g a (MR (sMth m9 (nI 0)) (rFin (mbf m9) n (mrd m9)))) H := by rw [e2]; exact hP
    have hD : va_D A (wM g a (MR (sMth m9 (nI 0)) (rFin (mbf m9) n (mrd m9)))) := by rw [e2]; exact hD
    exact k_iret hx hb hr hlocks rfl (by first | (simp only [MR, bI, if_pos c1, if_neg (not_not_intro c1)]; done) | (simp only [MR, bI, if_pos c1, if_neg (not_not_intro c1)]; rfl) | rfl | (simp [MR, bI, if_pos c1, if_neg (not_not_intro c1)]; done)) hP hD hS (Nat.le_of_ble_eq_true rfl) (Nat.le_of_ble_eq_true rfl) dX4_firstError_23
  ·
    refine lv_aload_n hx hb dX4_firstError_12 rfl (lv_at hl 0 rfl) ?_
    refine va_get (D := g.1) (ci := 4) (v := .int (mln m9)) (C := RX4) (T := TX4) (N := 12) hx hb hts hiX4 hown hE.1 hP 0 rfl rfl 6 (by decide) f113 (fun _ h9 => h9) rfl dX4_firstError_13 ?_
    refine k_top hln ?_
    refine lv_goto (tgt := 23) hx hb dX4_firstError_16 (by decide) ?_
    have e3 : (MR (sMth m9 (nI 0)) (rFin (mbf m9) n (mrd m9))) = (sMrm (sMrd (sMat (sMiw (sMth m9 (nI 0)) (nI (rFin (mbf m9) n (mrd m9)).2.1)) (nI (rFin (mbf m9) n (mrd m9)).1)) ((rFin (mbf m9) n (mrd m9)).2.2.2)) (nI (rFin (mbf m9) n (mrd m9)).2.2.1)) := (by first | (simp only [MR, if_neg c1, if_pos c1]; done) | (simp only [MR, if_neg c1, if_pos c1]; rfl) | rfl | (simp [MR, if_neg c1, if_pos c1]; done))
    have hP : va_P g.1 vwCl (wM g a (MR (sMth m9 (nI 0)) (rFin (mbf m9) n (mrd m9)))) H := by rw [e3]; exact hP
    have hD : va_D A (wM g a (MR (sMth m9 (nI 0)) (rFin (mbf m9) n (mrd m9)))) := by rw [e3]; exact hD
    exact k_iret hx hb hr hlocks rfl (by first | (simp only [MR, bI, if_neg c1, if_pos c1]; done) | (simp only [MR, bI, if_neg c1, if_pos c1]; rfl) | rfl | (simp [MR, bI, if_neg c1, if_pos c1]; done)) hP hD hS (Nat.le_of_ble_eq_true rfl) (Nat.le_of_ble_eq_true rfl) dX4_firstError_23
set_option maxHeartbeats 4000000 in
set_option maxRecDepth 100000 in
theorem c_X4_cellOfI (l : Launch) (g : kG) (x y : Int32) : KI l yX4_cellOf wsX4_cellOf ({ frames := 0, cells := 0, slots := 0, locals := 0 }) g [.int x, .int y] [] ((nI 6 * x) + y) [] 0 0 := by
  refine k_begin (cc := cX4_cellOf) (maxL := 2) (ret := (some .int)) (Qc := fun A => kQi g ((nI 6 * x) + y) [] A) (by decide) rfl (Nat.le_of_ble_eq_true rfl) ?_
  intro p e s m below meth c A ls hF hr hlocks hin hE hP hD hS hA hl
  obtain ⟨hx, hb, hml, hown, hts⟩ := id hF
  have hown : s.vm.findClass RX4 = some m.cls := hown
  have hl : lv_has ls 2 [(0, .int x), (1, .int y)] := hl
  refine lv_bipush (v := (nI 6)) hx hb dX4_cellOf_0 (by decide) ?_
  refine lv_iload_n hx hb dX4_cellOf_2 rfl (lv_at hl 0 rfl) ?_
  refine lv_imul hx hb dX4_cellOf_3 ?_
  refine lv_iload_n hx hb dX4_cellOf_4 rfl (lv_at hl 1 rfl) ?_
  refine lv_iadd hx hb dX4_cellOf_5 ?_
  have hP : va_P g.1 vwCl [] _ := hP
  have hD : va_D A [] := hD
  exact k_iret hx hb hr hlocks rfl (by first | rfl | (simp only [bI]; done) | (simp only [bI]; rfl) | (simp [bI]; done)) hP hD hS (Nat.le_of_ble_eq_true rfl) (Nat.le_of_ble_eq_true rfl) dX4_cellOf_6
set_option maxHeartbeats 4000000 in
set_option maxRecDepth 100000 in
theorem c_X4_does (l : Launch) (g : kG) (a : Nat → Nat) (m9 : MSt) (k : Nat) (hk : k ≤ 90) (hev : rdOK (mrd m9) k) : KI l yX4_does wsX4_does ({ frames := 4, cells := 0, slots := 0, locals := 85 }) g [.ref (a 0), .int (nI k)] (wM g a m9) (nI (MevN (mrd m9) k (ms m9))) (wM g a (sMs m9 (Mev (mrd m9) k (ms m9)))) 0 0 := by
  refine k_begin (cc := cX4_does) (maxL := 4) (ret := (some .boolean)) (Qc := fun A => kQi g (nI (MevN (mrd m9) k (ms m9))) (wM g a (sMs m9 (Mev (mrd m9) k (ms m9)))) A) (by decide) rfl (Nat.le_of_ble_eq_true rfl) ?_
  intro p e s m below meth c A ls hF hr hlocks hin hE hP hD hS hA hl
  obtain ⟨hx, hb, hml, hown, hts⟩ := id hF
  have hown : s.vm.findClass RX4 = some m.cls := hown
  have hl : lv_has ls 4 [(0, .ref (a 0)), (1, .int (nI k))] := hl
  have hiX4 : ∀ w ∈ wsX40, w ∈ wsX4_does := fun _ h => List.mem_cons_of_mem _ (List.mem_append_right _ (h))
  have f22 : (Cond.fieldLink RX4 22 "ConcertUsherModel" "read" "[I").before _ s = true := hts _ (List.mem_of_getElem? (i := 1) rfl)
  have f7 : (Cond.fieldLink RX4 7 "ConcertUsherModel" "s" "[I").before _ s = true := hts _ (List.mem_of_getElem? (i := 2) rfl)
  rcases hev with ⟨hq0, x9, y9, hx8, hy6, hx, hy⟩ | ⟨hq0, x9, y9, hx8, hy6, hx, hy⟩ | ⟨hq0, x9, y9, hx8, hy6, hx, hy⟩ | ⟨hq0, x9, hx8, hx⟩ | ⟨hq0, x9, hx8, hx⟩ | ⟨hq0, x9, hx8, hx⟩
  ·
    have hcl : Mcl (mrd m9) k = 6 * x9 + y9 := Mcl_eq hx8 hy6 hx hy
    refine lv_aload_n hx hb dX4_does_0 rfl (lv_at hl 0 rfl) ?_
    refine va_get (D := g.1) (ci := 4) (v := .ref (a 5)) (C := RX4) (T := TX4) (N := 12) hx hb hts hiX4 hown hE.1 hP 0 rfl rfl 9 (by decide) f22 (fun _ h9 => h9) rfl dX4_does_1 ?_
    refine lv_iload_n hx hb dX4_does_4 rfl (lv_at hl 1 rfl) ?_
    refine lv_iconst (v := (nI 1)) hx hb dX4_does_5 (by decide) ?_
    refine lv_iadd hx hb dX4_does_6 ?_
    refine k_top (nI_add _ _) ?_
    refine k_iald (f := (mrd m9)) hx hb hE hP 5 rfl (k + 1) rfl (by omega) (by decide) dX4_does_7 ?_
    refine k_top hx ?_
    refine lv_istore_n (lv' := [(2, .int (nI x9)), (0, .ref (a 0)), (1, .int (nI k))]) hx hb dX4_does_8 rfl hl (by decide) rfl (fun ls hl => ?_)
    refine lv_iload_n hx hb dX4_does_9 rfl (lv_at hl 0 rfl) ?_
    refine lv_aload_n hx hb dX4_does_10 rfl (lv_at hl 1 rfl) ?_
    refine va_get (D := g.1) (ci := 4) (v := .ref (a 5)) (C := RX4) (T := TX4) (N := 12) hx hb hts hiX4 hown hE.1 hP 0 rfl rfl 9 (by decide) f22 (fun _ h9 => h9) rfl dX4_does_11 ?_
    refine lv_iload_n hx hb dX4_does_14 rfl (lv_at hl 2 rfl) ?_
    refine lv_iconst (v := (nI 2)) hx hb dX4_does_15 (by decide) ?_
    refine lv_iadd hx hb dX4_does_16 ?_
    refine k_top (nI_add _ _) ?_
    refine k_iald (f := (mrd m9)) hx hb hE hP 5 rfl (k + 2) rfl (by omega) (by decide) dX4_does_17 ?_
    refine k_top hy ?_
    refine k_Si (w0 := []) (w1 := []) (As := [.int (nI x9), .int (nI y9)]) (r := (nI (6 * x9 + y9))) hF (c_X4_cellOf l g x9 y9) (va_cwS 2 hts gX4_does_X4_cellOf rfl rfl rfl (by decide +kernel) ⟨Nat.le_of_ble_eq_true rfl, Nat.le_of_ble_eq_true rfl⟩) hE hP hD hS hA (List.Perm.refl _) (List.Perm.refl _) rfl hl.1 rfl (Nat.le_of_ble_eq_true rfl) dX4_does_18 ⟨Nat.le_of_ble_eq_true rfl, Nat.le_of_ble_eq_true rfl⟩ (fun H locs hP hD hS => ?_)
    have hP : va_P g.1 vwCl (wM g a m9) _ := hP
    have hD : va_D A (wM g a m9) := hD
    refine lv_istore_n (lv' := [(3, .int (nI (6 * x9 + y9))), (2, .int (nI x9)), (0, .ref (a 0)), (1, .int (nI k))]) hx hb dX4_does_21 rfl hl (by decide) rfl (fun ls hl => ?_)
    refine lv_aload_n hx hb dX4_does_22 rfl (lv_at hl 2 rfl) ?_
    refine va_get (D := g.1) (ci := 4) (v := .ref (a 5)) (C := RX4) (T := TX4) (N := 12) hx hb hts hiX4 hown hE.1 hP 0 rfl rfl 9 (by decide) f22 (fun _ h9 => h9) rfl dX4_does_23 ?_
    refine lv_iload_n hx hb dX4_does_26 rfl (lv_at hl 3 rfl) ?_
    refine k_iald (f := (mrd m9)) hx hb hE hP 5 rfl k rfl (by omega) (by decide) dX4_does_27 ?_
    refine k_top hq0 ?_
    refine lv_lookup (off := 52) (tgt := 80) hx hb dX4_does_28 (by decide) (by decide) (by decide) ?_
    refine lv_aload_n hx hb dX4_does_80 rfl (lv_at hl 2 rfl) ?_
    refine va_get (D := g.1) (ci := 4) (v := .ref (a 1)) (C := RX4) (T := TX4) (N := 12) hx hb hts hiX4 hown hE.1 hP 0 rfl rfl 1 (by decide) f7 (fun _ h9 => h9) rfl dX4_does_81 ?_
    refine lv_bipush (v := (nI 21)) hx hb dX4_does_84 (by decide) ?_
    refine lv_iload_n hx hb dX4_does_86 rfl (lv_at hl 0 rfl) ?_
    refine lv_iadd hx hb dX4_does_87 ?_
    refine k_top (nI_add _ _) ?_
    refine k_iald (f := (ms m9)) hx hb hE hP 1 rfl (21 + (6 * x9 + y9)) rfl (by omega) (by decide) dX4_does_88 ?_
    refine lv_bipush (v := (nI 9)) hx hb dX4_does_89 (by decide) ?_
    refine lv_icmp_ge (tgt := 106) hx hb dX4_does_91 (by decide) (fun c1 => ?_) (fun c1 => ?_)
    ·
      refine lv_iconst (v := (nI 0)) hx hb dX4_does_106 (by decide) ?_
      have e2 : (sMs m9 (Mev (mrd m9) k (ms m9))) = m9 := (by first | (simp only [Mev, MevN, MevC, MevCB, MevL, MevLB, if_pos c1, if_neg (not_not_intro c1), if_pos hq0, hcl]; done) | (simp only [Mev, MevN, MevC, MevCB, MevL, MevLB, if_pos c1, if_neg (not_not_intro c1), if_pos hq0, hcl]; rfl) | rfl | (simp [Mev, MevN, MevC, MevCB, MevL, MevLB, if_pos c1, if_neg (not_not_intro c1), if_pos hq0, hcl]; done))
      have hP : va_P g.1 vwCl (wM g a (sMs m9 (Mev (mrd m9) k (ms m9)))) H := by rw [e2]; exact hP
      have hD : va_D A (wM g a (sMs m9 (Mev (mrd m9) k (ms m9)))) := by rw [e2]; exact hD
      exact k_iret hx hb hr hlocks rfl (by first | (simp only [Mev, MevN, MevC, MevCB, MevL, MevLB, bI, if_pos c1, if_neg (not_not_intro c1), if_pos hq0, hcl]; done) | (simp only [Mev, MevN, MevC, MevCB, MevL, MevLB, bI, if_pos c1, if_neg (not_not_intro c1), if_pos hq0, hcl]; rfl) | rfl | (simp [Mev, MevN, MevC, MevCB, MevL, MevLB, bI, if_pos c1, if_neg (not_not_intro c1), if_pos hq0, hcl]; done)) hP hD hS (Nat.le_of_ble_eq_true rfl) (Nat.le_of_ble_eq_true rfl) dX4_does_107
    ·
      refine lv_aload_n hx hb dX4_does_94 rfl (lv_at hl 2 rfl) ?_
      refine lv_iload_n hx hb dX4_does_95 rfl (lv_at hl 0 rfl) ?_
      refine k_Vi (As := [.int (nI (6 * x9 + y9))]) (r := (Mcomes (6 * x9 + y9) (ms m9) (21 + (6 * x9 + y9)))) hF (c_X4_comes l g a m9 (6 * x9 + y9) (by omega)) (cwV 1 hts gX4_does_X4_comes rfl rfl rfl (by decide +kernel) ⟨Nat.le_of_ble_eq_true rfl, Nat.le_of_ble_eq_true rfl⟩) hE hP hD hS hA (k_pall _) ((k_pall _).symm) 0 rfl rfl rfl rfl hl.1 rfl (Nat.le_of_ble_eq_true rfl) dX4_does_96 ⟨Nat.le_of_ble_eq_true rfl, Nat.le_of_ble_eq_true rfl⟩ (fun H locs hP hD hS => ?_)
      have hP : va_P g.1 vwCl (wM g a (sMs m9 (Mcomes (6 * x9 + y9) (ms m9)))) _ := hP
      have hD : va_D A (wM g a (sMs m9 (Mcomes (6 * x9 + y9) (ms m9)))) := hD
      refine lv_if_le (tgt := 106) hx hb dX4_does_99 (by decide) (fun c3 => ?_) (fun c3 => ?_)
      ·
        refine lv_iconst (v := (nI 0)) hx hb dX4_does_106 (by decide) ?_
        have e4 : (sMs m9 (Mev (mrd m9) k (ms m9))) = (sMs m9 (Mcomes (6 * x9 + y9) (ms m9))) := (by first | (simp only [Mev, MevN, MevC, MevCB, MevL, MevLB, if_neg c1, if_pos c1, if_pos c3, if_neg (not_not_intro c3), if_pos hq0, hcl]; done) | (simp only [Mev, MevN, MevC, MevCB, MevL, MevLB, if_neg c1, if_pos c1, if_pos c3, if_neg (not_not_intro c3), if_pos hq0, hcl]; rfl) | rfl | (simp [Mev, MevN, MevC, MevCB, MevL, MevLB, if_neg c1, if_pos c1, if_pos c3, if_neg (not_not_intro c3), if_pos hq0, hcl]; done))
        have hP : va_P g.1 vwCl (wM g a (sMs m9 (Mev (mrd m9) k (ms m9)))) H := by rw [e4]; exact hP
        have hD : va_D A (wM g a (sMs m9 (Mev (mrd m9) k (ms m9)))) := by rw [e4]; exact hD
        exact k_iret hx hb hr hlocks rfl (by first | (simp only [Mev, MevN, MevC, MevCB, MevL, MevLB, bI, if_neg c1, if_pos c1, if_pos c3, if_neg (not_not_intro c3), if_pos hq0, hcl]; done) | (simp only [Mev, MevN, MevC, MevCB, MevL, MevLB, bI, if_neg c1, if_pos c1, if_pos c3, if_neg (not_not_intro c3), if_pos hq0, hcl]; rfl) | rfl | (simp [Mev, MevN, MevC, MevCB, MevL, MevLB, bI, if_neg c1, if_pos c1, if_pos c3, if_neg (not_not_intro c3), if_pos hq0, hcl]; done)) hP hD hS (Nat.le_of_ble_eq_true rfl) (Nat.le_of_ble_eq_true rfl) dX4_does_107
      ·
        refine lv_iconst (v := (nI 1)) hx hb dX4_does_102 (by decide) ?_
        refine lv_goto (tgt := 107) hx hb dX4_does_103 (by decide) ?_
        have e5 : (sMs m9 (Mev (mrd m9) k (ms m9))) = (sMs m9 (Mcomes (6 * x9 + y9) (ms m9))) := (by first | (simp only [Mev, MevN, MevC, MevCB, MevL, MevLB, if_neg c1, if_pos c1, if_neg c3, if_pos c3, if_pos hq0, hcl]; done) | (simp only [Mev, MevN, MevC, MevCB, MevL, MevLB, if_neg c1, if_pos c1, if_neg c3, if_pos c3, if_pos hq0, hcl]; rfl) | rfl | (simp [Mev, MevN, MevC, MevCB, MevL, MevLB, if_neg c1, if_pos c1, if_neg c3, if_pos c3, if_pos hq0, hcl]; done))
        have hP : va_P g.1 vwCl (wM g a (sMs m9 (Mev (mrd m9) k (ms m9)))) H := by rw [e5]; exact hP
        have hD : va_D A (wM g a (sMs m9 (Mev (mrd m9) k (ms m9)))) := by rw [e5]; exact hD
        exact k_iret hx hb hr hlocks rfl (by first | (simp only [Mev, MevN, MevC, MevCB, MevL, MevLB, bI, if_neg c1, if_pos c1, if_neg c3, if_pos c3, if_pos hq0, hcl]; done) | (simp only [Mev, MevN, MevC, MevCB, MevL, MevLB, bI, if_neg c1, if_pos c1, if_neg c3, if_pos c3, if_pos hq0, hcl]; rfl) | rfl | (simp [Mev, MevN, MevC, MevCB, MevL, MevLB, bI, if_neg c1, if_pos c1, if_neg c3, if_pos c3, if_pos hq0, hcl]; done)) hP hD hS (Nat.le_of_ble_eq_true rfl) (Nat.le_of_ble_eq_true rfl) dX4_does_107
  ·
    have hz99 : ¬ mrd m9 k = nI 99 := by rw [hq0]; decide
    have hcl : Mcl (mrd m9) k = 6 * x9 + y9 := Mcl_eq hx8 hy6 hx hy
    refine lv_aload_n hx hb dX4_does_0 rfl (lv_at hl 0 rfl) ?_
    refine va_get (D := g.1) (ci := 4) (v := .ref (a 5)) (C := RX4) (T := TX4) (N := 12) hx hb hts hiX4 hown hE.1 hP 0 rfl rfl 9 (by decide) f22 (fun _ h9 => h9) rfl dX4_does_1 ?_
    refine lv_iload_n hx hb dX4_does_4 rfl (lv_at hl 1 rfl) ?_
    refine lv_iconst (v := (nI 1)) hx hb dX4_does_5 (by decide) ?_
    refine lv_iadd hx hb dX4_does_6 ?_
    refine k_top (nI_add _ _) ?_
    refine k_iald (f := (mrd m9)) hx hb hE hP 5 rfl (k + 1) rfl (by omega) (by decide) dX4_does_7 ?_
    refine k_top hx ?_
    refine lv_istore_n (lv' := [(2, .int (nI x9)), (0, .ref (a 0)), (1, .int (nI k))]) hx hb dX4_does_8 rfl hl (by decide) rfl (fun ls hl => ?_)
    refine lv_iload_n hx hb dX4_does_9 rfl (lv_at hl 0 rfl) ?_
    refine lv_aload_n hx hb dX4_does_10 rfl (lv_at hl 1 rfl) ?_
    refine va_get (D := g.1) (ci := 4) (v := .ref (a 5)) (C := RX4) (T := TX4) (N := 12) hx hb hts hiX4 hown hE.1 hP 0 rfl rfl 9 (by decide) f22 (fun _ h9 => h9) rfl dX4_does_11 ?_
    refine lv_iload_n hx hb dX4_does_14 rfl (lv_at hl 2 rfl) ?_
    refine lv_iconst (v := (nI 2)) hx hb dX4_does_15 (by decide) ?_
    refine lv_iadd hx hb dX4_does_16 ?_
    refine k_top (nI_add _ _) ?_
    refine k_iald (f := (mrd m9)) hx hb hE hP 5 rfl (k + 2) rfl (by omega) (by decide) dX4_does_17 ?_
    refine k_top hy ?_
    refine k_Si (w0 := []) (w1 := []) (As := [.int (nI x9), .int (nI y9)]) (r := (nI (6 * x9 + y9))) hF (c_X4_cellOf l g x9 y9) (va_cwS 2 hts gX4_does_X4_cellOf rfl rfl rfl (by decide +kernel) ⟨Nat.le_of_ble_eq_true rfl, Nat.le_of_ble_eq_true rfl⟩) hE hP hD hS hA (List.Perm.refl _) (List.Perm.refl _) rfl hl.1 rfl (Nat.le_of_ble_eq_true rfl) dX4_does_18 ⟨Nat.le_of_ble_eq_true rfl, Nat.le_of_ble_eq_true rfl⟩ (fun H locs hP hD hS => ?_)
    have hP : va_P g.1 vwCl (wM g a m9) _ := hP
    have hD : va_D A (wM g a m9) := hD
    refine lv_istore_n (lv' := [(3, .int (nI (6 * x9 + y9))), (2, .int (nI x9)), (0, .ref (a 0)), (1, .int (nI k))]) hx hb dX4_does_21 rfl hl (by decide) rfl (fun ls hl => ?_)
    refine lv_aload_n hx hb dX4_does_22 rfl (lv_at hl 2 rfl) ?_
    refine va_get (D := g.1) (ci := 4) (v := .ref (a 5)) (C := RX4) (T := TX4) (N := 12) hx hb hts hiX4 hown hE.1 hP 0 rfl rfl 9 (by decide) f22 (fun _ h9 => h9) rfl dX4_does_23 ?_
    refine lv_iload_n hx hb dX4_does_26 rfl (lv_at hl 3 rfl) ?_
    refine k_iald (f := (mrd m9)) hx hb hE hP 5 rfl k rfl (by omega) (by decide) dX4_does_27 ?_
    refine k_top hq0 ?_
    refine lv_lookup (off := 80) (tgt := 108) hx hb dX4_does_28 (by decide) (by decide) (by decide) ?_
    refine lv_aload_n hx hb dX4_does_108 rfl (lv_at hl 2 rfl) ?_
    refine va_get (D := g.1) (ci := 4) (v := .ref (a 1)) (C := RX4) (T := TX4) (N := 12) hx hb hts hiX4 hown hE.1 hP 0 rfl rfl 1 (by decide) f7 (fun _ h9 => h9) rfl dX4_does_109 ?_
    refine lv_bipush (v := (nI 21)) hx hb dX4_does_112 (by decide) ?_
    refine lv_iload_n hx hb dX4_does_114 rfl (lv_at hl 0 rfl) ?_
    refine lv_iadd hx hb dX4_does_115 ?_
    refine k_top (nI_add _ _) ?_
    refine k_iald (f := (ms m9)) hx hb hE hP 1 rfl (21 + (6 * x9 + y9)) rfl (by omega) (by decide) dX4_does_116 ?_
    refine lv_if_le (tgt := 148) hx hb dX4_does_117 (by decide) (fun c6 => ?_) (fun c6 => ?_)
    ·
      refine lv_iconst (v := (nI 0)) hx hb dX4_does_148 (by decide) ?_
      have e7 : (sMs m9 (Mev (mrd m9) k (ms m9))) = m9 := (by first | (simp only [Mev, MevN, MevC, MevCB, MevL, MevLB, if_pos c6, if_neg (not_not_intro c6), if_neg hz99, if_pos hq0, hcl]; done) | (simp only [Mev, MevN, MevC, MevCB, MevL, MevLB, if_pos c6, if_neg (not_not_intro c6), if_neg hz99, if_pos hq0, hcl]; rfl) | rfl | (simp [Mev, MevN, MevC, MevCB, MevL, MevLB, if_pos c6, if_neg (not_not_intro c6), if_neg hz99, if_pos hq0, hcl]; done))
      have hP : va_P g.1 vwCl (wM g a (sMs m9 (Mev (mrd m9) k (ms m9)))) H := by rw [e7]; exact hP
      have hD : va_D A (wM g a (sMs m9 (Mev (mrd m9) k (ms m9)))) := by rw [e7]; exact hD
      exact k_iret hx hb hr hlocks rfl (by first | (simp only [Mev, MevN, MevC, MevCB, MevL, MevLB, bI, if_pos c6, if_neg (not_not_intro c6), if_neg hz99, if_pos hq0, hcl]; done) | (simp only [Mev, MevN, MevC, MevCB, MevL, MevLB, bI, if_pos c6, if_neg (not_not_intro c6), if_neg hz99, if_pos hq0, hcl]; rfl) | rfl | (simp [Mev, MevN, MevC, MevCB, MevL, MevLB, bI, if_pos c6, if_neg (not_not_intro c6), if_neg hz99, if_pos hq0, hcl]; done)) hP hD hS (Nat.le_of_ble_eq_true rfl) (Nat.le_of_ble_eq_true rfl) dX4_does_149
    ·
      refine lv_aload_n hx hb dX4_does_120 rfl (lv_at hl 2 rfl) ?_
      refine lv_iload_n hx hb dX4_does_121 rfl (lv_at hl 0 rfl) ?_
      refine lv_aload_n hx hb dX4_does_122 rfl (lv_at hl 2 rfl) ?_
      refine va_get (D := g.1) (ci := 4) (v := .ref (a 5)) (C := RX4) (T := TX4) (N := 12) hx hb hts hiX4 hown hE.1 hP 0 rfl rfl 9 (by decide) f22 (fun _ h9 => h9) rfl dX4_does_123 ?_
      refine lv_iload_n hx hb dX4_does_126 rfl (lv_at hl 3 rfl) ?_
      refine k_iald (f := (mrd m9)) hx hb hE hP 5 rfl k rfl (by omega) (by decide) dX4_does_127 ?_
      refine k_top hq0 ?_
      refine lv_bipush (v := (nI 108)) hx hb dX4_does_128 (by decide) ?_
      refine k_neN (tgt := 137) hx hb (by decide) (by decide) dX4_does_130 (by decide) (fun c8 => ?_) (fun c8 => ?_)
      ·
        exact absurd c8 (by decide)
      ·
        refine lv_iconst (v := (nI 1)) hx hb dX4_does_133 (by decide) ?_
        refine lv_goto (tgt := 138) hx hb dX4_does_134 (by decide) ?_
        refine k_Vi (As := [.int (nI (6 * x9 + y9)), .int (nI 1)]) (r := (Mleaves (6 * x9 + y9) 1 (ms m9) (21 + (6 * x9 + y9)))) hF (c_X4_leaves l g a m9 (6 * x9 + y9) (by omega) 1 (by decide)) (cwV 2 hts gX4_does_X4_leaves rfl rfl rfl (by decide +kernel) ⟨Nat.le_of_ble_eq_true rfl, Nat.le_of_ble_eq_true rfl⟩) hE hP hD hS hA (k_pall _) ((k_pall _).symm) 0 rfl rfl rfl rfl hl.1 rfl (Nat.le_of_ble_eq_true rfl) dX4_does_138 ⟨Nat.le_of_ble_eq_true rfl, Nat.le_of_ble_eq_true rfl⟩ (fun H locs hP hD hS => ?_)
        have hP : va_P g.1 vwCl (wM g a (sMs m9 (Mleaves (6 * x9 + y9) 1 (ms m9)))) _ := hP
        have hD : va_D A (wM g a (sMs m9 (Mleaves (6 * x9 + y9) 1 (ms m9)))) := hD
        refine lv_if_lt (tgt := 148) hx hb dX4_does_141 (by decide) (fun c9 => ?_) (fun c9 => ?_)
        ·
          refine lv_iconst (v := (nI 0)) hx hb dX4_does_148 (by decide) ?_
          have e10 : (sMs m9 (Mev (mrd m9) k (ms m9))) = (sMs m9 (Mleaves (6 * x9 + y9) 1 (ms m9))) := (by first | (simp only [Mev, MevN, MevC, MevCB, MevL, MevLB, if_neg c6, if_pos c6, if_pos c8, if_neg (not_not_intro c8), if_pos c9, if_neg (not_not_intro c9), if_neg hz99, if_pos hq0, hcl]; done) | (simp only [Mev, MevN, MevC, MevCB, MevL, MevLB, if_neg c6, if_pos c6, if_pos c8, if_neg (not_not_intro c8), if_pos c9, if_neg (not_not_intro c9), if_neg hz99, if_pos hq0, hcl]; rfl) | rfl | (simp [Mev, MevN, MevC, MevCB, MevL, MevLB, if_neg c6, if_pos c6, if_pos c8, if_neg (not_not_intro c8), if_pos c9, if_neg (not_not_intro c9), if_neg hz99, if_pos hq0, hcl]; done))
          have hP : va_P g.1 vwCl (wM g a (sMs m9 (Mev (mrd m9) k (ms m9)))) H := by rw [e10]; exact hP
          have hD : va_D A (wM g a (sMs m9 (Mev (mrd m9) k (ms m9)))) := by rw [e10]; exact hD
          exact k_iret hx hb hr hlocks rfl (by first | (simp only [Mev, MevN, MevC, MevCB, MevL, MevLB, bI, if_neg c6, if_pos c6, if_pos c8, if_neg (not_not_intro c8), if_pos c9, if_neg (not_not_intro c9), if_neg hz99, if_pos hq0, hcl]; done) | (simp only [Mev, MevN, MevC, MevCB, MevL, MevLB, bI, if_neg c6, if_pos c6, if_pos c8, if_neg (not_not_intro c8), if_pos c9, if_neg (not_not_intro c9), if_neg hz99, if_pos hq0, hcl]; rfl) | rfl | (simp [Mev, MevN, MevC, MevCB, MevL, MevLB, bI, if_neg c6, if_pos c6, if_pos c8, if_neg (not_not_intro c8), if_pos c9, if_neg (not_not_intro c9), if_neg hz99, if_pos hq0, hcl]; done)) hP hD hS (Nat.le_of_ble_eq_true rfl) (Nat.le_of_ble_eq_true rfl) dX4_does_149
        ·
          refine lv_iconst (v := (nI 1)) hx hb dX4_does_144 (by decide) ?_
          refine lv_goto (tgt := 149) hx hb dX4_does_145 (by decide) ?_
          have e11 : (sMs m9 (Mev (mrd m9) k (ms m9))) = (sMs m9 (Mleaves (6 * x9 + y9) 1 (ms m9))) := (by first | (simp only [Mev, MevN, MevC, MevCB, MevL, MevLB, if_neg c6, if_pos c6, if_pos c8, if_neg (not_not_intro c8), if_neg c9, if_pos c9, if_neg hz99, if_pos hq0, hcl]; done) | (simp only [Mev, MevN, MevC, MevCB, MevL, MevLB, if_neg c6, if_pos c6, if_pos c8, if_neg (not_not_intro c8), if_neg c9, if_pos c9, if_neg hz99, if_pos hq0, hcl]; rfl) | rfl | (simp [Mev, MevN, MevC, MevCB, MevL, MevLB, if_neg c6, if_pos c6, if_pos c8, if_neg (not_not_intro c8), if_neg c9, if_pos c9, if_neg hz99, if_pos hq0, hcl]; done))
          have hP : va_P g.1 vwCl (wM g a (sMs m9 (Mev (mrd m9) k (ms m9)))) H := by rw [e11]; exact hP
          have hD : va_D A (wM g a (sMs m9 (Mev (mrd m9) k (ms m9)))) := by rw [e11]; exact hD
          exact k_iret hx hb hr hlocks rfl (by first | (simp only [Mev, MevN, MevC, MevCB, MevL, MevLB, bI, if_neg c6, if_pos c6, if_pos c8, if_neg (not_not_intro c8), if_neg c9, if_pos c9, if_neg hz99, if_pos hq0, hcl]; done) | (simp only [Mev, MevN, MevC, MevCB, MevL, MevLB, bI, if_neg c6, if_pos c6, if_pos c8, if_neg (not_not_intro c8), if_neg c9, if_pos c9, if_neg hz99, if_pos hq0, hcl]; rfl) | rfl | (simp [Mev, MevN, MevC, MevCB, MevL, MevLB, bI, if_neg c6, if_pos c6, if_pos c8, if_neg (not_not_intro c8), if_neg c9, if_pos c9, if_neg hz99, if_pos hq0, hcl]; done)) hP hD hS (Nat.le_of_ble_eq_true rfl) (Nat.le_of_ble_eq_true rfl) dX4_does_149
  ·
    have hz99 : ¬ mrd m9 k = nI 99 := by rw [hq0]; decide
    have hz108 : ¬ mrd m9 k = nI 108 := by rw [hq0]; decide
    have hcl : Mcl (mrd m9) k = 6 * x9 + y9 := Mcl_eq hx8 hy6 hx hy
    refine lv_aload_n hx hb dX4_does_0 rfl (lv_at hl 0 rfl) ?_
    refine va_get (D := g.1) (ci := 4) (v := .ref (a 5)) (C := RX4) (T := TX4) (N := 12) hx hb hts hiX4 hown hE.1 hP 0 rfl rfl 9 (by decide) f22 (fun _ h9 => h9) rfl dX4_does_1 ?_
    refine lv_iload_n hx hb dX4_does_4 rfl (lv_at hl 1 rfl) ?_
    refine lv_iconst (v := (nI 1)) hx hb dX4_does_5 (by decide) ?_
    refine lv_iadd hx hb dX4_does_6 ?_
    refine k_top (nI_add _ _) ?_
    refine k_iald (f := (mrd m9)) hx hb hE hP 5 rfl (k + 1) rfl (by omega) (by decide) dX4_does_7 ?_
    refine k_top hx ?_
    refine lv_istore_n (lv' := [(2, .int (nI x9)), (0, .ref (a 0)), (1, .int (nI k))]) hx hb dX4_does_8 rfl hl (by decide) rfl (fun ls hl => ?_)
    refine lv_iload_n hx hb dX4_does_9 rfl (lv_at hl 0 rfl) ?_
    refine lv_aload_n hx hb dX4_does_10 rfl (lv_at hl 1 rfl) ?_
    refine va_get (D := g.1) (ci := 4) (v := .ref (a 5)) (C := RX4) (T := TX4) (N := 12) hx hb hts hiX4 hown hE.1 hP 0 rfl rfl 9 (by decide) f22 (fun _ h9 => h9) rfl dX4_does_11 ?_
    refine lv_iload_n hx hb dX4_does_14 rfl (lv_at hl 2 rfl) ?_
    refine lv_iconst (v := (nI 2)) hx hb dX4_does_15 (by decide) ?_
    refine lv_iadd hx hb dX4_does_16 ?_
    refine k_top (nI_add _ _) ?_
    refine k_iald (f := (mrd m9)) hx hb hE hP 5 rfl (k + 2) rfl (by omega) (by decide) dX4_does_17 ?_
    refine k_top hy ?_
    refine k_Si (w0 := []) (w1 := []) (As := [.int (nI x9), .int (nI y9)]) (r := (nI (6 * x9 + y9))) hF (c_X4_cellOf l g x9 y9) (va_cwS 2 hts gX4_does_X4_cellOf rfl rfl rfl (by decide +kernel) ⟨Nat.le_of_ble_eq_true rfl, Nat.le_of_ble_eq_true rfl⟩) hE hP hD hS hA (List.Perm.refl _) (List.Perm.refl _) rfl hl.1 rfl (Nat.le_of_ble_eq_true rfl) dX4_does_18 ⟨Nat.le_of_ble_eq_true rfl, Nat.le_of_ble_eq_true rfl⟩ (fun H locs hP hD hS => ?_)
    have hP : va_P g.1 vwCl (wM g a m9) _ := hP
    have hD : va_D A (wM g a m9) := hD
    refine lv_istore_n (lv' := [(3, .int (nI (6 * x9 + y9))), (2, .int (nI x9)), (0, .ref (a 0)), (1, .int (nI k))]) hx hb dX4_does_21 rfl hl (by decide) rfl (fun ls hl => ?_)
    refine lv_aload_n hx hb dX4_does_22 rfl (lv_at hl 2 rfl) ?_
    refine va_get (D := g.1) (ci := 4) (v := .ref (a 5)) (C := RX4) (T := TX4) (N := 12) hx hb hts hiX4 hown hE.1 hP 0 rfl rfl 9 (by decide) f22 (fun _ h9 => h9) rfl dX4_does_23 ?_
    refine lv_iload_n hx hb dX4_does_26 rfl (lv_at hl 3 rfl) ?_
    refine k_iald (f := (mrd m9)) hx hb hE hP 5 rfl k rfl (by omega) (by decide) dX4_does_27 ?_
    refine k_top hq0 ?_
    refine lv_lookup (off := 80) (tgt := 108) hx hb dX4_does_28 (by decide) (by decide) (by decide) ?_
    refine lv_aload_n hx hb dX4_does_108 rfl (lv_at hl 2 rfl) ?_
    refine va_get (D := g.1) (ci := 4) (v := .ref (a 1)) (C := RX4) (T := TX4) (N := 12) hx hb hts hiX4 hown hE.1 hP 0 rfl rfl 1 (by decide) f7 (fun _ h9 => h9) rfl dX4_does_109 ?_
    refine lv_bipush (v := (nI 21)) hx hb dX4_does_112 (by decide) ?_
    refine lv_iload_n hx hb dX4_does_114 rfl (lv_at hl 0 rfl) ?_
    refine lv_iadd hx hb dX4_does_115 ?_
    refine k_top (nI_add _ _) ?_
    refine k_iald (f := (ms m9)) hx hb hE hP 1 rfl (21 + (6 * x9 + y9)) rfl (by omega) (by decide) dX4_does_116 ?_
    refine lv_if_le (tgt := 148) hx hb dX4_does_117 (by decide) (fun c12 => ?_) (fun c12 => ?_)
    ·
      refine lv_iconst (v := (nI 0)) hx hb dX4_does_148 (by decide) ?_
      have e13 : (sMs m9 (Mev (mrd m9) k (ms m9))) = m9 := (by first | (simp only [Mev, MevN, MevC, MevCB, MevL, MevLB, if_pos c12, if_neg (not_not_intro c12), if_neg hz99, if_neg hz108, if_pos hq0, hcl]; done) | (simp only [Mev, MevN, MevC, MevCB, MevL, MevLB, if_pos c12, if_neg (not_not_intro c12), if_neg hz99, if_neg hz108, if_pos hq0, hcl]; rfl) | rfl | (simp [Mev, MevN, MevC, MevCB, MevL, MevLB, if_pos c12, if_neg (not_not_intro c12), if_neg hz99, if_neg hz108, if_pos hq0, hcl]; done))
      have hP : va_P g.1 vwCl (wM g a (sMs m9 (Mev (mrd m9) k (ms m9)))) H := by rw [e13]; exact hP
      have hD : va_D A (wM g a (sMs m9 (Mev (mrd m9) k (ms m9)))) := by rw [e13]; exact hD
      exact k_iret hx hb hr hlocks rfl (by first | (simp only [Mev, MevN, MevC, MevCB, MevL, MevLB, bI, if_pos c12, if_neg (not_not_intro c12), if_neg hz99, if_neg hz108, if_pos hq0, hcl]; done) | (simp only [Mev, MevN, MevC, MevCB, MevL, MevLB, bI, if_pos c12, if_neg (not_not_intro c12), if_neg hz99, if_neg hz108, if_pos hq0, hcl]; rfl) | rfl | (simp [Mev, MevN, MevC, MevCB, MevL, MevLB, bI, if_pos c12, if_neg (not_not_intro c12), if_neg hz99, if_neg hz108, if_pos hq0, hcl]; done)) hP hD hS (Nat.le_of_ble_eq_true rfl) (Nat.le_of_ble_eq_true rfl) dX4_does_149
    ·
      refine lv_aload_n hx hb dX4_does_120 rfl (lv_at hl 2 rfl) ?_
      refine lv_iload_n hx hb dX4_does_121 rfl (lv_at hl 0 rfl) ?_
      refine lv_aload_n hx hb dX4_does_122 rfl (lv_at hl 2 rfl) ?_
      refine va_get (D := g.1) (ci := 4) (v := .ref (a 5)) (C := RX4) (T := TX4) (N := 12) hx hb hts hiX4 hown hE.1 hP 0 rfl rfl 9 (by decide) f22 (fun _ h9 => h9) rfl dX4_does_123 ?_
      refine lv_iload_n hx hb dX4_does_126 rfl (lv_at hl 3 rfl) ?_
      refine k_iald (f := (mrd m9)) hx hb hE hP 5 rfl k rfl (by omega) (by decide) dX4_does_127 ?_
      refine k_top hq0 ?_
      refine lv_bipush (v := (nI 108)) hx hb dX4_does_128 (by decide) ?_
      refine k_neN (tgt := 137) hx hb (by decide) (by decide) dX4_does_130 (by decide) (fun c14 => ?_) (fun c14 => ?_)
      ·
        refine lv_iconst (v := (nI 0)) hx hb dX4_does_137 (by decide) ?_
        refine k_Vi (As := [.int (nI (6 * x9 + y9)), .int (nI 0)]) (r := (Mleaves (6 * x9 + y9) 0 (ms m9) (21 + (6 * x9 + y9)))) hF (c_X4_leaves l g a m9 (6 * x9 + y9) (by omega) 0 (by decide)) (cwV 2 hts gX4_does_X4_leaves rfl rfl rfl (by decide +kernel) ⟨Nat.le_of_ble_eq_true rfl, Nat.le_of_ble_eq_true rfl⟩) hE hP hD hS hA (k_pall _) ((k_pall _).symm) 0 rfl rfl rfl rfl hl.1 rfl (Nat.le_of_ble_eq_true rfl) dX4_does_138 ⟨Nat.le_of_ble_eq_true rfl, Nat.le_of_ble_eq_true rfl⟩ (fun H locs hP hD hS => ?_)
        have hP : va_P g.1 vwCl (wM g a (sMs m9 (Mleaves (6 * x9 + y9) 0 (ms m9)))) _ := hP
        have hD : va_D A (wM g a (sMs m9 (Mleaves (6 * x9 + y9) 0 (ms m9)))) := hD
        refine lv_if_lt (tgt := 148) hx hb dX4_does_141 (by decide) (fun c15 => ?_) (fun c15 => ?_)
        ·
          refine lv_iconst (v := (nI 0)) hx hb dX4_does_148 (by decide) ?_
          have e16 : (sMs m9 (Mev (mrd m9) k (ms m9))) = (sMs m9 (Mleaves (6 * x9 + y9) 0 (ms m9))) := (by first | (simp only [Mev, MevN, MevC, MevCB, MevL, MevLB, if_neg c12, if_pos c12, if_neg c14, if_pos c14, if_pos c15, if_neg (not_not_intro c15), if_neg hz99, if_neg hz108, if_pos hq0, hcl]; done) | (simp only [Mev, MevN, MevC, MevCB, MevL, MevLB, if_neg c12, if_pos c12, if_neg c14, if_pos c14, if_pos c15, if_neg (not_not_intro c15), if_neg hz99, if_neg hz108, if_pos hq0, hcl]; rfl) | rfl | (simp [Mev, MevN, MevC, MevCB, MevL, MevLB, if_neg c12, if_pos c12, if_neg c14, if_pos c14, if_pos c15, if_neg (not_not_intro c15), if_neg hz99, if_neg hz108, if_pos hq0, hcl]; done))
          have hP : va_P g.1 vwCl (wM g a (sMs m9 (Mev (mrd m9) k (ms m9)))) H := by rw [e16]; exact hP
          have hD : va_D A (wM g a (sMs m9 (Mev (mrd m9) k (ms m9)))) := by rw [e16]; exact hD
          exact k_iret hx hb hr hlocks rfl (by first | (simp only [Mev, MevN, MevC, MevCB, MevL, MevLB, bI, if_neg c12, if_pos c12, if_neg c14, if_pos c14, if_pos c15, if_neg (not_not_intro c15), if_neg hz99, if_neg hz108, if_pos hq0, hcl]; done) | (simp only [Mev, MevN, MevC, MevCB, MevL, MevLB, bI, if_neg c12, if_pos c12, if_neg c14, if_pos c14, if_pos c15, if_neg (not_not_intro c15), if_neg hz99, if_neg hz108, if_pos hq0, hcl]; rfl) | rfl | (simp [Mev, MevN, MevC, MevCB, MevL, MevLB, bI, if_neg c12, if_pos c12, if_neg c14, if_pos c14, if_pos c15, if_neg (not_not_intro c15), if_neg hz99, if_neg hz108, if_pos hq0, hcl]; done)) hP hD hS (Nat.le_of_ble_eq_true rfl) (Nat.le_of_ble_eq_true rfl) dX4_does_149
        ·
          refine lv_iconst (v := (nI 1)) hx hb dX4_does_144 (by decide) ?_
          refine lv_goto (tgt := 149) hx hb dX4_does_145 (by decide) ?_
          have e17 : (sMs m9 (Mev (mrd m9) k (ms m9))) = (sMs m9 (Mleaves (6 * x9 + y9) 0 (ms m9))) := (by first | (simp only [Mev, MevN, MevC, MevCB, MevL, MevLB, if_neg c12, if_pos c12, if_neg c14, if_pos c14, if_neg c15, if_pos c15, if_neg hz99, if_neg hz108, if_pos hq0, hcl]; done) | (simp only [Mev, MevN, MevC, MevCB, MevL, MevLB, if_neg c12, if_pos c12, if_neg c14, if_pos c14, if_neg c15, if_pos c15, if_neg hz99, if_neg hz108, if_pos hq0, hcl]; rfl) | rfl | (simp [Mev, MevN, MevC, MevCB, MevL, MevLB, if_neg c12, if_pos c12, if_neg c14, if_pos c14, if_neg c15, if_pos c15, if_neg hz99, if_neg hz108, if_pos hq0, hcl]; done))
          have hP : va_P g.1 vwCl (wM g a (sMs m9 (Mev (mrd m9) k (ms m9)))) H := by rw [e17]; exact hP
          have hD : va_D A (wM g a (sMs m9 (Mev (mrd m9) k (ms m9)))) := by rw [e17]; exact hD
          exact k_iret hx hb hr hlocks rfl (by first | (simp only [Mev, MevN, MevC, MevCB, MevL, MevLB, bI, if_neg c12, if_pos c12, if_neg c14, if_pos c14, if_neg c15, if_pos c15, if_neg hz99, if_neg hz108, if_pos hq0, hcl]; done) | (simp only [Mev, MevN, MevC, MevCB, MevL, MevLB, bI, if_neg c12, if_pos c12, if_neg c14, if_pos c14, if_neg c15, if_pos c15, if_neg hz99, if_neg hz108, if_pos hq0, hcl]; rfl) | rfl | (simp [Mev, MevN, MevC, MevCB, MevL, MevLB, bI, if_neg c12, if_pos c12, if_neg c14, if_pos c14, if_neg c15, if_pos c15, if_neg hz99, if_neg hz108, if_pos hq0, hcl]; done)) hP hD hS (Nat.le_of_ble_eq_true rfl) (Nat.le_of_ble_eq_true rfl) dX4_does_149
      ·
        exact absurd c14 (by decide)
  ·
    have hz99 : ¬ mrd m9 k = nI 99 := by rw [hq0]; decide
    have hz108 : ¬ mrd m9 k = nI 108 := by rw [hq0]; decide
    have hz115 : ¬ mrd m9 k = nI 115 := by rw [hq0]; decide
    have hxc : (mrd m9 (k + 1)).toNatClampNeg = x9 := cl_eq hx (by omega)
    refine lv_aload_n hx hb dX4_does_0 rfl (lv_at hl 0 rfl) ?_
    refine va_get (D := g.1) (ci := 4) (v := .ref (a 5)) (C := RX4) (T := TX4) (N := 12) hx hb hts hiX4 hown hE.1 hP 0 rfl rfl 9 (by decide) f22 (fun _ h9 => h9) rfl dX4_does_1 ?_
    refine lv_iload_n hx hb dX4_does_4 rfl (lv_at hl 1 rfl) ?_
    refine lv_iconst (v := (nI 1)) hx hb dX4_does_5 (by decide) ?_
    refine lv_iadd hx hb dX4_does_6 ?_
    refine k_top (nI_add _ _) ?_
    refine k_iald (f := (mrd m9)) hx hb hE hP 5 rfl (k + 1) rfl (by omega) (by decide) dX4_does_7 ?_
    refine k_top hx ?_
    refine lv_istore_n (lv' := [(2, .int (nI x9)), (0, .ref (a 0)), (1, .int (nI k))]) hx hb dX4_does_8 rfl hl (by decide) rfl (fun ls hl => ?_)
    refine lv_iload_n hx hb dX4_does_9 rfl (lv_at hl 0 rfl) ?_
    refine lv_aload_n hx hb dX4_does_10 rfl (lv_at hl 1 rfl) ?_
    refine va_get (D := g.1) (ci := 4) (v := .ref (a 5)) (C := RX4) (T := TX4) (N := 12) hx hb hts hiX4 hown hE.1 hP 0 rfl rfl 9 (by decide) f22 (fun _ h9 => h9) rfl dX4_does_11 ?_
    refine lv_iload_n hx hb dX4_does_14 rfl (lv_at hl 2 rfl) ?_
    refine lv_iconst (v := (nI 2)) hx hb dX4_does_15 (by decide) ?_
    refine lv_iadd hx hb dX4_does_16 ?_
    refine k_top (nI_add _ _) ?_
    refine k_iald (f := (mrd m9)) hx hb hE hP 5 rfl (k + 2) rfl (by omega) (by decide) dX4_does_17 ?_
    refine k_Si (w0 := []) (w1 := []) (As := [.int (nI x9), .int ((mrd m9) (k + 2))]) (r := ((nI 6 * (nI x9)) + ((mrd m9) (k + 2)))) hF (c_X4_cellOfI l g (nI x9) ((mrd m9) (k + 2))) (va_cwS 2 hts gX4_does_X4_cellOf rfl rfl rfl (by decide +kernel) ⟨Nat.le_of_ble_eq_true rfl, Nat.le_of_ble_eq_true rfl⟩) hE hP hD hS hA (List.Perm.refl _) (List.Perm.refl _) rfl hl.1 rfl (Nat.le_of_ble_eq_true rfl) dX4_does_18 ⟨Nat.le_of_ble_eq_true rfl, Nat.le_of_ble_eq_true rfl⟩ (fun H locs hP hD hS => ?_)
    have hP : va_P g.1 vwCl (wM g a m9) _ := hP
    have hD : va_D A (wM g a m9) := hD
    refine lv_istore_n (lv' := [(3, .int ((nI 6 * (nI x9)) + ((mrd m9) (k + 2)))), (2, .int (nI x9)), (0, .ref (a 0)), (1, .int (nI k))]) hx hb dX4_does_21 rfl hl (by decide) rfl (fun ls hl => ?_)
    refine lv_aload_n hx hb dX4_does_22 rfl (lv_at hl 2 rfl) ?_
    refine va_get (D := g.1) (ci := 4) (v := .ref (a 5)) (C := RX4) (T := TX4) (N := 12) hx hb hts hiX4 hown hE.1 hP 0 rfl rfl 9 (by decide) f22 (fun _ h9 => h9) rfl dX4_does_23 ?_
    refine lv_iload_n hx hb dX4_does_26 rfl (lv_at hl 3 rfl) ?_
    refine k_iald (f := (mrd m9)) hx hb hE hP 5 rfl k rfl (by omega) (by decide) dX4_does_27 ?_
    refine k_top hq0 ?_
    refine lv_lookup (off := 122) (tgt := 150) hx hb dX4_does_28 (by decide) (by decide) (by decide) ?_
    refine lv_aload_n hx hb dX4_does_150 rfl (lv_at hl 2 rfl) ?_
    refine lv_iload_n hx hb dX4_does_151 rfl (lv_at hl 1 rfl) ?_
    refine k_Vi (As := [.int (nI x9)]) (r := (MplayQ (ms m9) x9 8)) hF (c_X4_plays l g a m9 x9 (by omega)) (cwV 1 hts gX4_does_X4_plays rfl rfl rfl (by decide +kernel) ⟨Nat.le_of_ble_eq_true rfl, Nat.le_of_ble_eq_true rfl⟩) hE hP hD hS hA (k_pall _) ((k_pall _).symm) 0 rfl rfl rfl rfl hl.1 rfl (Nat.le_of_ble_eq_true rfl) dX4_does_152 ⟨Nat.le_of_ble_eq_true rfl, Nat.le_of_ble_eq_true rfl⟩ (fun H locs hP hD hS => ?_)
    have hP : va_P g.1 vwCl (wM g a (sMs m9 (MplayN (ms m9) x9 8))) _ := hP
    have hD : va_D A (wM g a (sMs m9 (MplayN (ms m9) x9 8))) := hD
    refine lv_if_lt (tgt := 162) hx hb dX4_does_155 (by decide) (fun c18 => ?_) (fun c18 => ?_)
    ·
      refine lv_iconst (v := (nI 0)) hx hb dX4_does_162 (by decide) ?_
      have e19 : (sMs m9 (Mev (mrd m9) k (ms m9))) = (sMs m9 (MplayN (ms m9) x9 8)) := (by first | (simp only [Mev, MevN, MevC, MevCB, MevL, MevLB, if_pos c18, if_neg (not_not_intro c18), if_neg hz99, if_neg hz108, if_neg hz115, if_pos hq0, hxc]; done) | (simp only [Mev, MevN, MevC, MevCB, MevL, MevLB, if_pos c18, if_neg (not_not_intro c18), if_neg hz99, if_neg hz108, if_neg hz115, if_pos hq0, hxc]; rfl) | rfl | (simp [Mev, MevN, MevC, MevCB, MevL, MevLB, if_pos c18, if_neg (not_not_intro c18), if_neg hz99, if_neg hz108, if_neg hz115, if_pos hq0, hxc]; done))
      have hP : va_P g.1 vwCl (wM g a (sMs m9 (Mev (mrd m9) k (ms m9)))) H := by rw [e19]; exact hP
      have hD : va_D A (wM g a (sMs m9 (Mev (mrd m9) k (ms m9)))) := by rw [e19]; exact hD
      exact k_iret hx hb hr hlocks rfl (by first | (simp only [Mev, MevN, MevC, MevCB, MevL, MevLB, bI, if_pos c18, if_neg (not_not_intro c18), if_neg hz99, if_neg hz108, if_neg hz115, if_pos hq0, hxc]; done) | (simp only [Mev, MevN, MevC, MevCB, MevL, MevLB, bI, if_pos c18, if_neg (not_not_intro c18), if_neg hz99, if_neg hz108, if_neg hz115, if_pos hq0, hxc]; rfl) | rfl | (simp [Mev, MevN, MevC, MevCB, MevL, MevLB, bI, if_pos c18, if_neg (not_not_intro c18), if_neg hz99, if_neg hz108, if_neg hz115, if_pos hq0, hxc]; done)) hP hD hS (Nat.le_of_ble_eq_true rfl) (Nat.le_of_ble_eq_true rfl) dX4_does_163
    ·
      refine lv_iconst (v := (nI 1)) hx hb dX4_does_158 (by decide) ?_
      refine lv_goto (tgt := 163) hx hb dX4_does_159 (by decide) ?_
      have e20 : (sMs m9 (Mev (mrd m9) k (ms m9))) = (sMs m9 (MplayN (ms m9) x9 8)) := (by first | (simp only [Mev, MevN, MevC, MevCB, MevL, MevLB, if_neg c18, if_pos c18, if_neg hz99, if_neg hz108, if_neg hz115, if_pos hq0, hxc]; done) | (simp only [Mev, MevN, MevC, MevCB, MevL, MevLB, if_neg c18, if_pos c18, if_neg hz99, if_neg hz108, if_neg hz115, if_pos hq0, hxc]; rfl) | rfl | (simp [Mev, MevN, MevC, MevCB, MevL, MevLB, if_neg c18, if_pos c18, if_neg hz99, if_neg hz108, if_neg hz115, if_pos hq0, hxc]; done))
      have hP : va_P g.1 vwCl (wM g a (sMs m9 (Mev (mrd m9) k (ms m9)))) H := by rw [e20]; exact hP
      have hD : va_D A (wM g a (sMs m9 (Mev (mrd m9) k (ms m9)))) := by rw [e20]; exact hD
      exact k_iret hx hb hr hlocks rfl (by first | (simp only [Mev, MevN, MevC, MevCB, MevL, MevLB, bI, if_neg c18, if_pos c18, if_neg hz99, if_neg hz108, if_neg hz115, if_pos hq0, hxc]; done) | (simp only [Mev, MevN, MevC, MevCB, MevL, MevLB, bI, if_neg c18, if_pos c18, if_neg hz99, if_neg hz108, if_neg hz115, if_pos hq0, hxc]; rfl) | rfl | (simp [Mev, MevN, MevC, MevCB, MevL, MevLB, bI, if_neg c18, if_pos c18, if_neg hz99, if_neg hz108, if_neg hz115, if_pos hq0, hxc]; done)) hP hD hS (Nat.le_of_ble_eq_true rfl) (Nat.le_of_ble_eq_true rfl) dX4_does_163
  ·
    have hz99 : ¬ mrd m9 k = nI 99 := by rw [hq0]; decide
    have hz108 : ¬ mrd m9 k = nI 108 := by rw [hq0]; decide
    have hz115 : ¬ mrd m9 k = nI 115 := by rw [hq0]; decide
    have hz112 : ¬ mrd m9 k = nI 112 := by rw [hq0]; decide
    have hxc : (mrd m9 (k + 1)).toNatClampNeg = x9 := cl_eq hx (by omega)
    refine lv_aload_n hx hb dX4_does_0 rfl (lv_at hl 0 rfl) ?_
    refine va_get (D := g.1) (ci := 4) (v := .ref (a 5)) (C := RX4) (T := TX4) (N := 12) hx hb hts hiX4 hown hE.1 hP 0 rfl rfl 9 (by decide) f22 (fun _ h9 => h9) rfl dX4_does_1 ?_
    refine lv_iload_n hx hb dX4_does_4 rfl (lv_at hl 1 rfl) ?_
    refine lv_iconst (v := (nI 1)) hx hb dX4_does_5 (by decide) ?_
    refine lv_iadd hx hb dX4_does_6 ?_
    refine k_top (nI_add _ _) ?_
    refine k_iald (f := (mrd m9)) hx hb hE hP 5 rfl (k + 1) rfl (by omega) (by decide) dX4_does_7 ?_
    refine k_top hx ?_
    refine lv_istore_n (lv' := [(2, .int (nI x9)), (0, .ref (a 0)), (1, .int (nI k))]) hx hb dX4_does_8 rfl hl (by decide) rfl (fun ls hl => ?_)
    refine lv_iload_n hx hb dX4_does_9 rfl (lv_at hl 0 rfl) ?_
    refine lv_aload_n hx hb dX4_does_10 rfl (lv_at hl 1 rfl) ?_
    refine va_get (D := g.1) (ci := 4) (v := .ref (a 5)) (C := RX4) (T := TX4) (N := 12) hx hb hts hiX4 hown hE.1 hP 0 rfl rfl 9 (by decide) f22 (fun _ h9 => h9) rfl dX4_does_11 ?_
    refine lv_iload_n hx hb dX4_does_14 rfl (lv_at hl 2 rfl) ?_
    refine lv_iconst (v := (nI 2)) hx hb dX4_does_15 (by decide) ?_
    refine lv_iadd hx hb dX4_does_16 ?_
    refine k_top (nI_add _ _) ?_
    refine k_iald (f := (mrd m9)) hx hb hE hP 5 rfl (k + 2) rfl (by omega) (by decide) dX4_does_17 ?_
    refine k_Si (w0 := []) (w1 := []) (As := [.int (nI x9), .int ((mrd m9) (k + 2))]) (r := ((nI 6 * (nI x9)) + ((mrd m9) (k + 2)))) hF (c_X4_cellOfI l g (nI x9) ((mrd m9) (k + 2))) (va_cwS 2 hts gX4_does_X4_cellOf rfl rfl rfl (by decide +kernel) ⟨Nat.le_of_ble_eq_true rfl, Nat.le_of_ble_eq_true rfl⟩) hE hP hD hS hA (List.Perm.refl _) (List.Perm.refl _) rfl hl.1 rfl (Nat.le_of_ble_eq_true rfl) dX4_does_18 ⟨Nat.le_of_ble_eq_true rfl, Nat.le_of_ble_eq_true rfl⟩ (fun H locs hP hD hS => ?_)
    have hP : va_P g.1 vwCl (wM g a m9) _ := hP
    have hD : va_D A (wM g a m9) := hD
    refine lv_istore_n (lv' := [(3, .int ((nI 6 * (nI x9)) + ((mrd m9) (k + 2)))), (2, .int (nI x9)), (0, .ref (a 0)), (1, .int (nI k))]) hx hb dX4_does_21 rfl hl (by decide) rfl (fun ls hl => ?_)
    refine lv_aload_n hx hb dX4_does_22 rfl (lv_at hl 2 rfl) ?_
    refine va_get (D := g.1) (ci := 4) (v := .ref (a 5)) (C := RX4) (T := TX4) (N := 12) hx hb hts hiX4 hown hE.1 hP 0 rfl rfl 9 (by decide) f22 (fun _ h9 => h9) rfl dX4_does_23 ?_
    refine lv_iload_n hx hb dX4_does_26 rfl (lv_at hl 3 rfl) ?_
    refine k_iald (f := (mrd m9)) hx hb hE hP 5 rfl k rfl (by omega) (by decide) dX4_does_27 ?_
    refine k_top hq0 ?_
    refine lv_lookup (off := 136) (tgt := 164) hx hb dX4_does_28 (by decide) (by decide) (by decide) ?_
    refine lv_aload_n hx hb dX4_does_164 rfl (lv_at hl 2 rfl) ?_
    refine lv_iload_n hx hb dX4_does_165 rfl (lv_at hl 1 rfl) ?_
    refine k_Vi (As := [.int (nI x9)]) (r := (MgoQ (ms m9) x9)) hF (c_X4_passes l g a m9 x9 (by omega)) (cwV 1 hts gX4_does_X4_passes rfl rfl rfl (by decide +kernel) ⟨Nat.le_of_ble_eq_true rfl, Nat.le_of_ble_eq_true rfl⟩) hE hP hD hS hA (k_pall _) ((k_pall _).symm) 0 rfl rfl rfl rfl hl.1 rfl (Nat.le_of_ble_eq_true rfl) dX4_does_166 ⟨Nat.le_of_ble_eq_true rfl, Nat.le_of_ble_eq_true rfl⟩ (fun H locs hP hD hS => ?_)
    have hP : va_P g.1 vwCl (wM g a (sMs m9 (MgoN (ms m9) x9))) _ := hP
    have hD : va_D A (wM g a (sMs m9 (MgoN (ms m9) x9))) := hD
    refine lv_if_lt (tgt := 176) hx hb dX4_does_169 (by decide) (fun c21 => ?_) (fun c21 => ?_)
    ·
      refine lv_iconst (v := (nI 0)) hx hb dX4_does_176 (by decide) ?_
      have e22 : (sMs m9 (Mev (mrd m9) k (ms m9))) = (sMs m9 (MgoN (ms m9) x9)) := (by first | (simp only [Mev, MevN, MevC, MevCB, MevL, MevLB, if_pos c21, if_neg (not_not_intro c21), if_neg hz99, if_neg hz108, if_neg hz115, if_neg hz112, if_pos hq0, hxc]; done) | (simp only [Mev, MevN, MevC, MevCB, MevL, MevLB, if_pos c21, if_neg (not_not_intro c21), if_neg hz99, if_neg hz108, if_neg hz115, if_neg hz112, if_pos hq0, hxc]; rfl) | rfl | (simp [Mev, MevN, MevC, MevCB, MevL, MevLB, if_pos c21, if_neg (not_not_intro c21), if_neg hz99, if_neg hz108, if_neg hz115, if_neg hz112, if_pos hq0, hxc]; done))
      have hP : va_P g.1 vwCl (wM g a (sMs m9 (Mev (mrd m9) k (ms m9)))) H := by rw [e22]; exact hP
      have hD : va_D A (wM g a (sMs m9 (Mev (mrd m9) k (ms m9)))) := by rw [e22]; exact hD
      exact k_iret hx hb hr hlocks rfl (by first | (simp only [Mev, MevN, MevC, MevCB, MevL, MevLB, bI, if_pos c21, if_neg (not_not_intro c21), if_neg hz99, if_neg hz108, if_neg hz115, if_neg hz112, if_pos hq0, hxc]; done) | (simp only [Mev, MevN, MevC, MevCB, MevL, MevLB, bI, if_pos c21, if_neg (not_not_intro c21), if_neg hz99, if_neg hz108, if_neg hz115, if_neg hz112, if_pos hq0, hxc]; rfl) | rfl | (simp [Mev, MevN, MevC, MevCB, MevL, MevLB, bI, if_pos c21, if_neg (not_not_intro c21), if_neg hz99, if_neg hz108, if_neg hz115, if_neg hz112, if_pos hq0, hxc]; done)) hP hD hS (Nat.le_of_ble_eq_true rfl) (Nat.le_of_ble_eq_true rfl) dX4_does_177
    ·
      refine lv_iconst (v := (nI 1)) hx hb dX4_does_172 (by decide) ?_
      refine lv_goto (tgt := 177) hx hb dX4_does_173 (by decide) ?_
      have e23 : (sMs m9 (Mev (mrd m9) k (ms m9))) = (sMs m9 (MgoN (ms m9) x9)) := (by first | (simp only [Mev, MevN, MevC, MevCB, MevL, MevLB, if_neg c21, if_pos c21, if_neg hz99, if_neg hz108, if_neg hz115, if_neg hz112, if_pos hq0, hxc]; done) | (simp only [Mev, MevN, MevC, MevCB, MevL, MevLB, if_neg c21, if_pos c21, if_neg hz99, if_neg hz108, if_neg hz115, if_neg hz112, if_pos hq0, hxc]; rfl) | rfl | (simp [Mev, MevN, MevC, MevCB, MevL, MevLB, if_neg c21, if_pos c21, if_neg hz99, if_neg hz108, if_neg hz115, if_neg hz112, if_pos hq0, hxc]; done))
      have hP : va_P g.1 vwCl (wM g a (sMs m9 (Mev (mrd m9) k (ms m9)))) H := by rw [e23]; exact hP
      have hD : va_D A (wM g a (sMs m9 (Mev (mrd m9) k (ms m9)))) := by rw [e23]; exact hD
      exact k_iret hx hb hr hlocks rfl (by first | (simp only [Mev, MevN, MevC, MevCB, MevL, MevLB, bI, if_neg c21, if_pos c21, if_neg hz99, if_neg hz108, if_neg hz115, if_neg hz112, if_pos hq0, hxc]; done) | (simp only [Mev, MevN, MevC, MevCB, MevL, MevLB, bI, if_neg c21, if_pos c21, if_neg hz99, if_neg hz108, if_neg hz115, if_neg hz112, if_pos hq0, hxc]; rfl) | rfl | (simp [Mev, MevN, MevC, MevCB, MevL, MevLB, bI, if_neg c21, if_pos c21, if_neg hz99, if_neg hz108, if_neg hz115, if_neg hz112, if_pos hq0, hxc]; done)) hP hD hS (Nat.le_of_ble_eq_true rfl) (Nat.le_of_ble_eq_true rfl) dX4_does_177
  ·
    have hz99 : ¬ mrd m9 k = nI 99 := by rw [hq0]; decide
    have hz108 : ¬ mrd m9 k = nI 108 := by rw [hq0]; decide
    have hz115 : ¬ mrd m9 k = nI 115 := by rw [hq0]; decide
    have hz112 : ¬ mrd m9 k = nI 112 := by rw [hq0]; decide
    have hz116 : ¬ mrd m9 k = nI 116 := by rw [hq0]; decide
    have hxc : (mrd m9 (k + 1)).toNatClampNeg = x9 := cl_eq hx (by omega)
    refine lv_aload_n hx hb dX4_does_0 rfl (lv_at hl 0 rfl) ?_
    refine va_get (D := g.1) (ci := 4) (v := .ref (a 5)) (C := RX4) (T := TX4) (N := 12) hx hb hts hiX4 hown hE.1 hP 0 rfl rfl 9 (by decide) f22 (fun _ h9 => h9) rfl dX4_does_1 ?_
    refine lv_iload_n hx hb dX4_does_4 rfl (lv_at hl 1 rfl) ?_
    refine lv_iconst (v := (nI 1)) hx hb dX4_does_5 (by decide) ?_
    refine lv_iadd hx hb dX4_does_6 ?_
    refine k_top (nI_add _ _) ?_
    refine k_iald (f := (mrd m9)) hx hb hE hP 5 rfl (k + 1) rfl (by omega) (by decide) dX4_does_7 ?_
    refine k_top hx ?_
    refine lv_istore_n (lv' := [(2, .int (nI x9)), (0, .ref (a 0)), (1, .int (nI k))]) hx hb dX4_does_8 rfl hl (by decide) rfl (fun ls hl => ?_)
    refine lv_iload_n hx hb dX4_does_9 rfl (lv_at hl 0 rfl) ?_
    refine lv_aload_n hx hb dX4_does_10 rfl (lv_at hl 1 rfl) ?_
    refine va_get (D := g.1) (ci := 4) (v := .ref (a 5)) (C := RX4) (T := TX4) (N := 12) hx hb hts hiX4 hown hE.1 hP 0 rfl rfl 9 (by decide) f22 (fun _ h9 => h9) rfl dX4_does_11 ?_
    refine lv_iload_n hx hb dX4_does_14 rfl (lv_at hl 2 rfl) ?_
    refine lv_iconst (v := (nI 2)) hx hb dX4_does_15 (by decide) ?_
    refine lv_iadd hx hb dX4_does_16 ?_
    refine k_top (nI_add _ _) ?_
    refine k_iald (f := (mrd m9)) hx hb hE hP 5 rfl (k + 2) rfl (by omega) (by decide) dX4_does_17 ?_
    refine k_Si (w0 := []) (w1 := []) (As := [.int (nI x9), .int ((mrd m9) (k + 2))]) (r := ((nI 6 * (nI x9)) + ((mrd m9) (k + 2)))) hF (c_X4_cellOfI l g (nI x9) ((mrd m9) (k + 2))) (va_cwS 2 hts gX4_does_X4_cellOf rfl rfl rfl (by decide +kernel) ⟨Nat.le_of_ble_eq_true rfl, Nat.le_of_ble_eq_true rfl⟩) hE hP hD hS hA (List.Perm.refl _) (List.Perm.refl _) rfl hl.1 rfl (Nat.le_of_ble_eq_true rfl) dX4_does_18 ⟨Nat.le_of_ble_eq_true rfl, Nat.le_of_ble_eq_true rfl⟩ (fun H locs hP hD hS => ?_)
    have hP : va_P g.1 vwCl (wM g a m9) _ := hP
    have hD : va_D A (wM g a m9) := hD
    refine lv_istore_n (lv' := [(3, .int ((nI 6 * (nI x9)) + ((mrd m9) (k + 2)))), (2, .int (nI x9)), (0, .ref (a 0)), (1, .int (nI k))]) hx hb dX4_does_21 rfl hl (by decide) rfl (fun ls hl => ?_)
    refine lv_aload_n hx hb dX4_does_22 rfl (lv_at hl 2 rfl) ?_
    refine va_get (D := g.1) (ci := 4) (v := .ref (a 5)) (C := RX4) (T := TX4) (N := 12) hx hb hts hiX4 hown hE.1 hP 0 rfl rfl 9 (by decide) f22 (fun _ h9 => h9) rfl dX4_does_23 ?_
    refine lv_iload_n hx hb dX4_does_26 rfl (lv_at hl 3 rfl) ?_
    refine k_iald (f := (mrd m9)) hx hb hE hP 5 rfl k rfl (by omega) (by decide) dX4_does_27 ?_
    refine k_top hq0 ?_
    refine lv_lookup (off := 150) (tgt := 178) hx hb dX4_does_28 (by decide) (by decide) (by decide) ?_
    refine lv_aload_n hx hb dX4_does_178 rfl (lv_at hl 2 rfl) ?_
    refine va_get (D := g.1) (ci := 4) (v := .ref (a 1)) (C := RX4) (T := TX4) (N := 12) hx hb hts hiX4 hown hE.1 hP 0 rfl rfl 1 (by decide) f7 (fun _ h9 => h9) rfl dX4_does_179 ?_
    refine lv_bipush (v := (nI 13)) hx hb dX4_does_182 (by decide) ?_
    refine lv_iload_n hx hb dX4_does_184 rfl (lv_at hl 1 rfl) ?_
    refine lv_iadd hx hb dX4_does_185 ?_
    refine k_top (nI_add _ _) ?_
    refine lv_iconst (v := (nI 1)) hx hb dX4_does_186 (by decide) ?_
    refine lv_aload_n hx hb dX4_does_187 rfl (lv_at hl 2 rfl) ?_
    refine va_get (D := g.1) (ci := 4) (v := .ref (a 1)) (C := RX4) (T := TX4) (N := 12) hx hb hts hiX4 hown hE.1 hP 0 rfl rfl 1 (by decide) f7 (fun _ h9 => h9) rfl dX4_does_188 ?_
    refine lv_bipush (v := (nI 13)) hx hb dX4_does_191 (by decide) ?_
    refine lv_iload_n hx hb dX4_does_193 rfl (lv_at hl 1 rfl) ?_
    refine lv_iadd hx hb dX4_does_194 ?_
    refine k_top (nI_add _ _) ?_
    refine k_iald (f := (ms m9)) hx hb hE hP 1 rfl (13 + x9) rfl (by omega) (by decide) dX4_does_195 ?_
    refine lv_isub hx hb dX4_does_196 ?_
    refine k_iast (f := (ms m9)) (ws1 := (wM g a (sMs m9 (upd (ms m9) (13 + x9) ((nI 1) - ((ms m9) (13 + x9))))))) hx hb hE hP hD hS 1 rfl (13 + x9) rfl (by omega) (by decide) rfl dX4_does_197 (fun H locs hP hD hS => ?_)
    refine lv_iconst (v := (nI 1)) hx hb dX4_does_198 (by decide) ?_
    have hP : va_P g.1 vwCl (wM g a (sMs m9 (Mev (mrd m9) k (ms m9)))) _ := hP
    have hD : va_D A (wM g a (sMs m9 (Mev (mrd m9) k (ms m9)))) := hD
    exact k_iret hx hb hr hlocks rfl (by first | rfl | (simp only [Mev, MevN, MevC, MevCB, MevL, MevLB, bI, if_neg hz99, if_neg hz108, if_neg hz115, if_neg hz112, if_neg hz116, hxc]; done) | (simp only [Mev, MevN, MevC, MevCB, MevL, MevLB, bI, if_neg hz99, if_neg hz108, if_neg hz115, if_neg hz112, if_neg hz116, hxc]; rfl) | (simp [Mev, MevN, MevC, MevCB, MevL, MevLB, bI, if_neg hz99, if_neg hz108, if_neg hz115, if_neg hz112, if_neg hz116, hxc]; done)) hP hD hS (Nat.le_of_ble_eq_true rfl) (Nat.le_of_ble_eq_true rfl) dX4_does_199
set_option maxHeartbeats 4000000 in
set_option maxRecDepth 100000 in
theorem c_X4_run (l : Launch) (g : kG) (a : Nat → Nat) (m9 : MSt) (n : Nat) (hn : n ≤ 60) (hln : mln m9 = nI n) (hbf : Tok (mbf m9) n) (j : Nat) (hj : j ≤ 6) (hjm : msm m9 = nI j) : KI l yX4_run wsX4_run ({ frames := 5, cells := 0, slots := 0, locals := 108 }) g [.ref (a 0)] (wM g a m9) (nI (MrunR n m9)) (wM g a (MrunM j n m9)) 0 0 := by
  refine k_begin (cc := cX4_run) (maxL := 2) (ret := (some .int)) (Qc := fun A => kQi g (nI (MrunR n m9)) (wM g a (MrunM j n m9)) A) (by decide) rfl (Nat.le_of_ble_eq_true rfl) ?_
  intro p e s m below meth c A ls hF hr hlocks hin hE hP hD hS hA hl
  obtain ⟨hx, hb, hml, hown, hts⟩ := id hF
  have hown : s.vm.findClass RX4 = some m.cls := hown
  have hl : lv_has ls 2 [(0, .ref (a 0))] := hl
  have hiX4 : ∀ w ∈ wsX40, w ∈ wsX4_run := fun _ h => List.mem_cons_of_mem _ (List.mem_append_right _ (h))
  have f25 : (Cond.fieldLink RX4 25 "ConcertUsherModel" "thrown" "I").before _ s = true := hts _ (List.mem_of_getElem? (i := 1) rfl)
  have f113 : (Cond.fieldLink RX4 113 "ConcertUsherModel" "length" "I").before _ s = true := hts _ (List.mem_of_getElem? (i := 2) rfl)
  have f129 : (Cond.fieldLink RX4 129 "ConcertUsherModel" "readMany" "I").before _ s = true := hts _ (List.mem_of_getElem? (i := 3) rfl)
  refine lv_aload_n hx hb dX4_run_0 rfl (lv_at hl 0 rfl) ?_
  refine lv_iconst (v := (nI 0)) hx hb dX4_run_1 (by decide) ?_
  refine va_put (D := g.1) (ci := 4) (v := .int (nI 0)) (ty := .int) (C := RX4) (T := TX4) (N := 12) hx hb hts hiX4 tyX4 tyX4_ok nmX4 hown hE.1 hP hD hS 0 rfl rfl 0 (by decide) f25 (fun _ h9 => h9) rfl (tyX4_ok 0 (by decide)) rfl rfl (Nat.le_of_ble_eq_true rfl) dX4_run_2 (fun H locs hP hD hS => ?_)
  have hP : va_P g.1 vwCl (wM g a (sMth m9 (nI 0))) _ := hP
  have hD : va_D A (wM g a (sMth m9 (nI 0))) := hD
  refine lv_aload_n hx hb dX4_run_5 rfl (lv_at hl 0 rfl) ?_
  refine k_Vi (As := []) (r := (nI ((rFin (mbf m9) n (mrd m9)).2.1))) hF (c_X4_reads l g a (sMth m9 (nI 0)) n hn hln hbf) (cwV 0 hts gX4_run_X4_reads rfl rfl rfl (by decide +kernel) ⟨Nat.le_of_ble_eq_true rfl, Nat.le_of_ble_eq_true rfl⟩) hE hP hD hS hA (k_pall _) ((k_pall _).symm) 0 rfl rfl rfl rfl hl.1 rfl (Nat.le_of_ble_eq_true rfl) dX4_run_6 ⟨Nat.le_of_ble_eq_true rfl, Nat.le_of_ble_eq_true rfl⟩ (fun H locs hP hD hS => ?_)
  have hP : va_P g.1 vwCl (wM g a (sMrm (sMrd (sMat (sMiw (sMth m9 (nI 0)) (nI (rFin (mbf m9) n (mrd m9)).2.1)) (nI (rFin (mbf m9) n (mrd m9)).1)) ((rFin (mbf m9) n (mrd m9)).2.2.2)) (nI (rFin (mbf m9) n (mrd m9)).2.2.1))) _ := hP
  have hD : va_D A (wM g a (sMrm (sMrd (sMat (sMiw (sMth m9 (nI 0)) (nI (rFin (mbf m9) n (mrd m9)).2.1)) (nI (rFin (mbf m9) n (mrd m9)).1)) ((rFin (mbf m9) n (mrd m9)).2.2.2)) (nI (rFin (mbf m9) n (mrd m9)).2.2.1))) := hD
  refine k_ifn0 (tgt := 18) hx hb (Nat.lt_of_lt_of_le (rFin_lt hn hbf (mrd m9)).1 (by decide)) dX4_run_9 (by decide) (fun c1 => ?_) (fun c1 => ?_)
  ·
    have hw0 : ¬ (rFin (mbf m9) n (mrd m9)).2.1 = 0 := c1
    have hr3 := (rFin_lt hn hbf (mrd m9)).2.2
    refine lv_aload_n hx hb dX4_run_18 rfl (lv_at hl 0 rfl) ?_
    refine k_Vv (As := []) hF (c_X4_saves l g a (sMrm (sMrd (sMat (sMiw (sMth m9 (nI 0)) (nI (rFin (mbf m9) n (mrd m9)).2.1)) (nI (rFin (mbf m9) n (mrd m9)).1)) ((rFin (mbf m9) n (mrd m9)).2.2.2)) (nI (rFin (mbf m9) n (mrd m9)).2.2.1)) j hj hjm) (cwV 0 hts gX4_run_X4_saves rfl rfl rfl (by decide +kernel) ⟨Nat.le_of_ble_eq_true rfl, Nat.le_of_ble_eq_true rfl⟩) hE hP hD hS hA (k_pall _) ((k_pall _).symm) 0 rfl rfl rfl rfl hl.1 rfl (Nat.le_of_ble_eq_true rfl) dX4_run_19 ⟨Nat.le_of_ble_eq_true rfl, Nat.le_of_ble_eq_true rfl⟩ (fun H locs hP hD hS => ?_)
    have hP : va_P g.1 vwCl (wM g a (sMsm (sMsv (sMrm (sMrd (sMat (sMiw (sMth m9 (nI 0)) (nI (rFin (mbf m9) n (mrd m9)).2.1)) (nI (rFin (mbf m9) n (mrd m9)).1)) ((rFin (mbf m9) n (mrd m9)).2.2.2)) (nI (rFin (mbf m9) n (mrd m9)).2.2.1)) (Msv (ms m9) (msv m9) j)) (nI (kSz j)))) _ := hP
    have hD : va_D A (wM g a (sMsm (sMsv (sMrm (sMrd (sMat (sMiw (sMth m9 (nI 0)) (nI (rFin (mbf m9) n (mrd m9)).2.1)) (nI (rFin (mbf m9) n (mrd m9)).1)) ((rFin (mbf m9) n (mrd m9)).2.2.2)) (nI (rFin (mbf m9) n (mrd m9)).2.2.1)) (Msv (ms m9) (msv m9) j)) (nI (kSz j)))) := hD
    refine lv_aload_n hx hb dX4_run_22 rfl (lv_at hl 0 rfl) ?_
    refine lv_iconst (v := (nI 0)) hx hb dX4_run_23 (by decide) ?_
    refine va_put (D := g.1) (ci := 4) (v := .int (nI 0)) (ty := .int) (C := RX4) (T := TX4) (N := 12) hx hb hts hiX4 tyX4 tyX4_ok nmX4 hown hE.1 hP hD hS 0 rfl rfl 6 (by decide) f113 (fun _ h9 => h9) rfl (tyX4_ok 6 (by decide)) rfl rfl (Nat.le_of_ble_eq_true rfl) dX4_run_24 (fun H locs hP hD hS => ?_)
    have hP : va_P g.1 vwCl (wM g a (sMln (sMsm (sMsv (sMrm (sMrd (sMat (sMiw (sMth m9 (nI 0)) (nI (rFin (mbf m9) n (mrd m9)).2.1)) (nI (rFin (mbf m9) n (mrd m9)).1)) ((rFin (mbf m9) n (mrd m9)).2.2.2)) (nI (rFin (mbf m9) n (mrd m9)).2.2.1)) (Msv (ms m9) (msv m9) j)) (nI (kSz j))) (nI 0))) _ := hP
    have hD : va_D A (wM g a (sMln (sMsm (sMsv (sMrm (sMrd (sMat (sMiw (sMth m9 (nI 0)) (nI (rFin (mbf m9) n (mrd m9)).2.1)) (nI (rFin (mbf m9) n (mrd m9)).1)) ((rFin (mbf m9) n (mrd m9)).2.2.2)) (nI (rFin (mbf m9) n (mrd m9)).2.2.1)) (Msv (ms m9) (msv m9) j)) (nI (kSz j))) (nI 0))) := hD
    refine lv_iconst (v := (nI 0)) hx hb dX4_run_27 (by decide) ?_
    refine lv_istore_n (lv' := [(1, .int (nI 0)), (0, .ref (a 0))]) hx hb dX4_run_28 rfl hl (by decide) rfl (fun ls hl => ?_)
    refine k_loop (N := (rFin (mbf m9) n (mrd m9)).2.2.1) (Inv := fun (i : Nat) (H : Heap) (locs : List Loc) (ls : Array Slot) => va_P g.1 vwCl (wM g a (sMs (sMln (sMsm (sMsv (sMrm (sMrd (sMat (sMiw (sMth m9 (nI 0)) (nI (rFin (mbf m9) n (mrd m9)).2.1)) (nI (rFin (mbf m9) n (mrd m9)).1)) ((rFin (mbf m9) n (mrd m9)).2.2.2)) (nI (rFin (mbf m9) n (mrd m9)).2.2.1)) (Msv (ms m9) (msv m9) j)) (nI (kSz j))) (nI 0)) (MrunN (rFin (mbf m9) n (mrd m9)).2.2.2 (ms m9) i))) H ∧ va_D A (wM g a (sMs (sMln (sMsm (sMsv (sMrm (sMrd (sMat (sMiw (sMth m9 (nI 0)) (nI (rFin (mbf m9) n (mrd m9)).2.1)) (nI (rFin (mbf m9) n (mrd m9)).1)) ((rFin (mbf m9) n (mrd m9)).2.2.2)) (nI (rFin (mbf m9) n (mrd m9)).2.2.1)) (Msv (ms m9) (msv m9) j)) (nI (kSz j))) (nI 0)) (MrunN (rFin (mbf m9) n (mrd m9)).2.2.2 (ms m9) i))) ∧ va_S A s.heap H locs ∧ lv_has ls 2 [(1, .int (nI i)), (0, .ref (a 0))] ∧ MrunE (rFin (mbf m9) n (mrd m9)).2.2.2 (ms m9) (rFin (mbf m9) n (mrd m9)).2.2.1 0 (rFin (mbf m9) n (mrd m9)).2.2.1 = MrunE (rFin (mbf m9) n (mrd m9)).2.2.2 (ms m9) (rFin (mbf m9) n (mrd m9)).2.2.1 i ((rFin (mbf m9) n (mrd m9)).2.2.1 - i)) 0 (Nat.zero_le _) ⟨hP, hD, hS, lv_sub hl [0, 1] rfl, rfl⟩ (fun i hle3 ih2 H locs ls hinv => ?_)
    obtain ⟨hP, hD, hS, hl, hU⟩ := hinv
    refine lv_iload_n hx hb dX4_run_29 rfl (lv_at hl 0 rfl) ?_
    refine lv_aload_n hx hb dX4_run_30 rfl (lv_at hl 1 rfl) ?_
    refine va_get (D := g.1) (ci := 4) (v := .int (nI (rFin (mbf m9) n (mrd m9)).2.2.1)) (C := RX4) (T := TX4) (N := 12) hx hb hts hiX4 hown hE.1 hP 0 rfl rfl 10 (by decide) f129 (fun _ h9 => h9) rfl dX4_run_31 ?_
    refine k_geN (tgt := 53) hx hb (by omega) (by omega) dX4_run_34 (by decide) (fun c4 => ?_) (fun c4 => ?_)
    ·
      have hi9 : i = (rFin (mbf m9) n (mrd m9)).2.2.1 := by omega
      have hE9 : MrunE (rFin (mbf m9) n (mrd m9)).2.2.2 (ms m9) (rFin (mbf m9) n (mrd m9)).2.2.1 0 (rFin (mbf m9) n (mrd m9)).2.2.1 = i := by rw [hU, hi9, Nat.sub_self]; rfl
      have hS9 : MrunS (rFin (mbf m9) n (mrd m9)).2.2.2 (ms m9) (rFin (mbf m9) n (mrd m9)).2.2.1 = MrunN (rFin (mbf m9) n (mrd m9)).2.2.2 (ms m9) i := by unfold MrunS; rw [hE9, if_neg (by omega)]
      refine lv_iload_n hx hb dX4_run_53 rfl (lv_at hl 0 rfl) ?_
      have e5 : (MrunM j n m9) = (sMs (sMln (sMsm (sMsv (sMrm (sMrd (sMat (sMiw (sMth m9 (nI 0)) (nI (rFin (mbf m9) n (mrd m9)).2.1)) (nI (rFin (mbf m9) n (mrd m9)).1)) ((rFin (mbf m9) n (mrd m9)).2.2.2)) (nI (rFin (mbf m9) n (mrd m9)).2.2.1)) (Msv (ms m9) (msv m9) j)) (nI (kSz j))) (nI 0)) (MrunN (rFin (mbf m9) n (mrd m9)).2.2.2 (ms m9) i)) := (by first | (simp only [MrunM, MrunR, MR, if_neg c1, if_pos c1, if_pos c4, if_neg (not_not_intro c4), if_neg hw0, hS9, hE9]; done) | (simp only [MrunM, MrunR, MR, if_neg c1, if_pos c1, if_pos c4, if_neg (not_not_intro c4), if_neg hw0, hS9, hE9]; rfl) | rfl | (simp [MrunM, MrunR, MR, if_neg c1, if_pos c1, if_pos c4, if_neg (not_not_intro c4), if_neg hw0, hS9, hE9]; done))
      have hP : va_P g.1 vwCl (wM g a (MrunM j n m9)) H := by rw [e5]; exact hP
      have hD : va_D A (wM g a (MrunM j n m9)) := by rw [e5]; exact hD
      exact k_iret hx hb hr hlocks rfl (by first | (simp only [MrunM, MrunR, MR, bI, if_neg c1, if_pos c1, if_pos c4, if_neg (not_not_intro c4), if_neg hw0, hS9, hE9]; done) | (simp only [MrunM, MrunR, MR, bI, if_neg c1, if_pos c1, if_pos c4, if_neg (not_not_intro c4), if_neg hw0, hS9, hE9]; rfl) | rfl | (simp [MrunM, MrunR, MR, bI, if_neg c1, if_pos c1, if_pos c4, if_neg (not_not_intro c4), if_neg hw0, hS9, hE9]; done)) hP hD hS (Nat.le_of_ble_eq_true rfl) (Nat.le_of_ble_eq_true rfl) dX4_run_54
    ·
      refine lv_aload_n hx hb dX4_run_37 rfl (lv_at hl 1 rfl) ?_
      refine lv_iconst (v := (nI 3)) hx hb dX4_run_38 (by decide) ?_
      refine lv_iload_n hx hb dX4_run_39 rfl (lv_at hl 0 rfl) ?_
      refine lv_imul hx hb dX4_run_40 ?_
      refine k_top (pk_mul _ _) ?_
      refine k_Vi (As := [.int (nI (3 * i))]) (r := (nI (MevN (rFin (mbf m9) n (mrd m9)).2.2.2 (3 * i) (MrunN (rFin (mbf m9) n (mrd m9)).2.2.2 (ms m9) i)))) hF (c_X4_does l g a (sMs (sMln (sMsm (sMsv (sMrm (sMrd (sMat (sMiw (sMth m9 (nI 0)) (nI (rFin (mbf m9) n (mrd m9)).2.1)) (nI (rFin (mbf m9) n (mrd m9)).1)) ((rFin (mbf m9) n (mrd m9)).2.2.2)) (nI (rFin (mbf m9) n (mrd m9)).2.2.1)) (Msv (ms m9) (msv m9) j)) (nI (kSz j))) (nI 0)) (MrunN (rFin (mbf m9) n (mrd m9)).2.2.2 (ms m9) i)) (3 * i) (by omega) (rFin_ok hbf (mrd m9) _ ‹_›)) (cwV 1 hts gX4_run_X4_does rfl rfl rfl (by decide +kernel) ⟨Nat.le_of_ble_eq_true rfl, Nat.le_of_ble_eq_true rfl⟩) hE hP hD hS hA (k_pall _) ((k_pall _).symm) 0 rfl rfl rfl rfl hl.1 rfl (Nat.le_of_ble_eq_true rfl) dX4_run_41 ⟨Nat.le_of_ble_eq_true rfl, Nat.le_of_ble_eq_true rfl⟩ (fun H locs hP hD hS => ?_)
      have hP : va_P g.1 vwCl (wM g a (sMs (sMln (sMsm (sMsv (sMrm (sMrd (sMat (sMiw (sMth m9 (nI 0)) (nI (rFin (mbf m9) n (mrd m9)).2.1)) (nI (rFin (mbf m9) n (mrd m9)).1)) ((rFin (mbf m9) n (mrd m9)).2.2.2)) (nI (rFin (mbf m9) n (mrd m9)).2.2.1)) (Msv (ms m9) (msv m9) j)) (nI (kSz j))) (nI 0)) (Mev (rFin (mbf m9) n (mrd m9)).2.2.2 (3 * i) (MrunN (rFin (mbf m9) n (mrd m9)).2.2.2 (ms m9) i)))) _ := hP
      have hD : va_D A (wM g a (sMs (sMln (sMsm (sMsv (sMrm (sMrd (sMat (sMiw (sMth m9 (nI 0)) (nI (rFin (mbf m9) n (mrd m9)).2.1)) (nI (rFin (mbf m9) n (mrd m9)).1)) ((rFin (mbf m9) n (mrd m9)).2.2.2)) (nI (rFin (mbf m9) n (mrd m9)).2.2.1)) (Msv (ms m9) (msv m9) j)) (nI (kSz j))) (nI 0)) (Mev (rFin (mbf m9) n (mrd m9)).2.2.2 (3 * i) (MrunN (rFin (mbf m9) n (mrd m9)).2.2.2 (ms m9) i)))) := hD
      refine k_if0 (tgt := 53) hx hb (Nat.lt_trans (MevN_lt _ _ _) (by decide)) dX4_run_44 (by decide) (fun c6 => ?_) (fun c6 => ?_)
      ·
        have hE9 : MrunE (rFin (mbf m9) n (mrd m9)).2.2.2 (ms m9) (rFin (mbf m9) n (mrd m9)).2.2.1 0 (rFin (mbf m9) n (mrd m9)).2.2.1 = i := by rw [hU, MrunE_go ‹_›, if_pos c6]
        have hS9 : MrunS (rFin (mbf m9) n (mrd m9)).2.2.2 (ms m9) (rFin (mbf m9) n (mrd m9)).2.2.1 = MrunN (rFin (mbf m9) n (mrd m9)).2.2.2 (ms m9) (i + 1) := by unfold MrunS; rw [hE9, if_pos ‹_›]
        refine lv_iload_n hx hb dX4_run_53 rfl (lv_at hl 0 rfl) ?_
        have e7 : (MrunM j n m9) = (sMs (sMln (sMsm (sMsv (sMrm (sMrd (sMat (sMiw (sMth m9 (nI 0)) (nI (rFin (mbf m9) n (mrd m9)).2.1)) (nI (rFin (mbf m9) n (mrd m9)).1)) ((rFin (mbf m9) n (mrd m9)).2.2.2)) (nI (rFin (mbf m9) n (mrd m9)).2.2.1)) (Msv (ms m9) (msv m9) j)) (nI (kSz j))) (nI 0)) (Mev (rFin (mbf m9) n (mrd m9)).2.2.2 (3 * i) (MrunN (rFin (mbf m9) n (mrd m9)).2.2.2 (ms m9) i))) := (by first | (simp only [MrunM, MrunR, MR, if_neg c1, if_pos c1, if_neg (Nat.not_le.mpr c4), if_pos (Nat.not_le.mpr c4), if_pos c6, if_neg (not_not_intro c6), if_neg hw0, hS9, hE9, (show MrunN (rFin (mbf m9) n (mrd m9)).2.2.2 (ms m9) (i + 1) = Mev (rFin (mbf m9) n (mrd m9)).2.2.2 (3 * i) (MrunN (rFin (mbf m9) n (mrd m9)).2.2.2 (ms m9) i) from rfl)]; done) | (simp only [MrunM, MrunR, MR, if_neg c1, if_pos c1, if_neg (Nat.not_le.mpr c4), if_pos (Nat.not_le.mpr c4), if_pos c6, if_neg (not_not_intro c6), if_neg hw0, hS9, hE9, (show MrunN (rFin (mbf m9) n (mrd m9)).2.2.2 (ms m9) (i + 1) = Mev (rFin (mbf m9) n (mrd m9)).2.2.2 (3 * i) (MrunN (rFin (mbf m9) n (mrd m9)).2.2.2 (ms m9) i) from rfl)]; rfl) | rfl | (simp [MrunM, MrunR, MR, if_neg c1, if_pos c1, if_neg (Nat.not_le.mpr c4), if_pos (Nat.not_le.mpr c4), if_pos c6, if_neg (not_not_intro c6), if_neg hw0, hS9, hE9, (show MrunN (rFin (mbf m9) n (mrd m9)).2.2.2 (ms m9) (i + 1) = Mev (rFin (mbf m9) n (mrd m9)).2.2.2 (3 * i) (MrunN (rFin (mbf m9) n (mrd m9)).2.2.2 (ms m9) i) from rfl)]; done))
        have hP : va_P g.1 vwCl (wM g a (MrunM j n m9)) H := by rw [e7]; exact hP
        have hD : va_D A (wM g a (MrunM j n m9)) := by rw [e7]; exact hD
        exact k_iret hx hb hr hlocks rfl (by first | (simp only [MrunM, MrunR, MR, bI, if_neg c1, if_pos c1, if_neg (Nat.not_le.mpr c4), if_pos (Nat.not_le.mpr c4), if_pos c6, if_neg (not_not_intro c6), if_neg hw0, hS9, hE9, (show MrunN (rFin (mbf m9) n (mrd m9)).2.2.2 (ms m9) (i + 1) = Mev (rFin (mbf m9) n (mrd m9)).2.2.2 (3 * i) (MrunN (rFin (mbf m9) n (mrd m9)).2.2.2 (ms m9) i) from rfl)]; done) | (simp only [MrunM, MrunR, MR, bI, if_neg c1, if_pos c1, if_neg (Nat.not_le.mpr c4), if_pos (Nat.not_le.mpr c4), if_pos c6, if_neg (not_not_intro c6), if_neg hw0, hS9, hE9, (show MrunN (rFin (mbf m9) n (mrd m9)).2.2.2 (ms m9) (i + 1) = Mev (rFin (mbf m9) n (mrd m9)).2.2.2 (3 * i) (MrunN (rFin (mbf m9) n (mrd m9)).2.2.2 (ms m9) i) from rfl)]; rfl) | rfl | (simp [MrunM, MrunR, MR, bI, if_neg c1, if_pos c1, if_neg (Nat.not_le.mpr c4), if_pos (Nat.not_le.mpr c4), if_pos c6, if_neg (not_not_intro c6), if_neg hw0, hS9, hE9, (show MrunN (rFin (mbf m9) n (mrd m9)).2.2.2 (ms m9) (i + 1) = Mev (rFin (mbf m9) n (mrd m9)).2.2.2 (3 * i) (MrunN (rFin (mbf m9) n (mrd m9)).2.2.2 (ms m9) i) from rfl)]; done)) hP hD hS (Nat.le_of_ble_eq_true rfl) (Nat.le_of_ble_eq_true rfl) dX4_run_54
      ·
        refine lv_iinc (v := (nI (i + 1))) (lv' := [(1, .int (nI (i + 1))), (0, .ref (a 0))]) hx hb dX4_run_47 hl (k := 0) rfl (k_inc1 _) (by decide) rfl (fun ls hl => ?_)
        refine lv_goto (tgt := 29) hx hb dX4_run_50 (by decide) ?_
        have e8 : (sMs (sMln (sMsm (sMsv (sMrm (sMrd (sMat (sMiw (sMth m9 (nI 0)) (nI (rFin (mbf m9) n (mrd m9)).2.1)) (nI (rFin (mbf m9) n (mrd m9)).1)) ((rFin (mbf m9) n (mrd m9)).2.2.2)) (nI (rFin (mbf m9) n (mrd m9)).2.2.1)) (Msv (ms m9) (msv m9) j)) (nI (kSz j))) (nI 0)) (MrunN (rFin (mbf m9) n (mrd m9)).2.2.2 (ms m9) (i + 1))) = (sMs (sMln (sMsm (sMsv (sMrm (sMrd (sMat (sMiw (sMth m9 (nI 0)) (nI (rFin (mbf m9) n (mrd m9)).2.1)) (nI (rFin (mbf m9) n (mrd m9)).1)) ((rFin (mbf m9) n (mrd m9)).2.2.2)) (nI (rFin (mbf m9) n (mrd m9)).2.2.1)) (Msv (ms m9) (msv m9) j)) (nI (kSz j))) (nI 0)) (Mev (rFin (mbf m9) n (mrd m9)).2.2.2 (3 * i) (MrunN (rFin (mbf m9) n (mrd m9)).2.2.2 (ms m9) i))) := (by first | (simp only [MrunM, MrunR, MR, MrunN, if_neg c1, if_pos c1, if_neg (Nat.not_le.mpr c4), if_pos (Nat.not_le.mpr c4), if_neg c6, if_pos c6, if_neg hw0]; done) | (simp only [MrunM, MrunR, MR, MrunN, if_neg c1, if_pos c1, if_neg (Nat.not_le.mpr c4), if_pos (Nat.not_le.mpr c4), if_neg c6, if_pos c6, if_neg hw0]; rfl) | rfl | (simp [MrunM, MrunR, MR, MrunN, if_neg c1, if_pos c1, if_neg (Nat.not_le.mpr c4), if_pos (Nat.not_le.mpr c4), if_neg c6, if_pos c6, if_neg hw0]; done))
        exact ih2 _ _ _ (by omega) ⟨(by rw [e8]; exact hP), (by rw [e8]; exact hD), hS, lv_sub hl [0, 1] rfl, (by rw [hU, MrunE_go ‹_›, if_neg c6])⟩
  ·
    have hw0 : (rFin (mbf m9) n (mrd m9)).2.1 = 0 := c1
    refine lv_aload_n hx hb dX4_run_12 rfl (lv_at hl 0 rfl) ?_
    refine lv_iconst (v := (nI 1)) hx hb dX4_run_13 (by decide) ?_
    refine k_Vi (As := [.int (nI 1)]) (r := (nI 0)) hF (c_X4_fails l g a (sMrm (sMrd (sMat (sMiw (sMth m9 (nI 0)) (nI (rFin (mbf m9) n (mrd m9)).2.1)) (nI (rFin (mbf m9) n (mrd m9)).1)) ((rFin (mbf m9) n (mrd m9)).2.2.2)) (nI (rFin (mbf m9) n (mrd m9)).2.2.1)) (nI 1)) (cwV 1 hts gX4_run_X4_fails rfl rfl rfl (by decide +kernel) ⟨Nat.le_of_ble_eq_true rfl, Nat.le_of_ble_eq_true rfl⟩) hE hP hD hS hA (k_pall _) ((k_pall _).symm) 0 rfl rfl rfl rfl hl.1 rfl (Nat.le_of_ble_eq_true rfl) dX4_run_14 ⟨Nat.le_of_ble_eq_true rfl, Nat.le_of_ble_eq_true rfl⟩ (fun H locs hP hD hS => ?_)
    have hP : va_P g.1 vwCl (wM g a (sMth (sMrm (sMrd (sMat (sMiw m9 (nI (rFin (mbf m9) n (mrd m9)).2.1)) (nI (rFin (mbf m9) n (mrd m9)).1)) ((rFin (mbf m9) n (mrd m9)).2.2.2)) (nI (rFin (mbf m9) n (mrd m9)).2.2.1)) (nI 1))) _ := hP
    have hD : va_D A (wM g a (sMth (sMrm (sMrd (sMat (sMiw m9 (nI (rFin (mbf m9) n (mrd m9)).2.1)) (nI (rFin (mbf m9) n (mrd m9)).1)) ((rFin (mbf m9) n (mrd m9)).2.2.2)) (nI (rFin (mbf m9) n (mrd m9)).2.2.1)) (nI 1))) := hD
    have e9 : (MrunM j n m9) = (sMth (sMrm (sMrd (sMat (sMiw m9 (nI (rFin (mbf m9) n (mrd m9)).2.1)) (nI (rFin (mbf m9) n (mrd m9)).1)) ((rFin (mbf m9) n (mrd m9)).2.2.2)) (nI (rFin (mbf m9) n (mrd m9)).2.2.1)) (nI 1)) := (by first | (simp only [MrunM, MrunR, MR, if_pos c1, if_neg (not_not_intro c1), if_pos hw0]; done) | (simp only [MrunM, MrunR, MR, if_pos c1, if_neg (not_not_intro c1), if_pos hw0]; rfl) | rfl | (simp [MrunM, MrunR, MR, if_pos c1, if_neg (not_not_intro c1), if_pos hw0]; done))
    have hP : va_P g.1 vwCl (wM g a (MrunM j n m9)) H := by rw [e9]; exact hP
    have hD : va_D A (wM g a (MrunM j n m9)) := by rw [e9]; exact hD
    exact k_iret hx hb hr hlocks rfl (by first | (simp only [MrunM, MrunR, MR, bI, if_pos c1, if_neg (not_not_intro c1), if_pos hw0]; done) | (simp only [MrunM, MrunR, MR, bI, if_pos c1, if_neg (not_not_intro c1), if_pos hw0]; rfl) | rfl | (simp [MrunM, MrunR, MR, bI, if_pos c1, if_neg (not_not_intro c1), if_pos hw0]; done)) hP hD hS (Nat.le_of_ble_eq_true rfl) (Nat.le_of_ble_eq_true rfl) dX4_run_17
