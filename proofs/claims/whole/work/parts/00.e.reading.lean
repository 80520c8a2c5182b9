/-! the text, read by both -/
theorem Sst_s {sg : Nat → Int32} {n a s : Nat} (h : Sst sg n a = s) : Sst sg n (a + 1) = Sta s (Tq sg n a) := by
  show Sta (Sst sg n a) _ = _
  rw [h]
theorem noF {q lo hi : Nat} (hq : q < 65536) (hlo : lo ≤ 9) (hhi : hi ≤ 9) (h : figW 1 q lo hi = 0) : ¬ (48 + lo ≤ q ∧ q ≤ 48 + hi) := fun z => by
  rw [figW_t hq hlo hhi (by decide) z.1 z.2] at h
  cases h
theorem rO_well {bf : Nat → Int32} {n : Nat} (hbf : Tok bf n) {a q r hi w : Nat} {rd : Nat → Int32} (hhi : hi ≤ 9) (hw2 : w < 2) (hF : (rO bf n (a + w) w q r hi rd).2.1 ≠ 0) : w = 1 ∧ (rO bf n (a + w) w q r hi rd).1 = a + 2 ∧ a + 2 ≤ n ∧ (48 ≤ Bq bf n (a + 1) ∧ Bq bf n (a + 1) ≤ 48 + hi) ∧ (rO bf n (a + w) w q r hi rd).2.2.1 = r + 1 ∧ (rO bf n (a + w) w q r hi rd).2.2.2 = upd (upd rd (3 * r) (nI q)) (3 * r + 1) (nI (Bq bf n (a + 1) - 48)) := by
  have hF2 : figW w (Bq bf n (a + w)) 0 hi ≠ 0 := hF
  obtain ⟨h0, h1, h2⟩ := figW_1 (Bq_lt hbf _) (by decide) hhi hF2
  obtain rfl : w = 1 := by omega
  have hf1 : figW 1 (Bq bf n (a + 1)) 0 hi = 1 := by have := figW_lt 1 (Bq bf n (a + 1)) 0 hi; omega
  have hin : a + 1 < n := Bq_in (bf := bf) (by omega)
  refine ⟨rfl, ?_, by omega, ⟨by omega, h2⟩, ?_, ?_⟩
  · show a + 1 + figW 1 (Bq bf n (a + 1)) 0 hi = a + 2; omega
  · show r + figW 1 (Bq bf n (a + 1)) 0 hi = r + 1; omega
  · show upd (upd rd (3 * r) (nI q)) (3 * r + 1) (nI (Bq bf n (a + 1)) - nI 48) = _
    rw [pk_sub (by omega)]
theorem rC_well {bf : Nat → Int32} {n : Nat} (hbf : Tok bf n) {a q r w : Nat} {rd : Nat → Int32} (hw2 : w < 2) (hF : (rC bf n (a + w) w q r rd).2.1 ≠ 0) : w = 1 ∧ (rC bf n (a + w) w q r rd).1 = a + 3 ∧ a + 3 ≤ n ∧ (48 ≤ Bq bf n (a + 1) ∧ Bq bf n (a + 1) ≤ 55) ∧ (48 ≤ Bq bf n (a + 2) ∧ Bq bf n (a + 2) ≤ 53) ∧ (rC bf n (a + w) w q r rd).2.2.1 = r + 1 ∧ (rC bf n (a + w) w q r rd).2.2.2 = upd (upd (upd rd (3 * r) (nI q)) (3 * r + 1) (nI (Bq bf n (a + 1) - 48))) (3 * r + 2) (nI (Bq bf n (a + 2) - 48)) := by
  have hF2 : figW (figW w (Bq bf n (a + w)) 0 7) (Bq bf n (a + w + figW w (Bq bf n (a + w)) 0 7)) 0 5 ≠ 0 := hF
  obtain ⟨h0, h1, h2⟩ := figW_1 (Bq_lt hbf _) (by decide) (by decide) hF2
  obtain ⟨g0, g1, g2⟩ := figW_1 (Bq_lt hbf _) (by decide) (by decide) h0
  obtain rfl : w = 1 := by omega
  have hf1 : figW 1 (Bq bf n (a + 1)) 0 7 = 1 := by have := figW_lt 1 (Bq bf n (a + 1)) 0 7; omega
  unfold rC
  rw [hf1] at h1 h2 hF2 ⊢
  have hf2 : figW 1 (Bq bf n (a + 1 + 1)) 0 5 = 1 := by have := figW_lt 1 (Bq bf n (a + 1 + 1)) 0 5; omega
  have hin : a + 1 + 1 < n := Bq_in (bf := bf) (by omega)
  refine ⟨rfl, ?_, by omega, ⟨by omega, g2⟩, ⟨h1, h2⟩, ?_, ?_⟩
  · show a + 1 + 1 + figW (figW 1 (Bq bf n (a + 1)) 0 7) (Bq bf n (a + 1 + 1)) 0 5 = a + 3
    rw [hf1, hf2]
  · show r + figW (figW 1 (Bq bf n (a + 1)) 0 7) (Bq bf n (a + 1 + 1)) 0 5 = r + 1
    rw [hf1, hf2]
  · show upd (upd (upd rd (3 * r) (nI q)) (3 * r + 1) (nI (Bq bf n (a + 1)) - nI 48)) (3 * r + 2) (nI (Bq bf n (a + 1 + 1)) - nI 48) = _
    rw [pk_sub (by omega), pk_sub h1]
abbrev stopN (bf : Nat → Int32) (n a : Nat) : Prop := ¬ ((48 ≤ Bq bf n (a + 2) ∧ Bq bf n (a + 2) ≤ 57) ∧ 10 * (Bq bf n (a + 1) - 48) + (Bq bf n (a + 2) - 48) ≤ 60)
theorem rT_well {bf : Nat → Int32} {n : Nat} (hbf : Tok bf n) {a q r w : Nat} {rd : Nat → Int32} (hw2 : w < 2) (hF : (rT bf n (a + w) w q r rd).2.1 ≠ 0) : w = 1 ∧ (49 ≤ Bq bf n (a + 1) ∧ Bq bf n (a + 1) ≤ 57) ∧ (rT bf n (a + w) w q r rd).2.2.1 = r + 1 ∧ (((rT bf n (a + w) w q r rd).1 = a + 2 ∧ a + 2 ≤ n ∧ stopN bf n a ∧ (rT bf n (a + w) w q r rd).2.2.2 = upd (upd rd (3 * r) (nI q)) (3 * r + 1) (nI (Bq bf n (a + 1) - 48))) ∨ ((rT bf n (a + w) w q r rd).1 = a + 3 ∧ a + 3 ≤ n ∧ ¬ stopN bf n a ∧ (rT bf n (a + w) w q r rd).2.2.2 = upd (upd rd (3 * r) (nI q)) (3 * r + 1) (nI (10 * (Bq bf n (a + 1) - 48) + (Bq bf n (a + 2) - 48))))) := by
  have hF2 : figW w (Bq bf n (a + w)) 1 9 ≠ 0 := hF
  obtain ⟨h0, h1, h2⟩ := figW_1 (Bq_lt hbf _) (by decide) (by decide) hF2
  obtain rfl : w = 1 := by omega
  have hf1 : figW 1 (Bq bf n (a + 1)) 1 9 = 1 := by have := figW_lt 1 (Bq bf n (a + 1)) 1 9; omega
  have hin : a + 1 < n := Bq_in (bf := bf) (by omega)
  refine ⟨rfl, ⟨h1, h2⟩, by show r + figW 1 (Bq bf n (a + 1)) 1 9 = r + 1; rw [hf1], ?_⟩
  have eA : (rT bf n (a + 1) 1 q r rd).1 = numA bf n (a + 1) 1 := rfl
  have eR : (rT bf n (a + 1) 1 q r rd).2.2.2 = upd (upd rd (3 * r) (nI q)) (3 * r + 1) (numV bf n (a + 1) 1) := rfl
  rw [eA, eR]
  have hP : numP bf n (a + 1) 1 ↔ 48 ≤ Bq bf n (a + 2) ∧ Bq bf n (a + 2) ≤ 57 := by
    unfold numP
    rw [hf1, nI_leI (by decide) (Bq_lt31 hbf _), nI_leI (Bq_lt31 hbf _) (by decide)]
  have e1 : nI (Bq bf n (a + 1)) - nI 48 = nI (Bq bf n (a + 1) - 48) := pk_sub (by omega)
  by_cases d : 48 ≤ Bq bf n (a + 2) ∧ Bq bf n (a + 2) ≤ 57
  · have e2 : numX bf n (a + 1) 1 = nI (10 * (Bq bf n (a + 1) - 48) + (Bq bf n (a + 2) - 48)) := by
      unfold numX
      rw [hf1, show a + 1 + 1 = a + 2 from rfl, e1, pk_mul, nI_add, pk_sub (by omega)]
      congr 1; omega
    have hin2 : a + 2 < n := Bq_in (bf := bf) (by omega)
    by_cases g : 10 * (Bq bf n (a + 1) - 48) + (Bq bf n (a + 2) - 48) ≤ 60
    · refine Or.inr ⟨?_, by omega, fun z => z ⟨d, g⟩, ?_⟩
      · unfold numA
        rw [if_neg (by omega), if_pos (hP.mpr d), e2, if_neg (fun z => by have := (nI_ltI (by decide) (by omega)).mp z; omega), hf1]
      · unfold numV
        rw [if_neg (by omega), if_pos (hP.mpr d), e2, if_neg (fun z => by have := (nI_ltI (by decide) (by omega)).mp z; omega)]
    · refine Or.inl ⟨?_, by omega, fun z => g z.2, ?_⟩
      · unfold numA
        rw [if_neg (by omega), if_pos (hP.mpr d), e2, if_pos ((nI_ltI (by decide) (by omega)).mpr (by omega)), hf1]
      · unfold numV
        rw [if_neg (by omega), if_pos (hP.mpr d), e2, if_pos ((nI_ltI (by decide) (by omega)).mpr (by omega)), e1]
  · refine Or.inl ⟨?_, by omega, fun z => d z.1, ?_⟩
    · unfold numA
      rw [if_neg (by omega), if_neg (fun z => d (hP.mp z)), hf1]
    · unfold numV
      rw [if_neg (by omega), if_neg (fun z => d (hP.mp z)), e1]
/-- the event r, read from p to e -/
def evAt (bf : Nat → Int32) (n p e : Nat) (rd : Nat → Int32) (r : Nat) : Prop :=
  e ≤ n ∧ rd (3 * r) = nI (Bq bf n p) ∧
    (((Bq bf n p = 99 ∨ Bq bf n p = 108 ∨ Bq bf n p = 115) ∧ e = p + 3 ∧ (48 ≤ Bq bf n (p + 1) ∧ Bq bf n (p + 1) ≤ 55) ∧ (48 ≤ Bq bf n (p + 2) ∧ Bq bf n (p + 2) ≤ 53) ∧ rd (3 * r + 1) = nI (Bq bf n (p + 1) - 48) ∧ rd (3 * r + 2) = nI (Bq bf n (p + 2) - 48))
    ∨ (Bq bf n p = 112 ∧ e = p + 2 ∧ (48 ≤ Bq bf n (p + 1) ∧ Bq bf n (p + 1) ≤ 53) ∧ rd (3 * r + 1) = nI (Bq bf n (p + 1) - 48))
    ∨ (Bq bf n p = 111 ∧ e = p + 2 ∧ (48 ≤ Bq bf n (p + 1) ∧ Bq bf n (p + 1) ≤ 55) ∧ rd (3 * r + 1) = nI (Bq bf n (p + 1) - 48))
    ∨ (Bq bf n p = 116 ∧ e = p + 2 ∧ (49 ≤ Bq bf n (p + 1) ∧ Bq bf n (p + 1) ≤ 57) ∧ stopN bf n p ∧ rd (3 * r + 1) = nI (Bq bf n (p + 1) - 48))
    ∨ (Bq bf n p = 116 ∧ e = p + 3 ∧ (49 ≤ Bq bf n (p + 1) ∧ Bq bf n (p + 1) ≤ 57) ∧ ¬ stopN bf n p ∧ rd (3 * r + 1) = nI (10 * (Bq bf n (p + 1) - 48) + (Bq bf n (p + 2) - 48))))
theorem evAt_congr {bf : Nat → Int32} {n p e r : Nat} {rd rd2 : Nat → Int32} (h0 : rd2 (3 * r) = rd (3 * r)) (h1 : rd2 (3 * r + 1) = rd (3 * r + 1)) (h2 : rd2 (3 * r + 2) = rd (3 * r + 2)) (h : evAt bf n p e rd r) : evAt bf n p e rd2 r := by
  unfold evAt at *
  rw [h0, h1, h2]; exact h
theorem rEv_well {bf : Nat → Int32} {n : Nat} (hbf : Tok bf n) {a r : Nat} {rd : Nat → Int32} (hF : (rEv bf n a r rd).2.1 ≠ 0) : evAt bf n a (rEv bf n a r rd).1 (rEv bf n a r rd).2.2.2 r ∧ (rEv bf n a r rd).2.2.1 = r + 1 ∧ ∀ j, j < 3 * r → (rEv bf n a r rd).2.2.2 j = rd j := by
  have k0 : ∀ (q : Nat) (v : Int32), upd (upd rd (3 * r) (nI q)) (3 * r + 1) v (3 * r) = nI q := fun q v => by rw [pk_un (by omega), pk_us]
  have k1 : ∀ (q : Nat) (v : Int32) (j : Nat), j < 3 * r → upd (upd rd (3 * r) (nI q)) (3 * r + 1) v j = rd j := fun q v j hj => by rw [pk_un (by omega), pk_un (by omega)]
  have kC : (Bq bf n a = 99 ∨ Bq bf n a = 108 ∨ Bq bf n a = 115) → (rC bf n (a + evW (Bq bf n a)) (evW (Bq bf n a)) (Bq bf n a) r rd).2.1 ≠ 0 → evAt bf n a (rC bf n (a + evW (Bq bf n a)) (evW (Bq bf n a)) (Bq bf n a) r rd).1 (rC bf n (a + evW (Bq bf n a)) (evW (Bq bf n a)) (Bq bf n a) r rd).2.2.2 r ∧ (rC bf n (a + evW (Bq bf n a)) (evW (Bq bf n a)) (Bq bf n a) r rd).2.2.1 = r + 1 ∧ ∀ j, j < 3 * r → (rC bf n (a + evW (Bq bf n a)) (evW (Bq bf n a)) (Bq bf n a) r rd).2.2.2 j = rd j := by
    intro hq h
    obtain ⟨w1, e1, e2, e3, e4, e5, e6⟩ := rC_well hbf (evW_lt _) h
    rw [e1, e5, e6]
    refine ⟨⟨e2, ?_, Or.inl ⟨hq, rfl, e3, e4, ?_, pk_us⟩⟩, rfl, fun j hj => ?_⟩
    · rw [pk_un (by omega)]; exact k0 _ _
    · rw [pk_un (by omega), pk_us]
    · rw [pk_un (by omega)]; exact k1 _ _ j hj
  unfold rEv at hF ⊢
  by_cases c1 : Bq bf n a = 116
  · rw [if_pos c1] at hF ⊢
    obtain ⟨w1, e1, e2, e3⟩ := rT_well hbf (evW_lt _) hF
    rw [e2]
    rcases e3 with ⟨f1, f2, f3, f4⟩ | ⟨f1, f2, f3, f4⟩
    · rw [f1, f4]
      exact ⟨⟨f2, k0 _ _, Or.inr (Or.inr (Or.inr (Or.inl ⟨c1, rfl, e1, f3, pk_us⟩)))⟩, rfl, k1 _ _⟩
    · rw [f1, f4]
      exact ⟨⟨f2, k0 _ _, Or.inr (Or.inr (Or.inr (Or.inr ⟨c1, rfl, e1, f3, pk_us⟩)))⟩, rfl, k1 _ _⟩
  rw [if_neg c1] at hF ⊢
  by_cases c2 : Bq bf n a = 112
  · rw [if_pos c2] at hF ⊢
    obtain ⟨w1, e1, e2, e3, e4, e5⟩ := rO_well hbf (by decide) (evW_lt _) hF
    rw [e1, e4, e5]
    exact ⟨⟨e2, k0 _ _, Or.inr (Or.inl ⟨c2, rfl, e3, pk_us⟩)⟩, rfl, k1 _ _⟩
  rw [if_neg c2] at hF ⊢
  by_cases c3 : Bq bf n a = 99
  · rw [if_pos c3] at hF ⊢; exact kC (Or.inl c3) hF
  rw [if_neg c3] at hF ⊢
  by_cases c4 : Bq bf n a = 108
  · rw [if_pos c4] at hF ⊢; exact kC (Or.inr (Or.inl c4)) hF
  rw [if_neg c4] at hF ⊢
  by_cases c5 : Bq bf n a = 115
  · rw [if_pos c5] at hF ⊢; exact kC (Or.inr (Or.inr c5)) hF
  rw [if_neg c5] at hF ⊢
  obtain ⟨w1, e1, e2, e3, e4, e5⟩ := rO_well hbf (by decide) (evW_lt _) hF
  have c6 : Bq bf n a = 111 := by
    have z := evW_in (q := Bq bf n a) (by omega)
    omega
  rw [e1, e4, e5]
  exact ⟨⟨e2, k0 _ _, Or.inr (Or.inr (Or.inl ⟨c6, rfl, e3, pk_us⟩))⟩, rfl, k1 _ _⟩
theorem rEv_bad {bf sg : Nat → Int32} {n : Nat} (hbf : Tok bf n) (hT : ∀ k, k < n → Tq sg n k = Bq bf n k) {a r : Nat} {rd : Nat → Int32} (ha : a ≤ n) (h0 : Sst sg n a = 0) (hF : (rEv bf n a r rd).2.1 = 0) : (rEv bf n a r rd).1 ≤ n ∧ Sst sg n (rEv bf n a r rd).1 < 5 ∧ ((rEv bf n a r rd).1 < n → Sst sg n ((rEv bf n a r rd).1 + 1) = 8) := by
  refine ⟨(rEv_step hbf a r rd ha).2.2.1, ?_⟩
  have hlet : ∀ x, Bq bf n a = x → x ≠ 0 → a < n ∧ Sst sg n (a + 1) = SLet x := fun x hx h => by
    have h1 : a < n := Bq_in (bf := bf) (by omega)
    refine ⟨h1, ?_⟩
    rw [Sst_s h0, hT a h1, hx]; rfl
  have kC : ∀ x, (x = 99 ∨ x = 108 ∨ x = 115) → Bq bf n a = x → (rC bf n (a + evW x) (evW x) x r rd).2.1 = 0 → Sst sg n (rC bf n (a + evW x) (evW x) x r rd).1 < 5 ∧ ((rC bf n (a + evW x) (evW x) x r rd).1 < n → Sst sg n ((rC bf n (a + evW x) (evW x) x r rd).1 + 1) = 8) := by
    intro x hx hq h
    have e : evW x = 1 := by rcases hx with rfl | rfl | rfl <;> rfl
    have eS : SLet x = 1 := by rcases hx with rfl | rfl | rfl <;> rfl
    obtain ⟨g1, g2⟩ := hlet x hq (by omega)
    rw [eS] at g2
    rw [e] at h ⊢
    have h2 : figW (figW 1 (Bq bf n (a + 1)) 0 7) (Bq bf n (a + 1 + figW 1 (Bq bf n (a + 1)) 0 7)) 0 5 = 0 := h
    have eA : (rC bf n (a + 1) 1 x r rd).1 = a + 1 + figW 1 (Bq bf n (a + 1)) 0 7 + figW (figW 1 (Bq bf n (a + 1)) 0 7) (Bq bf n (a + 1 + figW 1 (Bq bf n (a + 1)) 0 7)) 0 5 := rfl
    rw [eA, h2]
    by_cases c : figW 1 (Bq bf n (a + 1)) 0 7 = 0
    · rw [c]
      have z := noF (Bq_lt hbf _) (by decide) (by decide) c
      refine ⟨by show Sst sg n (a + 1) < 5; omega, fun hlt => ?_⟩
      show Sst sg n (a + 1 + 1) = 8
      rw [Sst_s g2, hT _ hlt]
      exact if_neg z
    · have f1 : figW 1 (Bq bf n (a + 1)) 0 7 = 1 := by have := figW_lt 1 (Bq bf n (a + 1)) 0 7; omega
      obtain ⟨-, y1, y2⟩ := figW_1 (Bq_lt hbf _) (by decide) (by decide) c
      rw [f1] at h2 ⊢
      have z := noF (Bq_lt hbf _) (by decide) (by decide) h2
      have hin : a + 1 < n := Bq_in (bf := bf) (by omega)
      have g3 : Sst sg n (a + 1 + 1) = 3 := by
        rw [Sst_s g2, hT _ hin]
        exact if_pos (show 48 ≤ Bq bf n (a + 1) ∧ Bq bf n (a + 1) ≤ 55 from ⟨by omega, by omega⟩)
      refine ⟨by show Sst sg n (a + 1 + 1) < 5; omega, fun hlt => ?_⟩
      show Sst sg n (a + 1 + 1 + 1) = 8
      rw [Sst_s g3, hT _ hlt]
      exact if_neg z
  unfold rEv at hF ⊢
  by_cases c1 : Bq bf n a = 116
  · rw [if_pos c1] at hF ⊢
    obtain ⟨g1, g2⟩ := hlet _ c1 (by decide)
    rw [c1] at hF ⊢
    have h2 : figW 1 (Bq bf n (a + 1)) 1 9 = 0 := hF
    have eA : (rT bf n (a + evW 116) (evW 116) 116 r rd).1 = a + 1 := by
      show numA bf n (a + 1) 1 = a + 1
      unfold numA
      rw [if_pos h2, h2]
    have z := noF (Bq_lt hbf _) (by decide) (by decide) h2
    rw [eA]
    refine ⟨by rw [g2]; decide, fun hlt => ?_⟩
    rw [Sst_s g2, hT _ hlt]
    show SDig (Bq bf n (a + 1)) = 8
    unfold SDig
    rw [if_neg (by omega), if_pos (by omega), if_neg (by omega)]
  rw [if_neg c1] at hF ⊢
  by_cases c2 : Bq bf n a = 112
  · rw [if_pos c2] at hF ⊢
    obtain ⟨g1, g2⟩ := hlet _ c2 (by decide)
    rw [c2] at hF ⊢
    have h2 : figW 1 (Bq bf n (a + 1)) 0 5 = 0 := hF
    have eA : (rO bf n (a + evW 112) (evW 112) 112 r 5 rd).1 = a + 1 := by
      show a + 1 + figW 1 (Bq bf n (a + 1)) 0 5 = a + 1
      rw [h2]
    have z := noF (Bq_lt hbf _) (by decide) (by decide) h2
    rw [eA]
    refine ⟨by rw [g2]; decide, fun hlt => ?_⟩
    rw [Sst_s g2, hT _ hlt]
    exact if_neg z
  rw [if_neg c2] at hF ⊢
  by_cases c3 : Bq bf n a = 99
  · rw [if_pos c3] at hF ⊢; rw [c3] at hF ⊢; exact kC 99 (Or.inl rfl) c3 hF
  rw [if_neg c3] at hF ⊢
  by_cases c4 : Bq bf n a = 108
  · rw [if_pos c4] at hF ⊢; rw [c4] at hF ⊢; exact kC 108 (Or.inr (Or.inl rfl)) c4 hF
  rw [if_neg c4] at hF ⊢
  by_cases c5 : Bq bf n a = 115
  · rw [if_pos c5] at hF ⊢; rw [c5] at hF ⊢; exact kC 115 (Or.inr (Or.inr rfl)) c5 hF
  rw [if_neg c5] at hF ⊢
  by_cases c6 : Bq bf n a = 111
  · obtain ⟨g1, g2⟩ := hlet _ c6 (by decide)
    rw [c6] at hF ⊢
    have h2 : figW 1 (Bq bf n (a + 1)) 0 7 = 0 := hF
    have eA : (rO bf n (a + evW 111) (evW 111) 111 r 7 rd).1 = a + 1 := by
      show a + 1 + figW 1 (Bq bf n (a + 1)) 0 7 = a + 1
      rw [h2]
    have z := noF (Bq_lt hbf _) (by decide) (by decide) h2
    rw [eA]
    refine ⟨by rw [g2]; decide, fun hlt => ?_⟩
    rw [Sst_s g2, hT _ hlt]
    exact if_neg z
  · have e : evW (Bq bf n a) = 0 := by
      by_cases z : evW (Bq bf n a) = 0
      · exact z
      · have := evW_in z; omega
    have eA : (rO bf n (a + evW (Bq bf n a)) (evW (Bq bf n a)) (Bq bf n a) r 7 rd).1 = a := by
      rw [e]; rfl
    rw [eA]
    refine ⟨by rw [h0]; decide, fun hlt => ?_⟩
    rw [Sst_s h0, hT _ hlt]
    show SLet (Bq bf n a) = 8
    unfold SLet
    rw [if_neg (by omega), if_neg c2, if_neg c1, if_neg c6]
theorem ev_end {bf sg : Nat → Int32} {n : Nat} (hT : ∀ k, k < n → Tq sg n k = Bq bf n k) {p e r : Nat} {rd : Nat → Int32} (h0 : Sst sg n p = 0) (E : evAt bf n p e rd r) : (Sst sg n e = 5 ∨ Sst sg n e = 6 ∨ Sst sg n e = 7) ∧ Sta (Sst sg n e) (Tq sg n e) = SEv (Tq sg n e) := by
  have s7 : ∀ q, Sta 7 q = SEv q := fun _ => rfl
  obtain ⟨hn, -, H⟩ := E
  rcases H with ⟨hq, rfl, d1, d2, -⟩ | ⟨hq, rfl, d1, -⟩ | ⟨hq, rfl, d1, -⟩ | ⟨hq, rfl, d1, hs, -⟩ | ⟨hq, rfl, d1, hs, -⟩
  · have a1 : Sst sg n (p + 1) = 1 := by
      rw [Sst_s h0, hT p (by omega)]
      rcases hq with hq | hq | hq <;> rw [hq] <;> rfl
    have a2 : Sst sg n (p + 2) = 3 := by
      rw [Sst_s a1, hT _ (by omega)]; exact if_pos d1
    have a3 : Sst sg n (p + 3) = 7 := by
      rw [Sst_s a2, hT _ (by omega)]; exact if_pos d2
    rw [a3]; exact ⟨Or.inr (Or.inr rfl), s7 _⟩
  · have a1 : Sst sg n (p + 1) = 3 := by
      rw [Sst_s h0, hT p (by omega), hq]; rfl
    have a2 : Sst sg n (p + 2) = 7 := by
      rw [Sst_s a1, hT _ (by omega)]; exact if_pos d1
    rw [a2]; exact ⟨Or.inr (Or.inr rfl), s7 _⟩
  · have a1 : Sst sg n (p + 1) = 2 := by
      rw [Sst_s h0, hT p (by omega), hq]; rfl
    have a2 : Sst sg n (p + 2) = 7 := by
      rw [Sst_s a1, hT _ (by omega)]; exact if_pos d1
    rw [a2]; exact ⟨Or.inr (Or.inr rfl), s7 _⟩
  · have a1 : Sst sg n (p + 1) = 4 := by
      rw [Sst_s h0, hT p (by omega), hq]; rfl
    have a2 : Sst sg n (p + 2) = SDig (Bq bf n (p + 1)) := by
      rw [Sst_s a1, hT _ (by omega)]; rfl
    have nx : Tq sg n (p + 2) = 59 ∨ Tq sg n (p + 2) = Bq bf n (p + 2) := by
      rcases Nat.lt_or_ge (p + 2) n with z | z
      · exact Or.inr (hT _ z)
      · exact Or.inl (if_pos z)
    rw [a2]
    unfold SDig
    by_cases c1 : 49 ≤ Bq bf n (p + 1) ∧ Bq bf n (p + 1) ≤ 53
    · rw [if_pos c1]
      refine ⟨Or.inl rfl, ?_⟩
      show (if 48 ≤ Tq sg n (p + 2) ∧ Tq sg n (p + 2) ≤ 57 then 7 else SEv (Tq sg n (p + 2))) = _
      rw [if_neg (fun z => by
        rcases nx with y | y
        · omega
        · exact hs ⟨by omega, by omega⟩)]
    · rw [if_neg c1]
      by_cases c2 : ¬ Bq bf n (p + 1) = 54
      · rw [if_pos c2, if_pos (by omega)]; exact ⟨Or.inr (Or.inr rfl), s7 _⟩
      · rw [if_neg c2]
        refine ⟨Or.inr (Or.inl rfl), ?_⟩
        show (if ¬ Tq sg n (p + 2) = 48 then SEv (Tq sg n (p + 2)) else 7) = _
        rw [if_pos (fun z => by
          rcases nx with y | y
          · omega
          · exact hs ⟨by omega, by omega⟩)]
  · have hs := Classical.not_not.mp hs
    have a1 : Sst sg n (p + 1) = 4 := by
      rw [Sst_s h0, hT p (by omega), hq]; rfl
    have a2 : Sst sg n (p + 2) = SDig (Bq bf n (p + 1)) := by
      rw [Sst_s a1, hT _ (by omega)]; rfl
    have a3 : Sst sg n (p + 3) = 7 := by
      have e : Sst sg n (p + 3) = Sta (SDig (Bq bf n (p + 1))) (Bq bf n (p + 2)) := by rw [Sst_s a2, hT _ (by omega)]
      rw [e]
      unfold SDig
      by_cases c1 : 49 ≤ Bq bf n (p + 1) ∧ Bq bf n (p + 1) ≤ 53
      · rw [if_pos c1]; exact if_pos hs.1
      · rw [if_neg c1, if_neg (by omega)]
        show (if ¬ Bq bf n (p + 2) = 48 then SEv (Bq bf n (p + 2)) else 7) = 7
        rw [if_neg (by omega)]
    rw [a3]; exact ⟨Or.inr (Or.inr rfl), s7 _⟩
/-- where the event i begins -/
def Pp (bf : Nat → Int32) (n : Nat) (rd : Nat → Int32) : Nat → Nat
  | 0 => 0
  | i + 1 => (rS bf n rd i).1 + 1
def Pd (bf : Nat → Int32) (n : Nat) (rd : Nat → Int32) : Nat → Nat → Int32
  | 0 => rd
  | i + 1 => (rS bf n rd i).2.2.2
theorem rS_dfa {bf sg : Nat → Int32} {n : Nat} (hbf : Tok bf n) (hT : ∀ k, k < n → Tq sg n k = Bq bf n k) (rd : Nat → Int32) : ∀ i, (∀ j, j < i → rGo n (rS bf n rd j)) → ((rS bf n rd i).2.1 ≠ 0 → rS bf n rd i = rEv bf n (Pp bf n rd i) i (Pd bf n rd i) ∧ Pp bf n rd i ≤ n ∧ Sst sg n (Pp bf n rd i) = 0) ∧ ((rS bf n rd i).2.1 = 0 → (rS bf n rd i).1 ≤ n ∧ Sst sg n (rS bf n rd i).1 ≠ 8 ∧ ((rS bf n rd i).1 < n ∨ Sst sg n (rS bf n rd i).1 < 5) ∧ ((rS bf n rd i).1 < n → Sst sg n ((rS bf n rd i).1 + 1) = 8)) := by
  intro i
  induction i with
  | zero =>
    intro _
    refine ⟨fun _ => ⟨rfl, Nat.zero_le n, rfl⟩, fun h => ?_⟩
    obtain ⟨h1, h2, h3⟩ := rEv_bad (r := 0) (rd := rd) hbf hT (Nat.zero_le n) rfl h
    exact ⟨h1, fun z => by rw [show rS bf n rd 0 = rEv bf n 0 0 rd from rfl] at z; omega, Or.inr h2, h3⟩
  | succ i ih =>
    intro hg
    obtain ⟨hw, hlt⟩ := hg i (Nat.lt_succ_self i)
    obtain ⟨e, hp, h0⟩ := (ih (fun j hj => hg j (by omega))).1 hw
    have W := rEv_well hbf (a := Pp bf n rd i) (r := i) (rd := Pd bf n rd i) (by rw [← e]; exact hw)
    rw [← e] at W
    obtain ⟨E, hc, -⟩ := W
    obtain ⟨g1, g2⟩ := ev_end hT h0 E
    have es : rS bf n rd (i + 1) = if Bq bf n (rS bf n rd i).1 = 59 then rEv bf n ((rS bf n rd i).1 + 1) (rS bf n rd i).2.2.1 (rS bf n rd i).2.2.2 else ((rS bf n rd i).1, 0, (rS bf n rd i).2.2.1, (rS bf n rd i).2.2.2) := rfl
    have en : Sst sg n ((rS bf n rd i).1 + 1) = SEv (Bq bf n (rS bf n rd i).1) := by
      show Sta _ _ = _
      rw [g2, hT _ hlt]
    by_cases c : Bq bf n (rS bf n rd i).1 = 59
    · rw [if_pos c, hc] at es
      have h1 : Sst sg n ((rS bf n rd i).1 + 1) = 0 := by rw [en, c]; rfl
      refine ⟨fun _ => ⟨es, hlt, h1⟩, fun h => ?_⟩
      rw [es] at h ⊢
      obtain ⟨k1, k2, k3⟩ := rEv_bad hbf hT (a := (rS bf n rd i).1 + 1) hlt h1 h
      exact ⟨k1, by omega, Or.inr k2, k3⟩
    · rw [if_neg c] at es
      rw [es]
      refine ⟨fun h => absurd rfl h, fun _ => ⟨Nat.le_of_lt hlt, ?_, Or.inl hlt, fun _ => ?_⟩⟩
      · show Sst sg n (rS bf n rd i).1 ≠ 8; omega
      · show Sst sg n ((rS bf n rd i).1 + 1) = 8
        rw [en]; exact if_pos c
theorem rdEnd_all {bf : Nat → Int32} {n : Nat} {rd : Nat → Int32} : ∀ m i, (∀ j, j < i → rGo n (rS bf n rd j)) → (∀ j, j < rdEnd bf n rd i m → rGo n (rS bf n rd j)) ∧ (¬ rGo n (rS bf n rd (rdEnd bf n rd i m)) ∨ rdEnd bf n rd i m = i + m) := by
  intro m
  induction m with
  | zero => exact fun i h => ⟨h, Or.inr rfl⟩
  | succ m ih =>
    intro i h
    have e : rdEnd bf n rd i (m + 1) = if rGo n (rS bf n rd i) then rdEnd bf n rd (i + 1) m else i := rfl
    rw [e]
    by_cases c : rGo n (rS bf n rd i)
    · rw [if_pos c]
      obtain ⟨h1, h2⟩ := ih (i + 1) (fun j hj => by
        by_cases d : j = i
        · subst d; exact c
        · exact h j (by omega))
      exact ⟨h1, h2.imp id (fun z => by omega)⟩
    · rw [if_neg c]; exact ⟨h, Or.inl c⟩
theorem rd_stop {bf : Nat → Int32} {n : Nat} (hn : n ≤ 60) (hbf : Tok bf n) (rd : Nat → Int32) : ∃ J, rFin bf n rd = rS bf n rd J ∧ (∀ j, j < J → rGo n (rS bf n rd j)) ∧ ¬ rGo n (rS bf n rd J) ∧ (rS bf n rd J).1 ≤ n := by
  obtain ⟨j, e, h1, h2, h3, h4, h5⟩ := rEnd_ok (rd := rd) hn hbf 100 0 (rOK_0 hbf rd)
  obtain ⟨g1, g2⟩ := rdEnd_all (bf := bf) (n := n) (rd := rd) 100 0 (fun j hj => absurd hj (Nat.not_lt_zero j))
  rw [e] at g1 g2
  refine ⟨j, by unfold rFin; rw [e], g1, ?_, h2⟩
  rcases g2 with g2 | g2
  · exact g2
  · omega
theorem Tfw_eq {sg : Nat → Int32} {n p : Nat} (hp : p ≤ n) (h8 : Sst sg n p ≠ 8) (h9 : p < n → Sst sg n (p + 1) = 8) : ∀ m i, i + m = n → i ≤ p → Tfw sg n i m = p := by
  intro m
  induction m with
  | zero => exact fun i h1 h2 => by show i = p; omega
  | succ m ih =>
    intro i h1 h2
    show (if ¬ Sst sg n (i + 1) = 8 then Tfw sg n (i + 1) m else i) = p
    by_cases c : i = p
    · subst c
      rw [if_neg (not_not_intro (h9 (by omega)))]
    · rw [if_pos (fun z => h8 (by
        have e := Sst_8 z (p - (i + 1))
        rw [show i + 1 + (p - (i + 1)) = p by omega] at e
        exact e))]
      exact ih (i + 1) (by omega) (by omega)
theorem reads_eq {bf sg : Nat → Int32} {n : Nat} (hn : n ≤ 60) (hbf : Tok bf n) (hT : ∀ k, k < n → Tq sg n k = Bq bf n k) (rd : Nat → Int32) : ((rFin bf n rd).2.1 ≠ 0 ↔ Tdone sg n) ∧ (if (rFin bf n rd).2.1 = 0 then (rFin bf n rd).1 else n) = Tfw sg n 0 n := by
  obtain ⟨J, eJ, hg, hs, hle⟩ := rd_stop hn hbf rd
  rw [eJ]
  obtain ⟨k1, k2⟩ := rS_dfa hbf hT rd J hg
  by_cases c : (rS bf n rd J).2.1 = 0
  · obtain ⟨g1, g2, g3, g4⟩ := k2 c
    rw [if_pos c]
    refine ⟨⟨fun z => absurd c z, fun z => ?_⟩, (Tfw_eq g1 g2 g4 n 0 (by omega) (Nat.zero_le _)).symm⟩
    exfalso
    rcases g3 with g3 | g3
    · exact Tdone_ne z (i := (rS bf n rd J).1 + 1) g3 (g4 g3)
    · rcases Nat.lt_or_ge (rS bf n rd J).1 n with y | y
      · exact Tdone_ne z (i := (rS bf n rd J).1 + 1) y (g4 y)
      · have e : (rS bf n rd J).1 = n := by omega
        rw [e] at g3
        unfold Tdone at z
        omega
  · obtain ⟨e, hp, h0⟩ := k1 c
    have W := rEv_well hbf (a := Pp bf n rd J) (r := J) (rd := Pd bf n rd J) (by rw [← e]; exact c)
    rw [← e] at W
    have en : (rS bf n rd J).1 = n := by
      rcases Nat.lt_or_ge (rS bf n rd J).1 n with y | y
      · exact absurd ⟨c, y⟩ hs
      · omega
    have g := (ev_end hT h0 W.1).1
    rw [en] at g
    rw [if_neg c]
    refine ⟨⟨fun _ => g, fun _ => c⟩, (Tfw_eq (Nat.le_refl n) (by omega) (fun z => absurd z (Nat.lt_irrefl n)) n 0 (by omega) (Nat.zero_le _)).symm⟩
