/-! the useful share lies between 0 and 1 -/
def jn (n : Nat) : Nat := 52 - Nat.log2 n
theorem jn_le (n : Nat) : jn n ≤ 52 := Nat.sub_le _ _
theorem val_n : ∀ n, n < 288 → FP.Core.val64 (FP.i2d (nI (n + 1))) = .fin false ((n + 1) * 2 ^ jn (n + 1)) (-(jn (n + 1) : Int)) := by decide +kernel
theorem val_0 : FP.Core.val64 (FP.i2d (nI 0)) = .fin false 0 FP.Core.b64.qmin := by decide +kernel
theorem rr_in {A B : Nat} {e : Int} (hB : 0 < B) (he : FP.Core.b64.qmin ≤ e) (h : FP.Core.inUnits A e FP.Core.b64.qmin ≤ FP.Core.one64 * B) : FP.Core.roundRatio FP.Core.b64 false A B e ≠ .nan ∧ 0 ≤ FP.Core.zval FP.Core.b64 (FP.Core.roundRatio FP.Core.b64 false A B e) ∧ FP.Core.zval FP.Core.b64 (FP.Core.roundRatio FP.Core.b64 false A B e) ≤ FP.Core.zval FP.Core.b64 (FP.Core.val64 FP.dconst1) := by
  have n1 : FP.Core.val64 FP.dconst1 ≠ .nan := by decide +kernel
  have z1 : FP.Core.zmag FP.Core.b64 (FP.Core.val64 FP.dconst1) = FP.Core.one64 := by decide +kernel
  have s1 : FP.Core.sgn (FP.Core.val64 FP.dconst1) = false := by decide +kernel
  have h9 : FP.Core.inUnits A e FP.Core.b64.qmin ≤ FP.Core.zmag FP.Core.b64 (FP.Core.val64 FP.dconst1) * 2 ^ (FP.Core.b64.qmin - FP.Core.b64.qmin).toNat * B := by
    rw [z1, Int.sub_self, show (0 : Int).toNat = 0 from rfl, Nat.pow_zero, Nat.mul_one]
    exact h
  have hle := FP.Core.zmag_roundRatio_le FP.Core.good_b64 (s := false) (A := A) (B := B) (e := e) (e0 := FP.Core.b64.qmin) (V := FP.Core.val64 FP.dconst1) hB (FP.Core.val64_fits _) n1 (Int.le_refl _) he h9
  have hs := FP.Core.sgn_roundRatio FP.Core.b64 false A B e
  refine ⟨?_, ?_, ?_⟩
  · rcases FP.Core.roundRatio_cases FP.Core.b64 false A B e with ⟨c, q, h8⟩ | h8
    · rw [h8]; exact fun z => by cases z
    · rw [h8]; exact fun z => by cases z
  · unfold FP.Core.zval
    rw [hs]
    generalize FP.Core.zmag FP.Core.b64 (FP.Core.roundRatio FP.Core.b64 false A B e) = k
    exact Int.natCast_nonneg k
  · unfold FP.Core.zval
    rw [hs, s1]
    generalize FP.Core.zmag FP.Core.b64 (FP.Core.roundRatio FP.Core.b64 false A B e) = k at hle ⊢
    generalize FP.Core.zmag FP.Core.b64 (FP.Core.val64 FP.dconst1) = j at hle ⊢
    exact Int.ofNat_le.mpr hle
theorem div_in {a s : Nat} (ha : a ≤ s) (h0 : 0 < s) (hs : s ≤ 288) : FP.Core.val64 (FP.ddiv (FP.i2d (nI a)) (FP.i2d (nI s))) ≠ .nan ∧ 0 ≤ FP.Core.zval FP.Core.b64 (FP.Core.val64 (FP.ddiv (FP.i2d (nI a)) (FP.i2d (nI s)))) ∧ FP.Core.zval FP.Core.b64 (FP.Core.val64 (FP.ddiv (FP.i2d (nI a)) (FP.i2d (nI s)))) ≤ FP.Core.zval FP.Core.b64 (FP.Core.val64 FP.dconst1) := by
  obtain ⟨m, rfl⟩ : ∃ m, s = m + 1 := ⟨s - 1, by omega⟩
  have hB : 0 < (m + 1) * 2 ^ jn (m + 1) := Nat.mul_pos (Nat.succ_pos m) (Nat.two_pow_pos _)
  have hj := jn_le (m + 1)
  have q : ∀ (A : Nat) (e : Int), FP.Core.quotient FP.Core.b64 (.fin false A e) (.fin false ((m + 1) * 2 ^ jn (m + 1)) (-(jn (m + 1) : Int))) = FP.Core.roundRatio FP.Core.b64 false A ((m + 1) * 2 ^ jn (m + 1)) (e - -(jn (m + 1) : Int)) := fun A e => if_neg (Nat.ne_of_gt hB)
  have e1 : FP.Core.val64 (FP.ddiv (FP.i2d (nI a)) (FP.i2d (nI (m + 1)))) = FP.Core.quotient FP.Core.b64 (FP.Core.val64 (FP.i2d (nI a))) (FP.Core.val64 (FP.i2d (nI (m + 1)))) := FP.Core.val64_ddiv _ _
  have hq : FP.Core.b64.qmin = -1074 := by decide +kernel
  rw [e1, val_n m (by omega)]
  cases a with
  | zero =>
    rw [val_0, q]
    refine rr_in hB (by rw [hq]; omega) ?_
    unfold FP.Core.inUnits
    rw [Nat.zero_mul]
    exact Nat.zero_le _
  | succ a =>
    have hi := jn_le (a + 1)
    rw [val_n a (by omega), q]
    refine rr_in hB (by rw [hq]; omega) ?_
    unfold FP.Core.inUnits
    have e2 : (-(jn (a + 1) : Int) - -(jn (m + 1) : Int) - FP.Core.b64.qmin).toNat + jn (a + 1) = (-FP.Core.b64.qmin).toNat + jn (m + 1) := by rw [hq]; omega
    rw [Nat.mul_assoc, ← Nat.pow_add, Nat.add_comm (jn (a + 1)), e2, Nat.pow_add, FP.Core.pow_qmin64, Nat.mul_left_comm]
    exact Nat.mul_le_mul_left _ (Nat.mul_le_mul_right _ ha)
theorem share_in {T : Nat} {h : HSt} (G : GH T h) (hT : T ≤ 36) : ¬ Op.cmpValue (FP.dcmp (dSh (hC h 0) (hC h 1)) FP.dconst0) .l < 0 ∧ ¬ 0 < Op.cmpValue (FP.dcmp (dSh (hC h 0) (hC h 1)) FP.dconst1) .g := by
  obtain ⟨-, -, a, d, e1, e2, e3⟩ := G
  rw [e1, e2]
  unfold dSh
  rw [nI_add]
  by_cases c : a + d = 0
  · rw [c, if_pos (show nI 0 = 0 from rfl)]
    decide +kernel
  · rw [if_neg (fun z => c ((nI_eq (by omega) (by decide)).mp (z.trans nz.symm)))]
    obtain ⟨n, g0, g1⟩ := div_in (a := a) (s := a + d) (by omega) (by omega) (by omega)
    have n0 : FP.Core.val64 FP.dconst0 ≠ .nan := by decide +kernel
    have v0 : FP.Core.zval FP.Core.b64 (FP.Core.val64 FP.dconst0) = 0 := by decide +kernel
    have n1 : FP.Core.val64 FP.dconst1 ≠ .nan := by decide +kernel
    have k0 : FP.dcmp (FP.ddiv (FP.i2d (nI a)) (FP.i2d (nI (a + d)))) FP.dconst0 = some .gt ∨ FP.dcmp (FP.ddiv (FP.i2d (nI a)) (FP.i2d (nI (a + d)))) FP.dconst0 = some .eq := FP.Core.dcmp_ge.mpr ⟨n, n0, by rw [v0]; exact g0⟩
    have k1 : FP.dcmp (FP.ddiv (FP.i2d (nI a)) (FP.i2d (nI (a + d)))) FP.dconst1 = some .lt ∨ FP.dcmp (FP.ddiv (FP.i2d (nI a)) (FP.i2d (nI (a + d)))) FP.dconst1 = some .eq := FP.Core.dcmp_le.mpr ⟨n, n1, g1⟩
    constructor
    · rcases k0 with k | k
      · rw [k]; decide
      · rw [k]; decide
    · rcases k1 with k | k
      · rw [k]; decide
      · rw [k]; decide
