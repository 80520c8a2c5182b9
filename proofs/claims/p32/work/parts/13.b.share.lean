/-! the useful share lies between 0 and 1 -/
def okS (a s : Nat) : Bool := decide (¬ Op.cmpValue (FP.dcmp (FP.ddiv (FP.i2d (nI a)) (FP.i2d (nI s))) FP.dconst0) .l < 0 ∧ ¬ 0 < Op.cmpValue (FP.dcmp (FP.ddiv (FP.i2d (nI a)) (FP.i2d (nI s))) FP.dconst1) .g)
set_option maxRecDepth 100000 in
theorem okS_1 : ∀ s, s < 5 → ∀ a, a < s + 2 → okS a (s + 1) = true := by decide +kernel
