/-! what the law's calls keep and set -/
theorem kOd5 {od sz : Nat} (h : sz ≤ 5) : kOd od sz = od := if_pos (by omega)
theorem kSz5 {sz : Nat} (h : sz ≤ 5) : kSz sz = sz + 1 := if_pos (by omega)
theorem kJ5 {od sz : Nat} (h : sz ≤ 5) : kJ od sz = (od + sz) % 6 := if_pos (by omega)
def Lopen (r b : Nat) (h : HSt) : HSt := if bI (Hopen h r) = nI b then h else Hturn r h
def Ltimes (a b c : Nat) (h : HSt) : HSt := sHas (sHpt (sHfd h (nI a)) (nI b)) (nI c)
def Lpres (p b : Nat) (h : HSt) : HSt := if ¬ p = 1 then sHf2 h (nI b) else sHf1 h (nI b)
