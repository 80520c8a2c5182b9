/-! the law's numbers; what holds of the hall at every turn -/
abbrev CSt : Type := HSt × Nat × Nat × (Nat → HSt) × (Nat → Int32) × Nat
abbrev ch (c : CSt) : HSt := c.1
abbrev cod (c : CSt) : Nat := c.2.1
abbrev csz (c : CSt) : Nat := c.2.2.1
abbrev chs (c : CSt) : Nat → HSt := c.2.2.2.1
abbrev csg (c : CSt) : Nat → Int32 := c.2.2.2.2.1
abbrev cn (c : CSt) : Nat := c.2.2.2.2.2
/-- a call that is kept; a call that is kept and taken back -/
abbrev k5 (c : CSt) (h2 : HSt) : CSt := (h2, cod c, csz c + 1, va_up (chs c) ((cod c + csz c) % 6) (ch c), csg c, cn c)
abbrev p5 (c : CSt) : CSt := (ch c, cod c, csz c, va_up (chs c) ((cod c + csz c) % 6) (ch c), csg c, cn c)
def lowA (x : Int32) : Nat := (x &&& 2147483647).toNatClampNeg
theorem low_and (x : Int32) : x &&& 2147483647 = nI (lowA x) ∧ lowA x < 2 ^ 31 := by
  obtain ⟨j, hj, e⟩ := pk_andE x (m := 2147483647) 31 (by decide +kernel)
  unfold lowA
  rw [e, nI_clamp hj]
  exact ⟨rfl, hj⟩
def lowN (x : Int32) (n : Nat) : Nat := lowA x % n
theorem lowN_lt (x : Int32) {n : Nat} (h : 0 < n) : lowN x n < n := Nat.mod_lt _ h
def aRn (v : Int32) : Nat := if (v >>> (nI 19 &&& 31)) &&& nI 1 = 0 then 3 else 8
def aCn (v : Int32) : Nat := if (v >>> (nI 20 &&& 31)) &&& nI 1 = 0 then 2 else 6
def aPn (w : Int32) : Nat := if (w >>> (nI 20 &&& 31)) &&& nI 1 = 0 then 6 else 60
theorem aRn_b (v : Int32) : 0 < aRn v ∧ aRn v ≤ 8 := by unfold aRn; split <;> decide
theorem aCn_b (v : Int32) : 0 < aCn v ∧ aCn v ≤ 6 := by unfold aCn; split <;> decide
theorem aPn_b (w : Int32) : 0 < aPn w ∧ aPn w ≤ 60 := by unfold aPn; split <;> decide
def aRow (v : Int32) : Nat := lowN (v >>> (nI 4 &&& 31)) (aRn v)
def aCol (v w : Int32) : Nat := lowN w (aCn v)
theorem aRow_lt (v : Int32) : aRow v < 8 := Nat.lt_of_lt_of_le (lowN_lt _ (aRn_b v).1) (aRn_b v).2
theorem aCol_lt (v w : Int32) : aCol v w < 6 := Nat.lt_of_lt_of_le (lowN_lt _ (aCn_b v).1) (aCn_b v).2
abbrev aPl (v w : Int32) : Nat := aRow v * 6 + aCol v w
theorem aPl_lt (v w : Int32) : aPl v w < 48 := by have := aRow_lt v; have := aCol_lt v w; unfold aPl; omega
def aT (v : Int32) : Nat := (v &&& nI 15).toNatClampNeg
theorem aT_and (v : Int32) : v &&& nI 15 = nI (aT v) ∧ aT v < 16 := by
  obtain ⟨j, hj, e⟩ := pk_andE v (m := nI 15) 4 (by decide +kernel)
  unfold aT
  rw [e, nI_clamp (by omega)]
  exact ⟨rfl, hj⟩
def aB (w : Int32) : Nat := (w &&& nI 1).toNatClampNeg
theorem aB_and (w : Int32) : w &&& nI 1 = nI (aB w) ∧ aB w < 2 := by
  obtain ⟨j, hj, e⟩ := pk_andE w (m := nI 1) 1 (by decide +kernel)
  unfold aB
  rw [e, nI_clamp (by omega)]
  exact ⟨rfl, hj⟩
def bLoud (w : Int32) : Nat := if (w >>> (nI 4 &&& 31)) &&& nI 3 ≤ 0 then 0 else 1
def bOpen (w : Int32) : Nat := if (w >>> (nI 5 &&& 31)) &&& nI 1 = nI 1 then 1 else 0
def bQuick (w : Int32) : Nat := if w &&& nI 1 = nI 1 then 1 else 0
def bPres (w : Int32) : Nat := if (w >>> (nI 1 &&& 31)) &&& nI 1 = nI 1 then 1 else 0
theorem bLoud_lt (w : Int32) : bLoud w < 2 := by unfold bLoud; split <;> decide
theorem bOpen_lt (w : Int32) : bOpen w < 2 := by unfold bOpen; split <;> decide
theorem bQuick_lt (w : Int32) : bQuick w < 2 := by unfold bQuick; split <;> decide
theorem bPres_lt (w : Int32) : bPres w < 2 := by unfold bPres; split <;> decide
abbrev aT1 (w : Int32) : Nat := 2 + lowN w 59
abbrev aT2 (w : Int32) : Nat := 1 + lowN (w >>> (nI 3 &&& 31)) 10
abbrev aT3 (w : Int32) : Nat := 1 + lowN (w >>> (nI 6 &&& 31)) 30
abbrev aPm (w : Int32) : Nat := 1 + lowN w (aPn w)
theorem aT1_b (w : Int32) : 2 ≤ aT1 w ∧ aT1 w ≤ 60 := by have := lowN_lt w (n := 59) (by decide); unfold aT1; omega
theorem aT2_b (w : Int32) : 1 ≤ aT2 w ∧ aT2 w ≤ 10 := by have := lowN_lt (w >>> (nI 3 &&& 31)) (n := 10) (by decide); unfold aT2; omega
theorem aT3_b (w : Int32) : 1 ≤ aT3 w ∧ aT3 w ≤ 30 := by have := lowN_lt (w >>> (nI 6 &&& 31)) (n := 30) (by decide); unfold aT3; omega
theorem aPm_b (w : Int32) : 1 ≤ aPm w ∧ aPm w ≤ 60 := by have := lowN_lt w (aPn_b w).1; have := (aPn_b w).2; unfold aPm; omega
/-- no call is made; else: the hall behind it, its answer -/
abbrev aNo (h : HSt) (v w : Int32) : Prop := (aT v < 4 ∧ hL h (aPl v w) = nI 9) ∨ ((4 ≤ aT v ∧ aT v < 8) ∧ hL h (aPl v w) = nI 0)
def actH (h : HSt) (v w : Int32) : HSt :=
  if aT v < 4 then Hseat (aPl v w) h else if aT v < 8 then Hunseat (aPl v w) (bLoud w) h else if aT v = 8 then Lopen (aRow v) (bOpen w) h else if aT v = 9 then sHqk h (nI (bQuick w)) else if aT v = 10 then Ltimes (aT1 w) (aT2 w) (aT3 w) h else if aT v = 11 then Lpres (1 + aB w) (bPres w) h else if aT v < 14 then Hperf (aCol v w) h else HpassN h (aPm w)
def actR (h : HSt) (v w : Int32) : Int32 :=
  if aT v < 4 then hL (Hseat (aPl v w) h) (aPl v w) else if aT v < 8 then hL (Hunseat (aPl v w) (bLoud w) h) (aPl v w) else if aT v = 8 then bI (Hopen h (aRow v)) else if aT v = 9 then (if hqk h = 0 then nI 0 else nI 1) else if aT v = 10 then hfd h else if aT v = 11 then Hchief (Lpres (1 + aB w) (bPres w) h) else if aT v < 14 then bc (Hget h (aCol v w) 8) else nI (HpassQ h (aPm w))
def actC (c : CSt) (v w : Int32) : CSt := if aNo (ch c) v w then c else k5 c (actH (ch c) v w)
def actA (h : HSt) (v w : Int32) : Int32 := if aNo h v w then -9 else actR h v w
/-! the counts of served and disturbed rows -/
def Hcm (h h' : HSt) : Prop := hC h' 0 = hC h 0 ∧ hC h' 1 = hC h 1
theorem Hcm.rf (h : HSt) : Hcm h h := ⟨rfl, rfl⟩
theorem Hcm.tr {a b c : HSt} (h1 : Hcm a b) (h2 : Hcm b c) : Hcm a c := ⟨h2.1.trans h1.1, h2.2.trans h1.2⟩
theorem cnt_cm (h : HSt) {j : Nat} (v : Int32) (hj : 2 ≤ j) : Hcm h (sHC h (upd (hC h) j v)) := ⟨pk_un (by omega), pk_un (by omega)⟩
theorem R_cm (h : HSt) (F : Nat → Int32) : Hcm h (sHR h F) := ⟨rfl, rfl⟩
theorem L_cm (h : HSt) (F : Nat → Int32) : Hcm h (sHL h F) := ⟨rfl, rfl⟩
theorem sn_cm (h : HSt) (v : Int32) : Hcm h (sHsn h v) := ⟨rfl, rfl⟩
theorem call_cm (k : Nat) (h : HSt) : Hcm h (Hcall k h) := (R_cm h _).tr (cnt_cm (sHR h (upd (hR h) k (hfd h))) _ (by decide))
theorem hear_cm (k : Nat) (h : HSt) : Hcm h (Hhear k h) := by
  unfold Hhear
  by_cases c : ¬ hL h k ≤ 0
  · rw [if_pos c]; exact call_cm k h
  · rw [if_neg c]; exact Hcm.rf h
theorem seat_cm (k : Nat) (h : HSt) : Hcm h (Hseat k h) := (L_cm h _).tr (hear_cm k _)
theorem ask_cm (k : Nat) (h : HSt) : Hcm h (Hask k h) := (cnt_cm h _ (by decide)).tr (hear_cm k _)
theorem fare2_cm (k : Nat) (h : HSt) : Hcm h (Hfare2 k h) := by
  unfold Hfare2
  by_cases c : hR h k ≤ hpt h
  · rw [if_pos c]; exact Hcm.rf h
  · rw [if_neg c]; exact (R_cm h _).tr (ask_cm k _)
theorem fare_cm (k : Nat) (h : HSt) : Hcm h (Hfare k h) := by
  unfold Hfare
  by_cases c : hqk h = 0
  · rw [if_pos c]; exact fare2_cm k h
  · rw [if_neg c]
    by_cases d : ¬ hL h k ≤ 0
    · rw [if_pos d]; exact fare2_cm k h
    · rw [if_neg d]; exact R_cm h _
theorem unseat_cm (k b : Nat) (h : HSt) : Hcm h (Hunseat k b h) := by
  unfold Hunseat
  by_cases c : b = 0
  · rw [if_pos c]; exact L_cm h _
  · rw [if_neg c]; exact (L_cm h _).tr (fare_cm k _)
theorem askN_cm (h : HSt) (n : Nat) : Hcm h (HaskN h n) := by
  induction n with
  | zero => exact Hcm.rf h
  | succ n ih => exact ih.tr (hear_cm n _)
theorem askAll_cm (h : HSt) : Hcm h (HaskAll h) := (cnt_cm h _ (by decide)).tr (askN_cm _ 48)
theorem tk_cm (h : HSt) : Hcm h (Htk h) := by
  rw [Htk_eq]
  generalize HfadeN (hR h) 48 = F
  exact ⟨rfl, rfl⟩
theorem min_cm (h : HSt) : Hcm h (Hmin h) := by
  unfold Hmin
  by_cases c : hsn (Htk h) < Htbq (Htk h)
  · rw [if_pos c]; exact tk_cm h
  · rw [if_neg c]; exact (tk_cm h).tr ((sn_cm _ _).tr (askAll_cm _))
theorem pass_cm (h : HSt) (n : Nat) : Hcm h (HpassN h n) := by
  induction n with
  | zero => exact Hcm.rf h
  | succ n ih => exact ih.tr (min_cm _)
theorem perf_C (h : HSt) (c : Nat) : hC (Hperf c h) 0 = hC h 0 + bc (Hget h c 8 &&& Hwant h c 8) ∧ hC (Hperf c h) 1 = hC h 1 + bc (Hget h c 8 &&& (Hwant h c 8 ^^^ (-1))) ∧ hC (Hperf c h) 2 = hC h 2 + bc (Hwant h c 8 &&& (Hget h c 8 ^^^ (-1))) := by
  unfold Hperf
  generalize Hget h c 8 = g
  generalize Hwant h c 8 = w
  generalize hC h = C
  show HperfC C g w 0 = _ ∧ HperfC C g w 1 = _ ∧ HperfC C g w 2 = _
  unfold HperfC
  refine ⟨?_, ?_, ?_⟩
  · rw [pk_un (by decide), pk_un (by decide), pk_us]
  · rw [pk_un (by decide), pk_us, pk_un (by decide)]
  · rw [pk_us, pk_un (by decide), pk_un (by decide)]
/-! masks of eight rows -/
theorem o8_n : ∀ a b c d e f g h : Bool, (o8 a b c d e f g h).toNatClampNeg < 256 ∧ o8 a b c d e f g h = nI (o8 a b c d e f g h).toNatClampNeg := by decide +kernel
theorem orb_n (P : Nat → Bool) : ∃ k : Nat, k < 256 ∧ orb P 8 = nI k := ⟨_, o8_n (P 0) (P 1) (P 2) (P 3) (P 4) (P 5) (P 6) (P 7)⟩
theorem o8_bit : ∀ a b c d e f g h : Bool, opb (o8 a b c d e f g h) 0 = a ∧ opb (o8 a b c d e f g h) 1 = b ∧ opb (o8 a b c d e f g h) 2 = c ∧ opb (o8 a b c d e f g h) 3 = d ∧ opb (o8 a b c d e f g h) 4 = e ∧ opb (o8 a b c d e f g h) 5 = f ∧ opb (o8 a b c d e f g h) 6 = g ∧ opb (o8 a b c d e f g h) 7 = h := by decide +kernel
theorem orb_opb (P : Nat → Bool) {r : Nat} (hr : r < 8) : opb (orb P 8) r = P r := by
  have z := o8_bit (P 0) (P 1) (P 2) (P 3) (P 4) (P 5) (P 6) (P 7)
  obtain ⟨z0, z1, z2, z3, z4, z5, z6, z7⟩ := z
  rcases (by omega : r = 0 ∨ r = 1 ∨ r = 2 ∨ r = 3 ∨ r = 4 ∨ r = 5 ∨ r = 6 ∨ r = 7) with rfl | rfl | rfl | rfl | rfl | rfl | rfl | rfl
  · exact z0
  · exact z1
  · exact z2
  · exact z3
  · exact z4
  · exact z5
  · exact z6
  · exact z7
theorem get_n {h : HSt} (i : Inv h) (c : Nat) : ∃ k : Nat, k < 256 ∧ Hget h c 8 = nI k := by rw [get_orb i c]; exact orb_n _
theorem gw_n {h : HSt} (i : Inv h) (c : Nat) : ∃ k : Nat, k < 256 ∧ Hget h c 8 &&& Hwant h c 8 = nI k := by rw [get_orb i c, want_orb, orb_and _ _ 8 (Nat.le_refl 8)]; exact orb_n _
theorem gnw_n {h : HSt} (i : Inv h) (c : Nat) : ∃ k : Nat, k < 256 ∧ Hget h c 8 &&& (Hwant h c 8 ^^^ (-1)) = nI k := by rw [get_orb i c, want_orb, orb_not _ _ 8 (Nat.le_refl 8)]; exact orb_n _
theorem wng_n {h : HSt} (i : Inv h) (c : Nat) : ∃ k : Nat, k < 256 ∧ Hwant h c 8 &&& (Hget h c 8 ^^^ (-1)) = nI k := by rw [get_orb i c, want_orb, orb_not _ _ 8 (Nat.le_refl 8)]; exact orb_n _
theorem cnb_split (G W : Nat → Bool) : ∀ n, cnb (fun k => G k && W k) n + cnb (fun k => G k && !W k) n ≤ n := by
  intro n
  induction n with
  | zero => exact Nat.le_refl 0
  | succ n ih =>
    show cnb (fun k => G k && W k) n + (if (G n && W n) = true then 1 else 0) + (cnb (fun k => G k && !W k) n + (if (G n && !W n) = true then 1 else 0)) ≤ n + 1
    cases G n <;> cases W n <;> simp <;> omega
theorem cnb_le (P : Nat → Bool) (n : Nat) : cnb P n ≤ n := by
  induction n with
  | zero => exact Nat.le_refl 0
  | succ n ih =>
    show cnb P n + (if P n = true then 1 else 0) ≤ n + 1
    split <;> omega
/-! bits, counted one after the other -/
def rb (k : Nat) : Nat → Nat
  | 0 => k
  | i + 1 => rb k i &&& (rb k i - 1)
def bcn (k : Nat) : Nat := (bc (nI k)).toNatClampNeg
theorem rb_all : ∀ k, k < 256 → (bc (nI k) = nI (bcn k) ∧ bcn k ≤ 8 ∧ rb k (bcn k) = 0) ∧ ∀ i, i < 9 → (rb k i < 256 ∧ (i < bcn k → ¬ rb k i = 0)) := by decide +kernel
theorem rb_and : ∀ a, a < 256 → ¬ a = 0 → nI a &&& (nI a - nI 1) = nI (a &&& (a - 1)) := by decide +kernel
/-! the state as the law tells it -/
def ToldA (h : HSt) (x : Int64) : Nat → Int64
  | 0 => x
  | n + 1 => 31 * (31 * ToldA h x n + (hL h (n / 6 * 6 + n % 6)).toInt64) + (hR h (n / 6 * 6 + n % 6)).toInt64
def ToldB (h : HSt) (x : Int64) : Nat → Int64
  | 0 => x
  | n + 1 => 31 * (31 * ToldB h x n + (bI (Hopen h n)).toInt64) + (if 6 ≤ n then nI 0 else hC h n).toInt64
def Told0 (h : HSt) : Int64 := 31 * (31 * (hmn h).toInt64 + (hsn h).toInt64) + (Hchief h).toInt64
def Told (h : HSt) : Int64 := ToldB h (ToldA h (Told0 h) 48) 8
theorem cmp_self (x : Int64) : lg_cmp x x = 0 := by simp [lg_cmp]
/-! what holds at every turn -/
def GH (T : Nat) (h : HSt) : Prop := Inv h ∧ Hbo h ∧ ∃ a b : Nat, hC h 0 = nI a ∧ hC h 1 = nI b ∧ a + b ≤ 8 * T
theorem GH.mono {T U : Nat} {h : HSt} (G : GH T h) (hu : T ≤ U) : GH U h := by
  obtain ⟨g1, g2, a, b, g3, g4, g5⟩ := G
  exact ⟨g1, g2, a, b, g3, g4, by omega⟩
theorem gh_of {T : Nat} {h h' : HSt} (G : GH T h) (i : Inv h') (b : Hbo h') (c : Hcm h h') : GH (T + 1) h' := by
  obtain ⟨-, -, a, d, e1, e2, e3⟩ := G
  exact ⟨i, b, a, d, c.1.trans e1, c.2.trans e2, by omega⟩
theorem gh_perf {T : Nat} {h : HSt} (G : GH T h) (c : Nat) : GH (T + 1) (Hperf c h) := by
  obtain ⟨i, b, a, d, e1, e2, e3⟩ := G
  obtain ⟨p0, p1, -⟩ := perf_C h c
  rw [get_orb i c, want_orb, orb_and _ _ 8 (Nat.le_refl 8), bc_orb, e1, nI_add] at p0
  rw [get_orb i c, want_orb, orb_not _ _ 8 (Nat.le_refl 8), bc_orb, e2, nI_add] at p1
  have := cnb_split (gB h c) (wB h c) 8
  exact ⟨inv_play i c, Hbo_sm b (Hperf_sm c h), _, _, p0, p1, by omega⟩
theorem opb_iff (h : HSt) (r : Nat) : opb (hop h) r = true ↔ Hopen h r := by
  unfold opb
  exact decide_eq_true_iff
theorem inv_turn {h : HSt} (i : Inv h) {r : Nat} (hr : r < 8) : Inv (Hturn r h) := by
  obtain ⟨w, hw, e⟩ := i.2.2.2.2.2.2
  obtain ⟨g1, g2⟩ := turn_all w hw r hr
  have e2 : hop (Hturn r h) = nI (w ^^^ (1 <<< r)) := by
    show hop h ^^^ bit r = _
    rw [e, g1]
  exact ⟨i.1, i.2.1, i.2.2.1, i.2.2.2.1, i.2.2.2.2.1, i.2.2.2.2.2.1, ⟨_, g2, e2⟩⟩
theorem inv_times {h : HSt} (i : Inv h) {a b c : Nat} (ha : 2 ≤ a ∧ a ≤ 60) (hb : 1 ≤ b ∧ b ≤ 10) (hc : 1 ≤ c ∧ c ≤ 30) : Inv (Ltimes a b c h) := ⟨i.1, i.2.1, ⟨a, ha, rfl⟩, ⟨b, hb, rfl⟩, ⟨c, hc, rfl⟩, i.2.2.2.2.2⟩
theorem Lpres_bo {h : HSt} (b : Hbo h) (p : Nat) {q : Nat} (hq : q < 2) : Hbo (Lpres p q h) := by
  unfold Lpres
  by_cases c : ¬ p = 1
  · rw [if_pos c]; exact ⟨b.1, b.2.1, k_b2 hq⟩
  · rw [if_neg c]; exact ⟨b.1, k_b2 hq, b.2.2⟩
theorem Lpres_inv {h : HSt} (i : Inv h) (p q : Nat) : Inv (Lpres p q h) := by
  unfold Lpres
  by_cases c : ¬ p = 1
  · rw [if_pos c]; exact i
  · rw [if_neg c]; exact i
theorem Lpres_cm (h : HSt) (p q : Nat) : Hcm h (Lpres p q h) := by
  unfold Lpres
  by_cases c : ¬ p = 1
  · rw [if_pos c]; exact ⟨rfl, rfl⟩
  · rw [if_neg c]; exact ⟨rfl, rfl⟩
theorem no_9 {h : HSt} (i : Inv h) {k : Nat} (hk : k < 48) (c : ¬ hL h k = nI 9) : ¬ nI 9 ≤ hL h k := by
  obtain ⟨l, hl, e⟩ := i.1 k hk
  rw [e] at c ⊢
  intro z
  have := (nI_leI (by decide) (by omega)).mp z
  exact c (by rw [show l = 9 by omega])
theorem no_0 {h : HSt} (i : Inv h) {k : Nat} (hk : k < 48) (c : ¬ hL h k = nI 0) : ¬ hL h k ≤ 0 := by
  obtain ⟨l, hl, e⟩ := i.1 k hk
  rw [e] at c ⊢
  intro z
  exact c (by rw [(le0 (by omega)).mp z])
theorem gh_act {T : Nat} {h : HSt} {v w : Int32} (G : GH T h) (hn : ¬ aNo h v w) : GH (T + 1) (actH h v w) := by
  obtain ⟨i, b, -⟩ := id G
  have hk := aPl_lt v w
  unfold actH
  by_cases c1 : aT v < 4
  · rw [if_pos c1]
    exact gh_of G (inv_seat i hk (no_9 i hk fun z => hn (Or.inl ⟨c1, z⟩))) (Hbo_sm b (Hseat_sm _ _)) (seat_cm _ _)
  rw [if_neg c1]
  by_cases c2 : aT v < 8
  · rw [if_pos c2]
    exact gh_of G (inv_unseat i _ hk (no_0 i hk fun z => hn (Or.inr ⟨⟨by omega, c2⟩, z⟩))) (Hbo_sm b (Hunseat_sm _ _ _)) (unseat_cm _ _ _)
  rw [if_neg c2]
  by_cases c3 : aT v = 8
  · rw [if_pos c3]
    unfold Lopen
    by_cases d : bI (Hopen h (aRow v)) = nI (bOpen w)
    · rw [if_pos d]; exact G.mono (by omega)
    · rw [if_neg d]; exact gh_of G (inv_turn i (aRow_lt v)) (Hbo_sm b (Hturn_sm _ _)) ⟨rfl, rfl⟩
  rw [if_neg c3]
  by_cases c4 : aT v = 9
  · rw [if_pos c4]; exact gh_of G i ⟨k_b2 (bQuick_lt w), b.2.1, b.2.2⟩ ⟨rfl, rfl⟩
  rw [if_neg c4]
  by_cases c5 : aT v = 10
  · rw [if_pos c5]; exact gh_of G (inv_times i (aT1_b w) (aT2_b w) (aT3_b w)) b ⟨rfl, rfl⟩
  rw [if_neg c5]
  by_cases c6 : aT v = 11
  · rw [if_pos c6]; exact gh_of G (Lpres_inv i _ _) (Lpres_bo b _ (bPres_lt w)) (Lpres_cm _ _ _)
  rw [if_neg c6]
  by_cases c7 : aT v < 14
  · rw [if_pos c7]; exact gh_perf G _
  rw [if_neg c7]
  exact gh_of G (inv_pass i _) (Hbo_sm b (HpassN_sm _ _)) (pass_cm _ _)
/-! no answer is -9 -/
theorem n9_nat {l : Nat} (hl : l < 2 ^ 31) : ¬ nI l = -9 := fun e => nI_pos hl (by rw [e]; decide)
theorem passQ_le (h : HSt) (n : Nat) : HpassQ h n ≤ n := by
  induction n with
  | zero => exact Nat.le_refl 0
  | succ n ih =>
    show (if hsn (Htk (HpassN h n)) < Htbq (Htk (HpassN h n)) then HpassQ h n else HpassQ h n + 1) ≤ n + 1
    split <;> omega
theorem chief_3 (h : HSt) : ∃ l : Nat, l < 3 ∧ Hchief h = nI l := by
  unfold Hchief
  split
  · split
    · exact ⟨0, by decide, rfl⟩
    · exact ⟨1, by decide, rfl⟩
  · exact ⟨2, by decide, rfl⟩
theorem actR_n9 {T : Nat} {h : HSt} {v w : Int32} (G : GH T h) (hn : ¬ aNo h v w) : ¬ actR h v w = -9 := by
  obtain ⟨i, b, -⟩ := id G
  have hk := aPl_lt v w
  unfold actR
  by_cases c1 : aT v < 4
  · rw [if_pos c1]
    obtain ⟨l, hl, e⟩ := (inv_seat i hk (no_9 i hk fun z => hn (Or.inl ⟨c1, z⟩))).1 _ hk
    rw [e]; exact n9_nat (by omega)
  rw [if_neg c1]
  by_cases c2 : aT v < 8
  · rw [if_pos c2]
    obtain ⟨l, hl, e⟩ := (inv_unseat i (bLoud w) hk (no_0 i hk fun z => hn (Or.inr ⟨⟨by omega, c2⟩, z⟩))).1 _ hk
    rw [e]; exact n9_nat (by omega)
  rw [if_neg c2]
  by_cases c3 : aT v = 8
  · rw [if_pos c3]
    unfold bI
    split
    · exact n9_nat (by decide)
    · exact n9_nat (by decide)
  rw [if_neg c3]
  by_cases c4 : aT v = 9
  · rw [if_pos c4]
    split
    · exact n9_nat (by decide)
    · exact n9_nat (by decide)
  rw [if_neg c4]
  by_cases c5 : aT v = 10
  · rw [if_pos c5]
    obtain ⟨f, hf, e⟩ := i.2.2.1
    rw [e]; exact n9_nat (by omega)
  rw [if_neg c5]
  by_cases c6 : aT v = 11
  · rw [if_pos c6]
    obtain ⟨l, hl, e⟩ := chief_3 (Lpres (1 + aB w) (bPres w) h)
    rw [e]; exact n9_nat (by omega)
  rw [if_neg c6]
  by_cases c7 : aT v < 14
  · rw [if_pos c7, get_orb i, bc_orb]
    have := cnb_le (gB h (aCol v w)) 8
    exact n9_nat (by omega)
  rw [if_neg c7]
  have h1 := passQ_le h (aPm w)
  have h2 := aPm_b w
  exact n9_nat (by omega)
/-! what the law holds of each place -/
theorem get_bit {h : HSt} (i : Inv h) (c : Nat) {r : Nat} (hr : r < 8) : (Hget h c 8 >>> (nI r &&& 31)) &&& nI 1 = nI 1 ↔ (¬ hR h (r * 6 + c) ≤ 0 ∨ Hopen h r) := by
  have z : opb (Hget h c 8) r = true ↔ (Hget h c 8 >>> (nI r &&& 31)) &&& nI 1 = nI 1 := by unfold opb; exact decide_eq_true_iff
  rw [← z, get_orb i c, orb_opb _ hr]
  unfold gB
  rw [Bool.or_eq_true, opb_iff, decide_eq_true_iff]
  exact Or.comm
theorem want_bit (h : HSt) (c : Nat) {r : Nat} (hr : r < 8) : (Hwant h c 8 >>> (nI r &&& 31)) &&& nI 1 = nI 1 ↔ ¬ hL h (r * 6 + c) ≤ 0 := by
  have z : opb (Hwant h c 8) r = true ↔ (Hwant h c 8 >>> (nI r &&& 31)) &&& nI 1 = nI 1 := by unfold opb; exact decide_eq_true_iff
  rw [← z, want_orb, orb_opb _ hr]
  unfold wB
  rw [decide_eq_true_iff]
theorem ent_s (f : Nat → Int32) (n : Nat) : Hent f (n + 1) = Hent f n + (if f n ≤ 0 then 0 else 1) := by
  show (if f n ≤ 0 then Hent f n else Hent f n + 1) = _
  split <;> rfl
theorem ent_le (f : Nat → Int32) (n : Nat) : Hent f n ≤ n := by
  induction n with
  | zero => exact Nat.le_refl 0
  | succ n ih => rw [ent_s]; split <;> omega
theorem L_in {h : HSt} (i : Inv h) {k : Nat} (hk : k < 48) : ¬ hL h k < 0 ∧ ¬ nI 9 < hL h k := by
  obtain ⟨l, hl, e⟩ := i.1 k hk
  rw [e]
  exact ⟨nI_pos (by omega), fun z => by have := (nI_ltI (by decide) (by omega)).mp z; omega⟩
theorem R_in {h : HSt} (i : Inv h) {k : Nat} (hk : k < 48) : ¬ hR h k < 0 ∧ ¬ nI 60 < hR h k := by
  obtain ⟨l, hl, e⟩ := i.2.1 k hk
  rw [e]
  exact ⟨nI_pos (by omega), fun z => by have := (nI_ltI (by decide) (by omega)).mp z; omega⟩
theorem R_0 {h : HSt} (i : Inv h) {k : Nat} (hk : k < 48) : hR h k ≤ 0 ↔ hR h k = 0 := by
  obtain ⟨l, hl, e⟩ := i.2.1 k hk
  rw [e, le0 (by omega)]
  constructor
  · intro z; rw [z]; rfl
  · intro z; exact (nI_eq (by omega) (by decide)).mp (z.trans nz.symm)
theorem pos_le {x : Int32} (c : 0 < x) : ¬ x ≤ 0 := Int32.not_le.mpr c
theorem sn_nat {h : HSt} (i : Inv h) : ∃ t : Nat, t ≤ 59 ∧ hsn h = nI t := i.2.2.2.2.2.1
theorem asks_n {h : HSt} (i : Inv h) : ∃ q : Nat, (1 ≤ q ∧ q ≤ 60) ∧ HasksIn h = nI q := by
  obtain ⟨d, hd, ed⟩ := tbq_nat i
  obtain ⟨t, ht, et⟩ := sn_nat i
  refine ⟨qN d t, ⟨qN_pos d t, ?_⟩, asks_nat ed hd.2 et ht⟩
  unfold qN; split <;> omega
theorem fade_0 {h : HSt} (i : Inv h) {k : Nat} (hk : k < 48) : HfadesIn k h = 0 ↔ hR h k = 0 := by
  obtain ⟨q, hq, eq⟩ := asks_n i
  obtain ⟨R, hR60, eR⟩ := i.2.1 k hk
  obtain ⟨f, hf, ef⟩ := i.2.2.1
  unfold HfadesIn
  by_cases c1 : ¬ hL h k ≤ 0
  · rw [if_pos c1]
    by_cases c2 : HasksIn h ≤ hR h k
    · rw [if_pos c2]
      rw [eq, eR] at c2
      have hRq := (nI_leI (by omega) (by omega)).mp c2
      have nR : ¬ hR h k = 0 := by rw [eR]; intro z; have := (nI_eq (by omega) (by decide)).mp (z.trans nz.symm); omega
      by_cases c3 : Htbq h ≤ hfd h
      · rw [if_pos c3]; exact ⟨fun z => absurd z (by decide), fun z => absurd z nR⟩
      · rw [if_neg c3, eq, ef, nI_add]
        exact ⟨fun z => by have := (nI_eq (by omega) (by decide)).mp (z.trans nz.symm); omega, fun z => absurd z nR⟩
    · rw [if_neg c2]
  · rw [if_neg c1]
/-! minutes up to the question -/
theorem passQ_s (h : HSt) (n : Nat) : HpassQ h (n + 1) = if hsn (Htk (HpassN h n)) < Htbq (Htk (HpassN h n)) then HpassQ h n else HpassQ h n + 1 := rfl
theorem hsn_pass {h : HSt} {d t : Nat} (i : Inv h) (ed : Htbq h = nI d) (hd : d ≤ 60) (et : hsn h = nI t) (ht : t ≤ 59) {n : Nat} (hn : n < qN d t) : hsn (HpassN h n) = nI (t + n) := by
  obtain ⟨R, hR60, eR⟩ := i.2.1 0 (by decide)
  obtain ⟨f, hf, ef⟩ := i.2.2.1
  have z := (pass_RT (h := h) (k := 0) (by decide) eR hR60 et ht ed hd ef hf.2 n).2
  rw [z, sq_1 _ _ _ _ _ hn]
theorem tk_lt {h : HSt} {d t : Nat} (i : Inv h) (ed : Htbq h = nI d) (hd : d ≤ 60) (et : hsn h = nI t) (ht : t ≤ 59) {n : Nat} (hn : n < qN d t) : hsn (Htk (HpassN h n)) < Htbq (Htk (HpassN h n)) ↔ t + n + 1 < d := by
  rw [hsn_tk, tbq_tk, (pass_keep h n).2.2.2, hsn_pass i ed hd et ht hn, ed, nI_add]
  have : t + n < 120 := by unfold qN at hn; split at hn <;> omega
  exact nI_ltI (by omega) (by omega)
theorem passQ_0 {h : HSt} {d t : Nat} (i : Inv h) (ed : Htbq h = nI d) (hd : d ≤ 60) (et : hsn h = nI t) (ht : t ≤ 59) : ∀ n, n < qN d t → HpassQ h n = 0 := by
  intro n
  induction n with
  | zero => exact fun _ => rfl
  | succ n ih =>
    intro hn
    rw [passQ_s, if_pos ((tk_lt i ed hd et ht (by omega)).mpr (by unfold qN at hn; split at hn <;> omega))]
    exact ih (by omega)
theorem passQ_1 {h : HSt} {d t : Nat} (i : Inv h) (ed : Htbq h = nI d) (hd : d ≤ 60) (et : hsn h = nI t) (ht : t ≤ 59) : HpassQ h (qN d t) = 1 := by
  have hp := qN_pos d t
  obtain ⟨m, hm⟩ : ∃ m, qN d t = m + 1 := ⟨qN d t - 1, by omega⟩
  rw [hm, passQ_s, if_neg (fun z => by
    have := (tk_lt i ed hd et ht (n := m) (by omega)).mp z
    unfold qN at hm
    split at hm <;> omega), passQ_0 i ed hd et ht m (by omega)]
theorem askN_C3 (h : HSt) (n : Nat) : hC (HaskN h n) 3 = hC h 3 := by
  induction n with
  | zero => rfl
  | succ n ih =>
    have e : HaskN h (n + 1) = if ¬ hL (HaskN h n) n ≤ 0 then Hcall n (HaskN h n) else HaskN h n := rfl
    rw [e]
    by_cases c : ¬ hL (HaskN h n) n ≤ 0
    · rw [if_pos c]
      show upd (hC (HaskN h n)) 5 (hC (HaskN h n) 5 + nI 1) 3 = _
      rw [pk_un (by decide)]; exact ih
    · rw [if_neg c]; exact ih
theorem tk_C3 (h : HSt) : hC (Htk h) 3 = hC h 3 := by
  rw [Htk_eq]
theorem pass_C3 (h : HSt) (n : Nat) : hC (HpassN h n) 3 = hC h 3 + nI (HpassQ h n) := by
  induction n with
  | zero =>
    show hC h 3 = hC h 3 + nI 0
    rw [nz]; exact (Int32.add_zero _).symm
  | succ n ih =>
    rw [passQ_s]
    have e : HpassN h (n + 1) = Hmin (HpassN h n) := rfl
    rw [e]
    unfold Hmin
    by_cases c : hsn (Htk (HpassN h n)) < Htbq (Htk (HpassN h n))
    · rw [if_pos c, if_pos c, tk_C3]; exact ih
    · rw [if_neg c, if_neg c]
      unfold HaskAll
      rw [askN_C3]
      show upd (hC (Htk (HpassN h n))) 3 (hC (Htk (HpassN h n)) 3 + nI 1) 3 = _
      rw [pk_us, tk_C3, ih, Int32.add_assoc, nI_add]
theorem sq_ask {w : Prop} [Decidable w] (f d R t : Nat) : sq w f d R t (qN d t) = (if w then f else R - qN d t, 0) := by
  have hp := qN_pos d t
  obtain ⟨m, hm⟩ : ∃ m, qN d t = m + 1 := ⟨qN d t - 1, by omega⟩
  rw [hm]
  show (stR w f d (sq w f d R t m).1 (sq w f d R t m).2, stT d (sq w f d R t m).2) = _
  rw [sq_1 f d R t m (by omega)]
  have c : ¬ t + m + 1 < d := by unfold qN at hm; split at hm <;> omega
  unfold stR stT
  rw [if_neg c, if_neg c]
  split
  · rfl
  · rw [show R - m - 1 = R - (m + 1) by omega]
/-- the question that isTimed waits for -/
def qH (h : HSt) : Nat := (HasksIn h).toNatClampNeg
theorem timed {h : HSt} (i : Inv h) : HasksIn h = nI (qH h) ∧ (1 ≤ qH h ∧ qH h ≤ 60) ∧ HpassQ h (qH h) = 1 ∧ HpassQ h (qH h - 1) = 0 ∧ hC (HpassN h (qH h)) 3 = hC h 3 + nI 1 ∧ hsn (HpassN h (qH h)) = 0 ∧ hL (HpassN h (qH h)) = hL h ∧ ∀ k, k < 48 → ∃ R : Nat, R ≤ 60 ∧ hR h k = nI R ∧ (¬ hL h k ≤ 0 → ¬ hR (HpassN h (qH h)) k ≤ nI 1) ∧ (hL h k ≤ 0 → hR (HpassN h (qH h)) k = nI (R - qH h)) := by
  obtain ⟨d, hd, ed⟩ := tbq_nat i
  obtain ⟨t, ht, et⟩ := sn_nat i
  obtain ⟨f, hf, ef⟩ := i.2.2.1
  have eq := asks_nat ed hd.2 et ht
  have hp := qN_pos d t
  have hp2 : qN d t ≤ 60 := by unfold qN; split <;> omega
  have e : qH h = qN d t := by unfold qH; rw [eq, nI_clamp (by omega)]
  rw [e]
  have q1 := passQ_1 i ed hd.2 et ht
  refine ⟨eq, ⟨hp, hp2⟩, q1, passQ_0 i ed hd.2 et ht _ (by omega), by rw [pass_C3, q1], ?_, (pass_keep h _).1, fun k hk => ?_⟩
  · obtain ⟨R, hR60, eR⟩ := i.2.1 0 (by decide)
    rw [(pass_RT (h := h) (k := 0) (by decide) eR hR60 et ht ed hd.2 ef hf.2 (qN d t)).2, sq_ask]
    rfl
  · obtain ⟨R, hR60, eR⟩ := i.2.1 k hk
    have z := (pass_RT (h := h) hk eR hR60 et ht ed hd.2 ef hf.2 (qN d t)).1
    rw [sq_ask] at z
    refine ⟨R, hR60, eR, fun w => ?_, fun w => ?_⟩
    · rw [z, if_pos w]
      intro y
      have := (nI_leI (by omega) (by decide)).mp y
      omega
    · rw [z, if_neg (not_not_intro w)]
theorem va_same {hs : Nat → HSt} {j : Nat} {h : HSt} : va_up hs j h j = h := if_pos rfl
theorem va_twice {hs : Nat → HSt} {j : Nat} {h : HSt} : va_up (va_up hs j h) j h = va_up hs j h := funext fun k => by
  unfold va_up
  by_cases c : k = j
  · rw [if_pos c]; rw [if_pos c]
  · rw [if_neg c]
