/-! playing, beside the reference -/
theorem Mp1_7 (t : Nat → Int32) (P Q : Prop) [Decidable P] [Decidable Q] : Mp1 t P Q 7 = t 7 + bI (P ∧ Q) := by
  unfold Mp1
  rw [pk_un (by decide), pk_un (by decide), pk_us]
theorem Mp1_8 (t : Nat → Int32) (P Q : Prop) [Decidable P] [Decidable Q] : Mp1 t P Q 8 = t 8 + bI (P ∧ ¬ Q) := by
  unfold Mp1
  rw [pk_un (by decide), pk_us, pk_un (by decide)]
theorem Mp1_9 (t : Nat → Int32) (P Q : Prop) [Decidable P] [Decidable Q] : Mp1 t P Q 9 = t 9 + bI (¬ P ∧ Q) := by
  unfold Mp1
  rw [pk_us, pk_un (by decide), pk_un (by decide)]
theorem bI_b {P : Prop} [Decidable P] {b : Bool} (h : P ↔ b = true) : bI P = nI (if b = true then 1 else 0) := by
  by_cases c : P
  · rw [bI_t c, if_pos (h.mp c)]
  · rw [bI_f c, if_neg (fun z => c (h.mpr z))]
theorem play_st {h : HSt} {s : Nat → Int32} (r : RelS h s) {c : Nat} (hc : c < 6) : ∀ n, n ≤ 8 → MplayN s c n 7 = s 7 + nI (cnb (fun k => gB h c k && wB h c k) n) ∧ MplayN s c n 8 = s 8 + nI (cnb (fun k => gB h c k && !wB h c k) n) ∧ MplayN s c n 9 = s 9 + nI (cnb (fun k => wB h c k && !gB h c k) n) ∧ MplayQ s c n = nI (cnb (gB h c) n) := by
  intro n
  induction n with
  | zero =>
    intro _
    have z : ∀ x : Int32, x + nI 0 = x := fun x => by rw [nz, Int32.add_zero]
    exact ⟨(z _).symm, (z _).symm, (z _).symm, rfl⟩
  | succ n ih =>
    intro hn
    obtain ⟨i7, i8, i9, iq⟩ := ih (by omega)
    have hP : Mgoes (MplayN s c n) n c ↔ gB h c n = true := by
      rw [← goes_gB r hc hn]
      show (MplayN s c n (13 + n) = nI 1 ∨ ¬ MplayN s c n (69 + (6 * n + c)) ≤ 0) ↔ (s (13 + n) = nI 1 ∨ ¬ s (69 + (6 * n + c)) ≤ 0)
      rw [play_ge s c n _ (by omega), play_ge s c n _ (by omega)]
    have hQ : Mwants (MplayN s c n) n c ↔ wB h c n = true := by
      rw [← wants_wB r hc hn]
      show ¬ MplayN s c n (21 + (6 * n + c)) ≤ 0 ↔ ¬ s (21 + (6 * n + c)) ≤ 0
      rw [play_ge s c n _ (by omega)]
    have e7 : MplayN s c (n + 1) 7 = MplayN s c n 7 + bI (Mgoes (MplayN s c n) n c ∧ Mwants (MplayN s c n) n c) := Mp1_7 _ _ _
    have e8 : MplayN s c (n + 1) 8 = MplayN s c n 8 + bI (Mgoes (MplayN s c n) n c ∧ ¬ Mwants (MplayN s c n) n c) := Mp1_8 _ _ _
    have e9 : MplayN s c (n + 1) 9 = MplayN s c n 9 + bI (¬ Mgoes (MplayN s c n) n c ∧ Mwants (MplayN s c n) n c) := Mp1_9 _ _ _
    have eq : MplayQ s c (n + 1) = MplayQ s c n + bI (Mgoes (MplayN s c n) n c) := rfl
    rw [bI_b (b := gB h c n && wB h c n) (by rw [hP, hQ, Bool.and_eq_true])] at e7
    rw [bI_b (b := gB h c n && !wB h c n) (by rw [hP, hQ]; cases gB h c n <;> cases wB h c n <;> simp)] at e8
    rw [bI_b (b := wB h c n && !gB h c n) (by rw [hP, hQ]; cases gB h c n <;> cases wB h c n <;> simp)] at e9
    rw [bI_b hP] at eq
    refine ⟨?_, ?_, ?_, ?_⟩
    · rw [e7, i7, Int32.add_assoc, nI_add]; rfl
    · rw [e8, i8, Int32.add_assoc, nI_add]; rfl
    · rw [e9, i9, Int32.add_assoc, nI_add]; rfl
    · rw [eq, iq, nI_add]; rfl
theorem play_q {h : HSt} {s : Nat → Int32} (r : RelS h s) (i : Inv h) {c : Nat} (hc : c < 6) : MplayQ s c 8 = bc (Hget h c 8) := by
  rw [(play_st r hc 8 (Nat.le_refl 8)).2.2.2, get_orb i, bc_orb]
theorem rel_play {h : HSt} {s : Nat → Int32} (r : RelS h s) (i : Inv h) {c : Nat} (hc : c < 6) : RelS (Hperf c h) (MplayN s c 8) := by
  obtain ⟨p7, p8, p9, -⟩ := play_st r hc 8 (Nat.le_refl 8)
  have ge := play_ge s c 8
  have lt := play_lt s c 8
  generalize MplayN s c 8 = t at p7 p8 p9 ge lt ⊢
  obtain ⟨r1, r2, r3, r4, r5, r6, r7, r8, r9, r10, r11⟩ := r
  refine ⟨fun k hk => ?_, fun k hk => ?_, fun k hk => ?_, ?_, ?_, ?_, ?_, ?_, ?_, ?_, fun j hj => ?_⟩
  · rw [ge _ (by omega)]; exact r1 k hk
  · rw [ge _ (by omega)]; exact r2 k hk
  · show t (7 + k) = HperfC (hC h) (Hget h c 8) (Hwant h c 8) k
    unfold HperfC
    have e0 := r3 0 (by decide)
    have e1 := r3 1 (by decide)
    have e2 := r3 2 (by decide)
    rcases (by omega : k = 0 ∨ k = 1 ∨ k = 2 ∨ 3 ≤ k) with rfl | rfl | rfl | h3
    · rw [pk_un (by decide), pk_un (by decide), pk_us, ← e0, get_orb i, want_orb, orb_and _ _ 8 (Nat.le_refl 8), bc_orb]; exact p7
    · rw [pk_un (by decide), pk_us, pk_un (by decide), ← e1, get_orb i, want_orb, orb_not _ _ 8 (Nat.le_refl 8), bc_orb]; exact p8
    · rw [pk_us, pk_un (by decide), pk_un (by decide), ← e2, get_orb i, want_orb, orb_not _ _ 8 (Nat.le_refl 8), bc_orb]; exact p9
    · rw [pk_un (by omega), pk_un (by omega), pk_un (by omega), ge _ (by omega)]; exact r3 k hk
  · rw [lt _ (by decide)]; exact r4
  · rw [lt _ (by decide)]; exact r5
  · rw [lt _ (by decide)]; exact r6
  · rw [lt _ (by decide)]; exact r7
  · rw [lt _ (by decide)]; exact r8
  · rw [lt _ (by decide)]; exact r9
  · rw [lt _ (by decide)]; exact r10
  · rw [ge _ (by omega)]; exact r11 j hj
theorem inv_play {h : HSt} (i : Inv h) (c : Nat) : Inv (Hperf c h) := i
/-! rests as minutes go by -/
theorem fadeN_at (R : Nat → Int32) (k : Nat) : ∀ n, HfadeN R n k = if k < n then (if R k ≤ 0 then R k else R k - nI 1) else R k := by
  intro n
  induction n with
  | zero => rw [if_neg (Nat.not_lt_zero k)]; rfl
  | succ n ih =>
    show (if HfadeN R n n ≤ 0 then HfadeN R n else upd (HfadeN R n) n (HfadeN R n n - nI 1)) k = _
    by_cases e : k = n
    · subst e
      rw [if_neg (Nat.lt_irrefl k)] at ih
      rw [if_pos (Nat.lt_succ_self k)]
      by_cases c : R k ≤ 0
      · rw [if_pos (by rw [ih]; exact c), if_pos c, ih]
      · rw [if_neg (by rw [ih]; exact c), if_neg c, pk_us, ih]
    · have e2 : (if HfadeN R n n ≤ 0 then HfadeN R n else upd (HfadeN R n) n (HfadeN R n n - nI 1)) k = HfadeN R n k := by
        by_cases c : HfadeN R n n ≤ 0
        · rw [if_pos c]
        · rw [if_neg c, pk_un e]
      rw [e2, ih]
      by_cases c : k < n
      · rw [if_pos c, if_pos (show k < n + 1 by omega)]
      · rw [if_neg c, if_neg (show ¬ k < n + 1 by omega)]
theorem askN_L (h : HSt) (n : Nat) : hL (HaskN h n) = hL h ∧ hfd (HaskN h n) = hfd h ∧ hop (HaskN h n) = hop h ∧ hsn (HaskN h n) = hsn h ∧ Htbq (HaskN h n) = Htbq h := by
  induction n with
  | zero => exact ⟨rfl, rfl, rfl, rfl, rfl⟩
  | succ n ih =>
    have e : HaskN h (n + 1) = if ¬ hL (HaskN h n) n ≤ 0 then Hcall n (HaskN h n) else HaskN h n := rfl
    rw [e]
    by_cases c : ¬ hL (HaskN h n) n ≤ 0
    · rw [if_pos c]; exact ih
    · rw [if_neg c]; exact ih
theorem askN_R (h : HSt) (k : Nat) : ∀ n, hR (HaskN h n) k = if k < n ∧ ¬ hL h k ≤ 0 then hfd h else hR h k := by
  intro n
  induction n with
  | zero => rw [if_neg (fun z => absurd z.1 (Nat.not_lt_zero k))]; rfl
  | succ n ih =>
    have e : HaskN h (n + 1) = if ¬ hL (HaskN h n) n ≤ 0 then Hcall n (HaskN h n) else HaskN h n := rfl
    obtain ⟨eL, ef, -⟩ := askN_L h n
    rw [e, eL]
    by_cases c : ¬ hL h n ≤ 0
    · rw [if_pos c]
      show upd (hR (HaskN h n)) n (hfd (HaskN h n)) k = _
      rw [ef]
      by_cases d : k = n
      · subst d; rw [pk_us, if_pos ⟨Nat.lt_succ_self k, c⟩]
      · rw [pk_un d, ih]
        by_cases g : k < n ∧ ¬ hL h k ≤ 0
        · rw [if_pos g, if_pos ⟨by omega, g.2⟩]
        · rw [if_neg g, if_neg (fun z => g ⟨by omega, z.2⟩)]
    · rw [if_neg c, ih]
      by_cases g : k < n ∧ ¬ hL h k ≤ 0
      · rw [if_pos g, if_pos ⟨by omega, g.2⟩]
      · rw [if_neg g, if_neg (fun z => by
          by_cases d : k = n
          · subst d; exact c z.2
          · exact g ⟨by omega, z.2⟩)]
/-- a rest, and the time since the question, after a minute -/
def stR (w : Prop) [Decidable w] (f d R t : Nat) : Nat := if t + 1 < d then R - 1 else if w then f else R - 1
def stT (d t : Nat) : Nat := if t + 1 < d then t + 1 else 0
theorem fade1 {R : Nat} (hR : R ≤ 60) : (if nI R ≤ 0 then nI R else nI R - nI 1) = nI (R - 1) := by
  by_cases c : R = 0
  · subst c; rw [if_pos ((le0 (by decide)).mpr rfl)]
  · rw [if_neg (fun z => c ((le0 (by omega)).mp z)), pk_sub (by omega)]
theorem min_keep (h : HSt) : hL (Hmin h) = hL h ∧ hfd (Hmin h) = hfd h ∧ hop (Hmin h) = hop h ∧ Htbq (Hmin h) = Htbq h := by
  unfold Hmin
  by_cases c : hsn (Htk h) < Htbq (Htk h)
  · rw [if_pos c, Htk_eq]
    generalize HfadeN (hR h) 48 = F
    exact ⟨rfl, rfl, rfl, rfl⟩
  · rw [if_neg c]
    unfold HaskAll
    obtain ⟨e1, e2, e3, -, e5⟩ := askN_L (Hcnt 3 (sHsn (Htk h) (nI 0))) 48
    rw [e1, e2, e3, e5, Htk_eq]
    generalize HfadeN (hR h) 48 = F
    exact ⟨rfl, rfl, rfl, rfl⟩
theorem min_RT {h : HSt} {k R t d f : Nat} (hk : k < 48) (eR : hR h k = nI R) (hR60 : R ≤ 60) (et : hsn h = nI t) (ht : t ≤ 59) (ed : Htbq h = nI d) (hd : d ≤ 60) (ef : hfd h = nI f) : hR (Hmin h) k = nI (stR (¬ hL h k ≤ 0) f d R t) ∧ hsn (Hmin h) = nI (stT d t) := by
  have e1 : hsn (Htk h) = nI (t + 1) := by rw [hsn_tk, et, nI_add]
  have eF : hR (Htk h) k = nI (R - 1) := by
    have g := fadeN_at (hR h) k 48
    rw [if_pos hk, eR, fade1 hR60] at g
    rw [Htk_eq]
    generalize HfadeN (hR h) 48 = F at g ⊢
    exact g
  unfold Hmin stR stT
  rw [e1, tbq_tk, ed]
  by_cases c : t + 1 < d
  · rw [if_pos ((nI_ltI (by omega) (by omega)).mpr c), if_pos c, if_pos c]
    exact ⟨eF, e1⟩
  · rw [if_neg (fun z => c ((nI_ltI (by omega) (by omega)).mp z)), if_neg c, if_neg c]
    unfold HaskAll
    refine ⟨?_, ?_⟩
    · have eL : hL (Hcnt 3 (sHsn (Htk h) (nI 0))) = hL h := by
        rw [Htk_eq]
      have ef2 : hfd (Hcnt 3 (sHsn (Htk h) (nI 0))) = nI f := by
        rw [Htk_eq]
        generalize HfadeN (hR h) 48 = F
        exact ef
      have eR2 : hR (Hcnt 3 (sHsn (Htk h) (nI 0))) k = nI (R - 1) := by
        rw [Htk_eq] at eF ⊢
        generalize HfadeN (hR h) 48 = F at eF ⊢
        exact eF
      rw [askN_R, eL, ef2, eR2]
      by_cases w : ¬ hL h k ≤ 0
      · rw [if_pos ⟨hk, w⟩, if_pos w]
      · rw [if_neg (fun z => w z.2), if_neg w]
    · rw [(askN_L (Hcnt 3 (sHsn (Htk h) (nI 0))) 48).2.2.2.1]
/-- rest and time after n minutes -/
def sq (w : Prop) [Decidable w] (f d R t : Nat) : Nat → Nat × Nat
  | 0 => (R, t)
  | n + 1 => (stR w f d (sq w f d R t n).1 (sq w f d R t n).2, stT d (sq w f d R t n).2)
theorem pass_keep (h : HSt) (n : Nat) : hL (HpassN h n) = hL h ∧ hfd (HpassN h n) = hfd h ∧ hop (HpassN h n) = hop h ∧ Htbq (HpassN h n) = Htbq h := by
  induction n with
  | zero => exact ⟨rfl, rfl, rfl, rfl⟩
  | succ n ih =>
    have e : HpassN h (n + 1) = Hmin (HpassN h n) := rfl
    obtain ⟨a, b, c, d⟩ := min_keep (HpassN h n)
    rw [e, a, b, c, d]
    exact ih
theorem sq_le {w : Prop} [Decidable w] {f d R t : Nat} (hf : f ≤ 60) (hd : d ≤ 60) (hR : R ≤ 60) (ht : t ≤ 59) (n : Nat) : (sq w f d R t n).1 ≤ 60 ∧ (sq w f d R t n).2 ≤ 59 := by
  induction n with
  | zero => exact ⟨hR, ht⟩
  | succ n ih =>
    show stR w f d (sq w f d R t n).1 (sq w f d R t n).2 ≤ 60 ∧ stT d (sq w f d R t n).2 ≤ 59
    unfold stR stT
    obtain ⟨a, b⟩ := ih
    refine ⟨?_, ?_⟩
    · (repeat' split) <;> omega
    · split <;> omega
theorem pass_RT {h : HSt} {k R t d f : Nat} (hk : k < 48) (eR : hR h k = nI R) (hR60 : R ≤ 60) (et : hsn h = nI t) (ht : t ≤ 59) (ed : Htbq h = nI d) (hd : d ≤ 60) (ef : hfd h = nI f) (hf : f ≤ 60) (n : Nat) : hR (HpassN h n) k = nI (sq (¬ hL h k ≤ 0) f d R t n).1 ∧ hsn (HpassN h n) = nI (sq (¬ hL h k ≤ 0) f d R t n).2 := by
  induction n with
  | zero => exact ⟨eR, et⟩
  | succ n ih =>
    obtain ⟨kL, kf, -, kd⟩ := pass_keep h n
    obtain ⟨b1, b2⟩ := sq_le (w := ¬ hL h k ≤ 0) hf hd hR60 ht n
    have z := min_RT (h := HpassN h n) hk ih.1 b1 ih.2 b2 (kd.trans ed) hd (kf.trans ef)
    have e : HpassN h (n + 1) = Hmin (HpassN h n) := rfl
    rw [e, z.1, z.2, kL]
    exact ⟨rfl, rfl⟩
theorem sq_f {w : Prop} [Decidable w] (hw : ¬ w) (f d R t n : Nat) : (sq w f d R t n).1 = R - n := by
  induction n with
  | zero => rfl
  | succ n ih =>
    show stR w f d (sq w f d R t n).1 (sq w f d R t n).2 = _
    unfold stR
    rw [if_neg hw, ite_self, ih]
    omega
/-- the minutes until the next question -/
def qN (d t : Nat) : Nat := if t < d then d - t else 1
theorem qN_pos (d t : Nat) : 1 ≤ qN d t := by unfold qN; split <;> omega
theorem sq_1 {w : Prop} [Decidable w] (f d R t n : Nat) (hn : n < qN d t) : sq w f d R t n = (R - n, t + n) := by
  induction n with
  | zero => rfl
  | succ n ih =>
    have h2 : t + n + 1 < d := by unfold qN at hn; split at hn <;> omega
    show (stR w f d (sq w f d R t n).1 (sq w f d R t n).2, stT d (sq w f d R t n).2) = _
    rw [ih (by omega)]
    unfold stR stT
    show ((if t + n + 1 < d then R - n - 1 else if w then f else R - n - 1), (if t + n + 1 < d then t + n + 1 else 0)) = _
    rw [if_pos h2, if_pos h2]
    rfl
theorem sq_q {w : Prop} [Decidable w] (hw : w) (f d R t : Nat) : sq w f d R t (qN d t) = (f, 0) := by
  have h1 := qN_pos d t
  obtain ⟨q, hq⟩ : ∃ q, qN d t = q + 1 := ⟨qN d t - 1, by omega⟩
  have h2 : ¬ t + q + 1 < d := by unfold qN at hq; split at hq <;> omega
  rw [hq]
  show (stR w f d (sq w f d R t q).1 (sq w f d R t q).2, stT d (sq w f d R t q).2) = _
  rw [sq_1 f d R t q (by omega)]
  unfold stR stT
  show ((if t + q + 1 < d then R - q - 1 else if w then f else R - q - 1), (if t + q + 1 < d then t + q + 1 else 0)) = _
  rw [if_neg h2, if_neg h2, if_pos hw]
theorem sq_add {w : Prop} [Decidable w] (f d R t a n : Nat) : sq w f d R t (a + n) = sq w f d (sq w f d R t a).1 (sq w f d R t a).2 n := by
  induction n with
  | zero => rfl
  | succ n ih =>
    show (stR w f d (sq w f d R t (a + n)).1 (sq w f d R t (a + n)).2, stT d (sq w f d R t (a + n)).2) = _
    rw [ih]
    rfl
/-- with a listener: gone in the cycle behind the question, or never -/
theorem sq_2 {w : Prop} [Decidable w] (hw : w) (f d R t n : Nat) (hn : n < d) : sq w f d R t (qN d t + n) = (f - n, n) := by
  rw [sq_add, sq_q hw]
  have h := sq_1 (w := w) f d f 0 n (by unfold qN; rw [if_pos (by omega)]; exact hn)
  rw [h, Nat.zero_add]
theorem sq_ever {w : Prop} [Decidable w] (hw : w) (f d R t n : Nat) (hd : 1 ≤ d) (hf : d ≤ f) : ∃ j, j < d ∧ sq w f d R t (qN d t + n) = (f - j, j) := by
  induction n with
  | zero => exact ⟨0, hd, by rw [Nat.add_zero, sq_q hw]; rfl⟩
  | succ n ih =>
    obtain ⟨j, hj, e⟩ := ih
    have e2 : sq w f d R t (qN d t + (n + 1)) = (stR w f d (sq w f d R t (qN d t + n)).1 (sq w f d R t (qN d t + n)).2, stT d (sq w f d R t (qN d t + n)).2) := rfl
    rw [e2, e]
    unfold stR stT
    by_cases c : j + 1 < d
    · refine ⟨j + 1, c, ?_⟩
      show ((if j + 1 < d then f - j - 1 else if w then f else f - j - 1), (if j + 1 < d then j + 1 else 0)) = _
      rw [if_pos c, if_pos c]; rfl
    · refine ⟨0, hd, ?_⟩
      show ((if j + 1 < d then f - j - 1 else if w then f else f - j - 1), (if j + 1 < d then j + 1 else 0)) = _
      rw [if_neg c, if_neg c, if_pos hw]; rfl
/-! fading -/
theorem Mst_hit {s : Nat → Int32} {k e : Nat} (he : MgoN s e (69 + k) ≤ 0) : ∀ m i, i ≤ e → e ≤ i + m → (∀ j, i ≤ j → j < e → ¬ MgoN s j (69 + k) ≤ 0) → Mst s k i m = e := by
  intro m
  induction m with
  | zero => exact fun i h1 h2 _ => by show i = e; omega
  | succ m ih =>
    intro i h1 h2 h3
    show (if MgoN s i (69 + k) ≤ 0 then i else Mst s k (i + 1) m) = e
    by_cases c : i = e
    · subst c; rw [if_pos he]
    · rw [if_neg (h3 i (Nat.le_refl i) (by omega))]
      exact ih (i + 1) (by omega) (by omega) (fun j hj => h3 j (by omega))
theorem Mst_miss {s : Nat → Int32} {k : Nat} : ∀ m i, (∀ j, i ≤ j → j < i + m → ¬ MgoN s j (69 + k) ≤ 0) → Mst s k i m = i + m := by
  intro m
  induction m with
  | zero => exact fun i _ => rfl
  | succ m ih =>
    intro i h
    show (if MgoN s i (69 + k) ≤ 0 then i else Mst s k (i + 1) m) = i + (m + 1)
    rw [if_neg (h i (Nat.le_refl i) (by omega)), ih (i + 1) (fun j h1 h2 => h j (by omega) (by omega))]
    omega
theorem asks_nat {h : HSt} {d t : Nat} (ed : Htbq h = nI d) (hd : d ≤ 60) (et : hsn h = nI t) (ht : t ≤ 59) : HasksIn h = nI (qN d t) := by
  unfold HasksIn qN
  rw [ed, et]
  by_cases c : t < d
  · rw [if_pos c, pk_sub (by omega)]
    by_cases c2 : 1 < d - t
    · rw [if_pos ((nI_ltI (by decide) (by omega)).mpr c2)]
    · rw [if_neg (fun z => c2 ((nI_ltI (by decide) (by omega)).mp z)), show d - t = 1 by omega]
  · have hsmall : ∀ d, d < 61 → ∀ t, t < 60 → d ≤ t → ¬ nI 1 < nI d - nI t := by decide +kernel
    rw [if_neg c, if_neg (hsmall d (by omega) t (by omega) (by omega))]
theorem fades_eq {h : HSt} {s : Nat → Int32} (r : RelS h s) (i : Inv h) {k : Nat} (hk : k < 48) : Mfd s k = HfadesIn k h := by
  obtain ⟨R, hR60, eR⟩ := i.2.1 k hk
  obtain ⟨f, hf, ef⟩ := i.2.2.1
  obtain ⟨t, ht, et⟩ := i.2.2.2.2.2.1
  obtain ⟨d, hd, ed⟩ := tbq_nat i
  have hq := asks_nat ed hd.2 et ht
  have qle : qN d t ≤ 60 := by unfold qN; split <;> omega
  have q1 := qN_pos d t
  have hv : ∀ j, MgoN s j (69 + k) = nI (sq (¬ hL h k ≤ 0) f d R t j).1 := fun j => by
    have e : MgoN s j (69 + k) = hR (HpassN h j) k := (rel_pass r j).2.1 k hk
    rw [e]
    exact (pass_RT hk eR hR60 et ht ed hd.2 ef hf.2 j).1
  have hb : ∀ j, (sq (¬ hL h k ≤ 0) f d R t j).1 ≤ 60 := fun j => (sq_le hf.2 hd.2 hR60 ht j).1
  have z0 : ∀ j, MgoN s j (69 + k) ≤ 0 ↔ (sq (¬ hL h k ≤ 0) f d R t j).1 = 0 := fun j => by
    rw [hv j]; exact le0 (by have := hb j; omega)
  have hit : ∀ e, e ≤ 150 → (sq (¬ hL h k ≤ 0) f d R t e).1 = 0 → (∀ j, j < e → (sq (¬ hL h k ≤ 0) f d R t j).1 ≠ 0) → Mfd s k = nI e := by
    intro e h1 h2 h3
    have h4 := Mst_hit (s := s) (k := k) ((z0 e).mpr h2) 150 0 (Nat.zero_le e) (by omega) (fun j _ hj z => h3 j hj ((z0 j).mp z))
    unfold Mfd
    rw [h4, if_pos ((z0 e).mpr h2)]
  unfold HfadesIn
  rw [eR, hq, ed, ef]
  by_cases w : ¬ hL h k ≤ 0
  · rw [if_pos w]
    by_cases c : qN d t ≤ R
    · rw [if_pos ((nI_leI (by omega) (by omega)).mpr c)]
      by_cases c2 : d ≤ f
      · rw [if_pos ((nI_leI (by omega) (by omega)).mpr c2)]
        have never : ∀ j, (sq (¬ hL h k ≤ 0) f d R t j).1 ≠ 0 := by
          intro j
          by_cases c3 : j < qN d t
          · rw [sq_1 f d R t j c3]; show R - j ≠ 0; omega
          · obtain ⟨x, hx, e⟩ := sq_ever w f d R t (j - qN d t) hd.1 c2
            rw [show qN d t + (j - qN d t) = j by omega] at e
            rw [e]; show f - x ≠ 0; omega
        have h4 := Mst_miss (s := s) (k := k) 150 0 (fun j _ _ z => never j ((z0 j).mp z))
        unfold Mfd
        rw [h4, if_neg (fun z => never _ ((z0 _).mp z))]
      · rw [if_neg (fun z => c2 ((nI_leI (by omega) (by omega)).mp z)), nI_add]
        refine hit (qN d t + f) (by omega) ?_ (fun j hj => ?_)
        · rw [sq_2 w f d R t f (by omega)]; show f - f = 0; omega
        · by_cases c3 : j < qN d t
          · rw [sq_1 f d R t j c3]; show R - j ≠ 0; omega
          · have e := sq_2 w f d R t (j - qN d t) (by omega)
            rw [show qN d t + (j - qN d t) = j by omega] at e
            rw [e]; show f - (j - qN d t) ≠ 0; omega
    · rw [if_neg (fun z => c ((nI_leI (by omega) (by omega)).mp z))]
      refine hit R (by omega) ?_ (fun j hj => ?_)
      · rw [sq_1 f d R t R (by omega)]; show R - R = 0; omega
      · rw [sq_1 f d R t j (by omega)]; show R - j ≠ 0; omega
  · rw [if_neg w]
    refine hit R (by omega) ?_ (fun j hj => ?_)
    · rw [sq_f w]; omega
    · rw [sq_f w]; omega
/-! disturbed -/
theorem dist_eq {h : HSt} {s : Nat → Int32} (r : RelS h s) (i : Inv h) {c x : Nat} (hc : c < 6) (hx : x ≤ 60) : ∀ n, n ≤ 8 → Mdist (MgoN s x) c n = nI (Hdist h c x n) := by
  obtain ⟨f, hf, ef⟩ := i.2.2.1
  obtain ⟨t, ht, et⟩ := i.2.2.2.2.2.1
  obtain ⟨d, hd, ed⟩ := tbq_nat i
  have rp := rel_pass r x
  obtain ⟨kL, -, ko, -⟩ := pass_keep h x
  intro n
  induction n with
  | zero => exact fun _ => rfl
  | succ n ih =>
    intro hn
    have ih := ih (by omega)
    have hk : n * 6 + c < 48 := by omega
    obtain ⟨R, hR60, eR⟩ := i.2.1 (n * 6 + c) hk
    have hP := goes_gB rp hc (n := n) hn
    have hQ := wants_wB rp hc (n := n) hn
    have e1 : Mdist (MgoN s x) c (n + 1) = Mdist (MgoN s x) c n + bI (Mgoes (MgoN s x) n c ∧ ¬ Mwants (MgoN s x) n c) := rfl
    have e2 : Hdist h c x (n + 1) = if ¬ hL h (n * 6 + c) ≤ 0 then Hdist h c x n else if Hopen h n then Hdist h c x n + 1 else if hR h (n * 6 + c) ≤ nI x then Hdist h c x n else Hdist h c x n + 1 := rfl
    rw [e1, e2, ih]
    have wE : wB (HpassN h x) c n = decide (¬ hL h (n * 6 + c) ≤ 0) := by unfold wB; rw [kL]
    have rE : hR (HpassN h x) (n * 6 + c) = nI (sq (¬ hL h (n * 6 + c) ≤ 0) f d R t x).1 := (pass_RT hk eR hR60 et ht ed hd.2 ef hf.2 x).1
    by_cases w : ¬ hL h (n * 6 + c) ≤ 0
    · rw [if_pos w, bI_f (fun z => z.2 (by rw [hQ, wE]; exact decide_eq_true w)), nI_add, Nat.add_zero]
    · rw [if_neg w]
      have nw : ¬ Mwants (MgoN s x) n c := by rw [hQ, wE]; intro z; exact w (of_decide_eq_true z)
      rw [sq_f w] at rE
      have gE : gB (HpassN h x) c n = true ↔ (Hopen h n ∨ ¬ R ≤ x) := by
        unfold gB opb
        rw [Bool.or_eq_true, decide_eq_true_iff, decide_eq_true_iff, ko, rE, le0 (by omega)]
        have e : R - x = 0 ↔ R ≤ x := by omega
        rw [e]
      by_cases o : Hopen h n
      · rw [if_pos o, bI_t ⟨hP.mpr (gE.mpr (Or.inl o)), nw⟩, nI_add]
      · rw [if_neg o, eR]
        by_cases c2 : R ≤ x
        · rw [if_pos ((nI_leI (by omega) (by omega)).mpr c2), bI_f (fun z => (gE.mp (hP.mp z.1)).elim o (fun y => y c2)), nI_add, Nat.add_zero]
        · rw [if_neg (fun z => c2 ((nI_leI (by omega) (by omega)).mp z)), bI_t ⟨hP.mpr (gE.mpr (Or.inr c2)), nw⟩, nI_add]
/-! the digest -/
theorem dgC_eq {f g : Nat → Int32} (x : Int64) : ∀ n, (∀ j, j < n → f (7 + j) = g j) → MdgC f x n = DgC g x n := by
  intro n
  induction n with
  | zero => exact fun _ => rfl
  | succ n ih =>
    intro h
    show mixI (MdgC f x n) (f (7 + n)) = mixI (DgC g x n) (g n)
    rw [ih (fun j hj => h j (by omega)), h n (by omega)]
theorem dgM_eq {h : HSt} {s : Nat → Int32} (r : RelS h s) (i : Inv h) (x : Int64) : ∀ n, n ≤ 6 → MdgM s x n = DgM h x n := by
  intro n
  induction n with
  | zero => exact fun _ => rfl
  | succ n ih =>
    intro hn
    show mixI (mixI (MdgM s x n) (Mrow s n 8)) (Mwan s n 8) = mixI (mixI (DgM h x n) (Hget h n 8)) (Hwant h n 8)
    rw [ih (by omega), row_eq r i hn, wan_eq r hn 8 (Nat.le_refl 8)]
theorem dgK_in {h : HSt} {s : Nat → Int32} (r : RelS h s) (i : Inv h) (x : Int64) {q : Nat} (hq : q < 8) : ∀ j, j < 6 → MdgK s x (6 * q + (j + 1)) = DgK h q (mixI (MdgK s x (6 * q)) (bI (Hopen h q))) (j + 1) := by
  have step : ∀ n y, n < 48 → mixI (mixI (mixI y (s (21 + n))) (s (69 + n))) (Mfd s n) = mixI (mixI (mixI y (hL h n)) (hR h n)) (HfadesIn n h) := fun n y hn => by
    rw [fades_eq r i hn, r.1 n hn, r.2.1 n hn]
  intro j
  induction j with
  | zero =>
    intro _
    show mixI (mixI (mixI (MdgK1 s (MdgK s x (6 * q)) (6 * q)) (s (21 + 6 * q))) (s (69 + 6 * q))) (Mfd s (6 * q)) = mixI (mixI (mixI (mixI (MdgK s x (6 * q)) (bI (Hopen h q))) (hL h (q * 6 + 0))) (hR h (q * 6 + 0))) (HfadesIn (q * 6 + 0) h)
    rw [step (6 * q) _ (by omega), show q * 6 + 0 = 6 * q by omega]
    have e : MdgK1 s (MdgK s x (6 * q)) (6 * q) = mixI (MdgK s x (6 * q)) (bI (Hopen h q)) := by
      unfold MdgK1
      rw [if_pos (by omega), show 6 * q / 6 = q by omega, r.2.2.2.2.2.2.2.2.2.2 q hq]
    rw [e]
  | succ j ih =>
    intro hj
    have ih := ih (by omega)
    show mixI (mixI (mixI (MdgK1 s (MdgK s x (6 * q + (j + 1))) (6 * q + (j + 1))) (s (21 + (6 * q + (j + 1))))) (s (69 + (6 * q + (j + 1))))) (Mfd s (6 * q + (j + 1))) = mixI (mixI (mixI (DgK h q (mixI (MdgK s x (6 * q)) (bI (Hopen h q))) (j + 1)) (hL h (q * 6 + (j + 1)))) (hR h (q * 6 + (j + 1)))) (HfadesIn (q * 6 + (j + 1)) h)
    rw [step (6 * q + (j + 1)) _ (by omega), ← ih, show q * 6 + (j + 1) = 6 * q + (j + 1) by omega]
    have e : MdgK1 s (MdgK s x (6 * q + (j + 1))) (6 * q + (j + 1)) = MdgK s x (6 * q + (j + 1)) := by
      unfold MdgK1
      rw [if_neg (by omega)]
    rw [e]
theorem dgR_eq {h : HSt} {s : Nat → Int32} (r : RelS h s) (i : Inv h) (x : Int64) : ∀ q, q ≤ 8 → MdgK s x (6 * q) = DgR h x q := by
  intro q
  induction q with
  | zero => exact fun _ => rfl
  | succ q ih =>
    intro hq
    have e := dgK_in r i x (q := q) hq 5 (by decide)
    rw [show 6 * (q + 1) = 6 * q + (5 + 1) by omega, e, ih (by omega)]
    rfl
theorem dig_eq {h : HSt} {s : Nat → Int32} (r : RelS h s) (i : Inv h) : Mdig s = Udig h := by
  unfold Mdig Udig
  have e := dgR_eq r i (MdgM s (MdgC s (mixI (mixI (mixI (mixI (mixI 4701 (s 5)) (s 6)) (Mchief s)) (Ment s 48)) (MasksIn s)) 6) 6) 8 (Nat.le_refl 8)
  rw [show 6 * 8 = 48 from rfl] at e
  rw [e, dgM_eq r i _ 6 (Nat.le_refl 6), dgC_eq (g := hC h) _ 6 r.2.2.1, chief_eq r, ent_eq r 48 (Nat.le_refl 48), asks_eq r i, r.2.2.2.2.2.2.2.2.1, r.2.2.2.2.2.2.2.2.2.1]
