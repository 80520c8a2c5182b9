/-! the usher beside the reference -/
abbrev CSt : Type := HSt × Nat × Nat × (Nat → HSt) × (Nat → Int32) × Nat
abbrev ch (c : CSt) : HSt := c.1
abbrev cod (c : CSt) : Nat := c.2.1
abbrev csz (c : CSt) : Nat := c.2.2.1
abbrev chs (c : CSt) : Nat → HSt := c.2.2.2.1
abbrev csg (c : CSt) : Nat → Int32 := c.2.2.2.2.1
abbrev cn (c : CSt) : Nat := c.2.2.2.2.2
abbrev kpC (c : CSt) (h2 : HSt) : CSt := (h2, kOd (cod c) (csz c), kSz (csz c), va_up (chs c) (kJ (cod c) (csz c)) (ch c), csg c, cn c)
def Sim (c : CSt) (m : MSt) : Prop :=
  RelS (ch c) (ms m) ∧ Inv (ch c) ∧ Hbo (ch c) ∧ cod c < 6 ∧ csz c ≤ 6 ∧ msm m = nI (csz c) ∧ (∀ j, Hbo (chs c j)) ∧ (∀ i, i < csz c → RelS (chs c ((cod c + i) % 6)) (fun x => msv m (120 * i + x)) ∧ Inv (chs c ((cod c + i) % 6))) ∧ cn c ≤ 60 ∧ mln m = nI (cn c) ∧ Tok (csg c) (cn c) ∧ (∀ k, k < cn c → csg c k = mbf m k)
theorem rel_congr {h : HSt} {s s2 : Nat → Int32} (r : RelS h s) (e : ∀ x, x < 120 → s2 x = s x) : RelS h s2 := by
  obtain ⟨r1, r2, r3, r4, r5, r6, r7, r8, r9, r10, r11⟩ := r
  refine ⟨fun j hj => ?_, fun j hj => ?_, fun j hj => ?_, ?_, ?_, ?_, ?_, ?_, ?_, ?_, fun j hj => ?_⟩
  · rw [e _ (by omega)]; exact r1 j hj
  · rw [e _ (by omega)]; exact r2 j hj
  · rw [e _ (by omega)]; exact r3 j hj
  · rw [e _ (by omega)]; exact r4
  · rw [e _ (by omega)]; exact r5
  · rw [e _ (by omega)]; exact r6
  · rw [e _ (by omega)]; exact r7
  · rw [e _ (by omega)]; exact r8
  · rw [e _ (by omega)]; exact r9
  · rw [e _ (by omega)]; exact r10
  · rw [e _ (by omega)]; exact r11 j hj
theorem cpB_at (s v : Nat → Int32) (j k : Nat) : ∀ n, cpB s v j n k = if 120 * j ≤ k ∧ k < 120 * j + n then s (k - 120 * j) else v k := by
  intro n
  induction n with
  | zero => rw [if_neg (by omega)]; rfl
  | succ n ih =>
    show upd (cpB s v j n) (120 * j + n) (s n) k = _
    by_cases c : k = 120 * j + n
    · subst c
      rw [pk_us, if_pos (by omega), Nat.add_sub_cancel_left]
    · rw [pk_un c, ih]
      by_cases d : 120 * j ≤ k ∧ k < 120 * j + n
      · rw [if_pos d, if_pos (by omega)]
      · rw [if_neg d, if_neg (by omega)]
theorem shN_at (v : Nat → Int32) : ∀ n k, shN v n k = if k < n then v (k + 120) else v k := by
  intro n
  induction n with
  | zero => intro k; rw [if_neg (Nat.not_lt_zero k)]; rfl
  | succ n ih =>
    intro k
    show upd (shN v n) n ((shN v n) (n + 120)) k = _
    by_cases c : k = n
    · subst c
      rw [pk_us, ih, if_neg (by omega), if_pos (by omega)]
    · rw [pk_un c, ih]
      by_cases d : k < n
      · rw [if_pos d, if_pos (by omega)]
      · rw [if_neg d, if_neg (by omega)]
theorem sav_at {c : CSt} {m : MSt} (S : Sim c m) : ∀ i, i < kSz (csz c) → RelS (va_up (chs c) (kJ (cod c) (csz c)) (ch c) ((kOd (cod c) (csz c) + i) % 6)) (fun x => Msv (ms m) (msv m) (csz c) (120 * i + x)) ∧ Inv (va_up (chs c) (kJ (cod c) (csz c)) (ch c) ((kOd (cod c) (csz c) + i) % 6)) := by
  obtain ⟨s1, s2, -, s4, s5, -, -, s8, -⟩ := S
  generalize cod c = od at s4 s8 ⊢
  generalize csz c = sz at s5 s8 ⊢
  intro i hi
  unfold kSz at hi
  unfold kOd kJ Msv va_up
  by_cases c6 : sz = 6
  · rw [if_neg (not_not_intro c6)] at hi
    rw [if_neg (not_not_intro c6), if_neg (not_not_intro c6), if_neg (not_not_intro c6)]
    by_cases c5 : i = 5
    · rw [if_pos (by omega)]
      refine ⟨rel_congr s1 (fun x hx => ?_), s2⟩
      show cpB (ms m) (shN (msv m) 600) 5 120 (120 * i + x) = _
      rw [cpB_at, if_pos (by omega)]
      exact congrArg (ms m) (by omega)
    · rw [if_neg (by omega), show ((od + 1) % 6 + i) % 6 = (od + (i + 1)) % 6 by omega]
      obtain ⟨g1, g2⟩ := s8 (i + 1) (by omega)
      refine ⟨rel_congr g1 (fun x hx => ?_), g2⟩
      show cpB (ms m) (shN (msv m) 600) 5 120 (120 * i + x) = msv m (120 * (i + 1) + x)
      rw [cpB_at, if_neg (by omega), shN_at, if_pos (by omega)]
      exact congrArg (msv m) (by omega)
  · rw [if_pos c6] at hi
    rw [if_pos c6, if_pos c6, if_pos c6]
    by_cases c5 : i = sz
    · rw [if_pos (by omega)]
      refine ⟨rel_congr s1 (fun x hx => ?_), s2⟩
      show cpB (ms m) (msv m) sz 120 (120 * i + x) = _
      rw [cpB_at, if_pos (by omega)]
      exact congrArg (ms m) (by omega)
    · rw [if_neg (by omega)]
      obtain ⟨g1, g2⟩ := s8 i (by omega)
      refine ⟨rel_congr g1 (fun x hx => ?_), g2⟩
      show cpB (ms m) (msv m) sz 120 (120 * i + x) = msv m (120 * i + x)
      rw [cpB_at, if_neg (by omega)]
theorem sim_keepG {c : CSt} {m m2 : MSt} (S : Sim c m) {h2 : HSt} (r2 : RelS h2 (ms m2)) (i2 : Inv h2) (b2 : Hbo h2) (e2 : msm m2 = nI (kSz (csz c))) (e3 : msv m2 = Msv (ms m) (msv m) (csz c)) {n2 : Nat} (hn2 : n2 ≤ 60) (e4 : mln m2 = nI n2) (e5 : Tok (csg c) n2) (e6 : ∀ k, k < n2 → csg c k = mbf m2 k) : Sim (h2, kOd (cod c) (csz c), kSz (csz c), va_up (chs c) (kJ (cod c) (csz c)) (ch c), csg c, n2) m2 := by
  have sv := sav_at S
  obtain ⟨s1, s2, s3, s4, s5, -, s7, -⟩ := S
  refine ⟨r2, i2, b2, kOd_lt s4, kSz_le s5, e2, k_bs s7 s3, fun i hi => ?_, hn2, e4, e5, e6⟩
  rw [e3]
  exact sv i hi
theorem sim_keep {c : CSt} {m : MSt} (S : Sim c m) {h2 : HSt} {s2 : Nat → Int32} (r2 : RelS h2 s2) (i2 : Inv h2) (b2 : Hbo h2) : Sim (kpC c h2) (sMs (Mkeep (csz c) (sMth m (nI 0))) s2) := by
  obtain ⟨-, -, -, -, -, -, -, -, s9, s10, s11, s12⟩ := id S
  exact sim_keepG S (m2 := sMs (Mkeep (csz c) (sMth m (nI 0))) s2) r2 i2 b2 rfl rfl s9 s10 s11 s12
theorem sim_th {c : CSt} {m : MSt} (S : Sim c m) (v : Int32) : Sim c (sMth m v) := S
theorem sim_as {c : CSt} {m : MSt} (S : Sim c m) (v : Nat → Int32) : Sim c (sMas m v) := S
theorem sim_hs {c : CSt} {m : MSt} (S : Sim c m) (v : Int64) : Sim c (sMhs m v) := S
theorem sim_MR {c : CSt} {m : MSt} (S : Sim c m) (t : RSt) : Sim c (MR m t) := S
/-! arguments in range -/
theorem ckR_iff {x : Int32} : ckR x = 0 ↔ (nI 0 ≤ x ∧ x ≤ nI 7) := by
  constructor
  · intro h
    obtain ⟨k, hk, rfl⟩ := ckR_ok h
    exact ⟨(nI_leI (by decide) (by omega)).mpr (Nat.zero_le k), (nI_leI (by omega) (by decide)).mpr (by omega)⟩
  · intro h
    obtain ⟨k, hk, rfl⟩ := in_nat (by decide) (by decide) h
    unfold ckR
    rw [if_neg (nI_pos (by omega)), if_pos ((nI_ltI (by omega) (by decide)).mpr (by omega))]
theorem ckC_iff {x : Int32} : ckC x = 0 ↔ (nI 0 ≤ x ∧ x ≤ nI 5) := by
  constructor
  · intro h
    obtain ⟨k, hk, rfl⟩ := ckC_ok h
    exact ⟨(nI_leI (by decide) (by omega)).mpr (Nat.zero_le k), (nI_leI (by omega) (by decide)).mpr (by omega)⟩
  · intro h
    obtain ⟨k, hk, rfl⟩ := in_nat (by decide) (by decide) h
    unfold ckC
    rw [if_neg (nI_pos (by omega)), if_pos ((nI_ltI (by omega) (by decide)).mpr (by omega))]
theorem cdCount_ckC (x : Int32) : cdCount x = ckC x := rfl
theorem ckM_iff {x : Int32} : ckM x = 0 ↔ (nI 1 ≤ x ∧ x ≤ nI 60) := by
  constructor
  · intro h
    obtain ⟨k, hk, rfl⟩ := ckM_ok h
    exact ⟨(nI_leI (by decide) (by omega)).mpr hk.2, (nI_leI (by omega) (by decide)).mpr hk.1⟩
  · intro h
    obtain ⟨k, hk, rfl⟩ := in_nat (by decide) (by decide) h
    unfold ckM
    rw [if_neg (fun z => by have := (nI_ltI (by omega) (by decide)).mp z; omega), if_pos ((nI_leI (by omega) (by decide)).mpr hk.2)]
theorem ckM_1 {x : Int32} (h : ¬ ckM x = 0) : ckM x = 1 := by
  revert h; unfold ckM; (repeat' split) <;> intro h <;> first | rfl | exact absurd rfl h
theorem pl_plM (row con : Int32) : plM row con = pl row con := by unfold plM pl; omega
theorem pair_iff {row con : Int32} : pairOK row con ↔ ckR row = 0 ∧ ckC con = 0 := by rw [ckR_iff, ckC_iff]
theorem pl_lt {row con : Int32} (h1 : ckR row = 0) (h2 : ckC con = 0) : pl row con < 48 := by
  obtain ⟨a, ha, e1⟩ := ckR_ok h1
  obtain ⟨b, hb, e2⟩ := ckC_ok h2
  rw [pl_eq ha hb e1 e2]; omega
theorem cdPair_0 {row con : Int32} : cdPair row con = 0 ↔ pairOK row con := by
  rw [pair_iff]
  unfold cdPair
  by_cases h1 : ckR row = 0
  · rw [if_pos h1]
    by_cases h2 : ckC con = 0
    · rw [if_pos h2]; exact ⟨fun _ => ⟨h1, h2⟩, fun _ => rfl⟩
    · rw [if_neg h2]; exact ⟨fun z => absurd z (by decide), fun z => absurd z.2 h2⟩
  · rw [if_neg h1]; exact ⟨fun z => absurd z (by decide), fun z => absurd z.1 h1⟩
theorem cdPair_1 {row con : Int32} (h : ¬ pairOK row con) : cdPair row con = 1 := by
  rw [pair_iff] at h
  unfold cdPair
  by_cases h1 : ckR row = 0
  · rw [if_pos h1, if_neg (fun z => h ⟨h1, z⟩)]
  · rw [if_neg h1]
/-! call by call: the exception, the answer, the states -/
theorem q_come {c : CSt} {m : MSt} (S : Sim c m) (row con : Int32) : mth (Mcome (csz c) row con m) = nI (cdCome (ch c) row con) ∧ (cdCome (ch c) row con = 0 → hL (Hseat (pl row con) (ch c)) (pl row con) = McomeR row con m ∧ Sim (kpC c (Hseat (pl row con) (ch c))) (Mcome (csz c) row con m)) ∧ (¬ cdCome (ch c) row con = 0 → Sim c (Mcome (csz c) row con m)) := by
  obtain ⟨s1, s2, s3, -⟩ := id S
  unfold Mcome McomeR cdCome
  rw [pl_plM]
  by_cases h1 : ckR row = 0
  · by_cases h2 : ckC con = 0
    · have hk := pl_lt h1 h2
      obtain ⟨l, hl, el⟩ := s2.1 _ hk
      have e := s1.1 _ hk
      rw [if_pos (pair_iff.mpr ⟨h1, h2⟩), if_pos (pair_iff.mpr ⟨h1, h2⟩), if_pos h1, if_pos h2, e, el]
      by_cases h9 : l = 9
      · subst h9
        rw [if_pos rfl, if_neg (not_not_intro (Int32.le_refl _))]
        exact ⟨rfl, fun z => absurd z (by decide), fun _ => S⟩
      · have g1 : ¬ nI l = nI 9 := fun z => h9 ((nI_eq (by omega) (by decide)).mp z)
        have g2 : ¬ nI 9 ≤ nI l := fun z => h9 (by have := (nI_leI (by decide) (by omega)).mp z; omega)
        rw [if_neg g1, if_pos g2, if_neg g1]
        have r2 := rel_seat s1 s2 hk
        refine ⟨rfl, fun _ => ⟨(r2.1 _ hk).symm, sim_keep S r2 (inv_seat s2 hk (by rw [el]; exact g2)) (Hbo_sm s3 (Hseat_sm _ _))⟩, fun z => absurd rfl z⟩
    · rw [if_neg (fun z => h2 (pair_iff.mp z).2), if_neg (fun z => h2 (pair_iff.mp z).2), if_pos h1, if_neg h2]
      exact ⟨rfl, fun z => absurd z (by decide), fun _ => S⟩
  · rw [if_neg (fun z => h1 (pair_iff.mp z).1), if_neg (fun z => h1 (pair_iff.mp z).1), if_neg h1]
    exact ⟨rfl, fun z => absurd z (by decide), fun _ => S⟩
theorem q_leave {c : CSt} {m : MSt} (S : Sim c m) (row con : Int32) (b : Nat) : mth (Mleave (csz c) row con b m) = nI (cdLeave (ch c) row con) ∧ (cdLeave (ch c) row con = 0 → hL (Hunseat (pl row con) b (ch c)) (pl row con) = MleaveR row con b m ∧ Sim (kpC c (Hunseat (pl row con) b (ch c))) (Mleave (csz c) row con b m)) ∧ (¬ cdLeave (ch c) row con = 0 → Sim c (Mleave (csz c) row con b m)) := by
  obtain ⟨s1, s2, s3, -⟩ := id S
  unfold Mleave MleaveR cdLeave
  rw [pl_plM]
  by_cases h1 : ckR row = 0
  · by_cases h2 : ckC con = 0
    · have hk := pl_lt h1 h2
      obtain ⟨l, hl, el⟩ := s2.1 _ hk
      have e := s1.1 _ hk
      rw [if_pos (pair_iff.mpr ⟨h1, h2⟩), if_pos (pair_iff.mpr ⟨h1, h2⟩), if_pos h1, if_pos h2, e]
      by_cases h9 : l = 0
      · subst h9
        have el0 : hL (ch c) (pl row con) = 0 := el
        rw [if_neg (not_not_intro el0), if_neg (not_not_intro (by rw [el0]; exact Int32.le_refl _))]
        exact ⟨rfl, fun z => absurd z (by decide), fun _ => S⟩
      · have g2 : ¬ hL (ch c) (pl row con) ≤ 0 := fun z => h9 ((le0 (by omega)).mp (by rw [← el]; exact z))
        have g1 : ¬ hL (ch c) (pl row con) = 0 := fun z => g2 (by rw [z]; exact Int32.le_refl _)
        rw [if_pos g1, if_pos g2, if_pos g1]
        have r2 := rel_unseat s1 s2 s3 b hk g2
        refine ⟨rfl, fun _ => ⟨(r2.1 _ hk).symm, sim_keep S r2 (inv_unseat s2 b hk g2) (Hbo_sm s3 (Hunseat_sm _ _ _))⟩, fun z => absurd rfl z⟩
    · rw [if_neg (fun z => h2 (pair_iff.mp z).2), if_neg (fun z => h2 (pair_iff.mp z).2), if_pos h1, if_neg h2]
      exact ⟨rfl, fun z => absurd z (by decide), fun _ => S⟩
  · rw [if_neg (fun z => h1 (pair_iff.mp z).1), if_neg (fun z => h1 (pair_iff.mp z).1), if_neg h1]
    exact ⟨rfl, fun z => absurd z (by decide), fun _ => S⟩
theorem q_listeners {c : CSt} {m : MSt} (S : Sim c m) (row con : Int32) : mth (Mpair row con m) = nI (cdPair row con) ∧ (cdPair row con = 0 → hL (ch c) (pl row con) = MlisR row con m ∧ Sim c (Mpair row con m)) ∧ (¬ cdPair row con = 0 → Sim c (Mpair row con m)) := by
  unfold Mpair MlisR
  by_cases h : pairOK row con
  · have hk := pl_lt (pair_iff.mp h).1 (pair_iff.mp h).2
    rw [if_pos h, if_pos h, cdPair_0.mpr h, pl_plM]
    exact ⟨rfl, fun _ => ⟨(S.1.1 _ hk).symm, S⟩, fun _ => S⟩
  · rw [if_neg h, if_neg h, cdPair_1 h]
    exact ⟨rfl, fun z => absurd z (by decide), fun _ => S⟩
theorem q_rest {c : CSt} {m : MSt} (S : Sim c m) (row con : Int32) : mth (Mpair row con m) = nI (cdPair row con) ∧ (cdPair row con = 0 → hR (ch c) (pl row con) = MrestR row con m ∧ Sim c (Mpair row con m)) ∧ (¬ cdPair row con = 0 → Sim c (Mpair row con m)) := by
  unfold Mpair MrestR
  by_cases h : pairOK row con
  · have hk := pl_lt (pair_iff.mp h).1 (pair_iff.mp h).2
    rw [if_pos h, if_pos h, cdPair_0.mpr h, pl_plM]
    exact ⟨rfl, fun _ => ⟨(S.1.2.1 _ hk).symm, S⟩, fun _ => S⟩
  · rw [if_neg h, if_neg h, cdPair_1 h]
    exact ⟨rfl, fun z => absurd z (by decide), fun _ => S⟩
theorem q_minutesToFade {c : CSt} {m : MSt} (S : Sim c m) (row con : Int32) : mth (MfadeS row con m) = nI (cdPair row con) ∧ (cdPair row con = 0 → HfadesIn (pl row con) (ch c) = MfadeR row con m ∧ Sim c (MfadeS row con m)) ∧ (¬ cdPair row con = 0 → Sim c (MfadeS row con m)) := by
  unfold MfadeS MfadeR
  by_cases h : pairOK row con
  · have hk := pl_lt (pair_iff.mp h).1 (pair_iff.mp h).2
    rw [if_pos h, if_pos h, cdPair_0.mpr h, pl_plM]
    exact ⟨rfl, fun _ => ⟨(fades_eq S.1 S.2.1 hk).symm, S⟩, fun _ => S⟩
  · rw [if_neg h, if_neg h, cdPair_1 h]
    exact ⟨rfl, fun z => absurd z (by decide), fun _ => S⟩
theorem q_rows {c : CSt} {m : MSt} (S : Sim c m) (con : Int32) : mth (Mcon con m) = nI (ckC con) ∧ (ckC con = 0 → Hget (ch c) con.toNatClampNeg 8 = MrowsR con m ∧ Sim c (Mcon con m)) ∧ (¬ ckC con = 0 → Sim c (Mcon con m)) := by
  unfold Mcon MrowsR
  by_cases h : ckC con = 0
  · obtain ⟨k, hk, e⟩ := ckC_ok h
    have ek := cl_eq e (by omega)
    rw [if_pos (ckC_iff.mp h), if_pos (ckC_iff.mp h), h, ek]
    exact ⟨rfl, fun _ => ⟨(row_eq S.1 S.2.1 hk).symm, S⟩, fun _ => S⟩
  · rw [if_neg (fun z => h (ckC_iff.mpr z)), if_neg (fun z => h (ckC_iff.mpr z)), ckC_1 h]
    exact ⟨rfl, fun z => absurd z (by decide), fun _ => S⟩
theorem q_wanted {c : CSt} {m : MSt} (S : Sim c m) (con : Int32) : mth (Mcon con m) = nI (ckC con) ∧ (ckC con = 0 → Hwant (ch c) con.toNatClampNeg 8 = MwanR con m ∧ Sim c (Mcon con m)) ∧ (¬ ckC con = 0 → Sim c (Mcon con m)) := by
  unfold Mcon MwanR
  by_cases h : ckC con = 0
  · obtain ⟨k, hk, e⟩ := ckC_ok h
    have ek := cl_eq e (by omega)
    rw [if_pos (ckC_iff.mp h), if_pos (ckC_iff.mp h), h, ek]
    exact ⟨rfl, fun _ => ⟨(wan_eq S.1 hk 8 (Nat.le_refl 8)).symm, S⟩, fun _ => S⟩
  · rw [if_neg (fun z => h (ckC_iff.mpr z)), if_neg (fun z => h (ckC_iff.mpr z)), ckC_1 h]
    exact ⟨rfl, fun z => absurd z (by decide), fun _ => S⟩
theorem q_play {c : CSt} {m : MSt} (S : Sim c m) (con : Int32) : mth (MplayS (csz c) con m) = nI (ckC con) ∧ (ckC con = 0 → bc (Hget (ch c) con.toNatClampNeg 8) = MplayR con m ∧ Sim (kpC c (Hperf con.toNatClampNeg (ch c))) (MplayS (csz c) con m)) ∧ (¬ ckC con = 0 → Sim c (MplayS (csz c) con m)) := by
  unfold MplayS MplayR
  by_cases h : ckC con = 0
  · obtain ⟨k, hk, e⟩ := ckC_ok h
    have ek := cl_eq e (by omega)
    rw [if_pos (ckC_iff.mp h), if_pos (ckC_iff.mp h), h, ek]
    exact ⟨rfl, fun _ => ⟨(play_q S.1 S.2.1 hk).symm, sim_keep S (rel_play S.1 S.2.1 hk) (inv_play S.2.1 k) (Hbo_sm S.2.2.1 (Hperf_sm k _))⟩, fun z => absurd rfl z⟩
  · rw [if_neg (fun z => h (ckC_iff.mpr z)), if_neg (fun z => h (ckC_iff.mpr z)), ckC_1 h]
    exact ⟨rfl, fun z => absurd z (by decide), fun _ => S⟩
theorem q_pass {c : CSt} {m : MSt} (S : Sim c m) (mins : Int32) : mth (MpassS (csz c) mins m) = nI (ckM mins) ∧ (ckM mins = 0 → nI (HpassQ (ch c) mins.toNatClampNeg) = MpassR mins m ∧ Sim (kpC c (HpassN (ch c) mins.toNatClampNeg)) (MpassS (csz c) mins m)) ∧ (¬ ckM mins = 0 → Sim c (MpassS (csz c) mins m)) := by
  unfold MpassS MpassR
  by_cases h : ckM mins = 0
  · rw [if_pos (ckM_iff.mp h), if_pos (ckM_iff.mp h), h]
    exact ⟨rfl, fun _ => ⟨(pass_q S.1 _).symm, sim_keep S (rel_pass S.1 _) (inv_pass S.2.1 _) (Hbo_sm S.2.2.1 (HpassN_sm _ _))⟩, fun z => absurd rfl z⟩
  · rw [if_neg (fun z => h (ckM_iff.mpr z)), if_neg (fun z => h (ckM_iff.mpr z)), ckM_1 h]
    exact ⟨rfl, fun z => absurd z (by decide), fun _ => S⟩
theorem q_count {c : CSt} {m : MSt} (S : Sim c m) (what : Int32) : mth (McntS what m) = nI (cdCount what) ∧ (cdCount what = 0 → hC (ch c) what.toNatClampNeg = McntR what m ∧ Sim c (McntS what m)) ∧ (¬ cdCount what = 0 → Sim c (McntS what m)) := by
  unfold McntS McntR
  rw [cdCount_ckC]
  by_cases h : ckC what = 0
  · obtain ⟨k, hk, e⟩ := ckC_ok h
    have ek := cl_eq e (by omega)
    rw [if_pos (ckC_iff.mp h), if_pos (ckC_iff.mp h), h, ek]
    exact ⟨rfl, fun _ => ⟨(S.1.2.2.1 k hk).symm, S⟩, fun _ => S⟩
  · rw [if_neg (fun z => h (ckC_iff.mpr z)), if_neg (fun z => h (ckC_iff.mpr z)), ckC_1 h]
    exact ⟨rfl, fun z => absurd z (by decide), fun _ => S⟩
theorem q_disturbedAfter {c : CSt} {m : MSt} (S : Sim c m) (con mins : Int32) : mth (MdistS con mins m) = nI (cdDist con mins) ∧ (cdDist con mins = 0 → nI (Hdist (ch c) con.toNatClampNeg mins.toNatClampNeg 8) = MdistR con mins m ∧ Sim c (MdistS con mins m)) ∧ (¬ cdDist con mins = 0 → Sim c (MdistS con mins m)) := by
  unfold MdistS MdistR cdDist
  by_cases h : ckC con = 0
  · rw [if_pos (ckC_iff.mp h), if_pos (ckC_iff.mp h), if_pos h]
    by_cases h2 : ckM mins = 0
    · obtain ⟨k, hk, e⟩ := ckC_ok h
      obtain ⟨x, hx, e2⟩ := ckM_ok h2
      have ek := cl_eq e (by omega)
      have ex := cl_eq e2 (by omega)
      rw [if_pos (ckM_iff.mp h2), if_pos (ckM_iff.mp h2), if_pos h2, ek, ex]
      exact ⟨rfl, fun _ => ⟨(dist_eq S.1 S.2.1 hk hx.1 8 (Nat.le_refl 8)).symm, S⟩, fun _ => S⟩
    · rw [if_neg (fun z => h2 (ckM_iff.mpr z)), if_neg (fun z => h2 (ckM_iff.mpr z)), if_neg h2]
      exact ⟨rfl, fun z => absurd z (by decide), fun _ => S⟩
  · rw [if_neg (fun z => h (ckC_iff.mpr z)), if_neg (fun z => h (ckC_iff.mpr z)), if_neg h]
    exact ⟨rfl, fun z => absurd z (by decide), fun _ => S⟩
theorem open_R {h : HSt} {s : Nat → Int32} (r : RelS h s) {k : Nat} (hk : k < 8) : bI (s (13 + k) = nI 1) = bI (Hopen h k) := by
  rw [r.2.2.2.2.2.2.2.2.2.2 k hk]
  exact bI_iff (by
    by_cases d : Hopen h k
    · rw [bI_t d]; exact ⟨fun _ => d, fun _ => rfl⟩
    · rw [bI_f d]; exact ⟨fun z => absurd z (by decide), fun z => absurd z d⟩)
theorem q_isOpen {c : CSt} {m : MSt} (S : Sim c m) (row : Int32) : mth (MopenQ row m) = nI (ckR row) ∧ (ckR row = 0 → bI (Hopen (ch c) row.toNatClampNeg) = MopenR row m ∧ Sim c (MopenQ row m)) ∧ (¬ ckR row = 0 → Sim c (MopenQ row m)) := by
  unfold MopenQ MopenR
  by_cases h : ckR row = 0
  · obtain ⟨k, hk, e⟩ := ckR_ok h
    have ek := cl_eq e (by omega)
    rw [if_pos (ckR_iff.mp h), if_pos (ckR_iff.mp h), h, ek]
    exact ⟨rfl, fun _ => ⟨(open_R S.1 hk).symm, S⟩, fun _ => S⟩
  · rw [if_neg (fun z => h (ckR_iff.mpr z)), if_neg (fun z => h (ckR_iff.mpr z)), ckR_1 h]
    exact ⟨rfl, fun z => absurd z (by decide), fun _ => S⟩
theorem open_new {h : HSt} {s : Nat → Int32} (r : RelS h s) (i : Inv h) {row : Int32} {k b : Nat} (hb2 : b < 2) (hk : k < 8) (ek : row.toNatClampNeg = k) : RelS (UOpen row b h) (upd s (13 + k) (nI b)) ∧ Inv (UOpen row b h) ∧ Hsm h (UOpen row b h) := by
  unfold UOpen
  rw [ek]
  by_cases c : bI (Hopen h k) = nI b
  · rw [if_pos c, upd_id (by rw [r.2.2.2.2.2.2.2.2.2.2 k hk, c])]
    exact ⟨r, i, Hsm.rf h⟩
  · rw [if_neg c]
    refine ⟨rel_turn r i hk ?_, inv_turn i hk, Hturn_sm k h⟩
    rw [bI_opb] at c
    rcases (by omega : b = 0 ∨ b = 1) with rfl | rfl
    · cases d : opb (hop h) k
      · rw [d] at c; exact absurd rfl c
      · rfl
    · cases d : opb (hop h) k
      · rfl
      · rw [d] at c; exact absurd rfl c
theorem q_setOpen {c : CSt} {m : MSt} (S : Sim c m) (row : Int32) (b : Nat) (hb2 : b < 2) : mth (MopenS (csz c) row b m) = nI (ckR row) ∧ (ckR row = 0 → bI (Hopen (ch c) row.toNatClampNeg) = MopenR row m ∧ Sim (kpC c (UOpen row b (ch c))) (MopenS (csz c) row b m)) ∧ (¬ ckR row = 0 → Sim c (MopenS (csz c) row b m)) := by
  unfold MopenS MopenR
  by_cases h : ckR row = 0
  · obtain ⟨k, hk, e⟩ := ckR_ok h
    have ek := cl_eq e (by omega)
    obtain ⟨g1, g2, g3⟩ := open_new S.1 S.2.1 hb2 hk ek
    rw [if_pos (ckR_iff.mp h), if_pos (ckR_iff.mp h), h, ek]
    exact ⟨rfl, fun _ => ⟨(open_R S.1 hk).symm, sim_keep S g1 g2 (Hbo_sm S.2.2.1 g3)⟩, fun z => absurd rfl z⟩
  · rw [if_neg (fun z => h (ckR_iff.mpr z)), if_neg (fun z => h (ckR_iff.mpr z)), ckR_1 h]
    exact ⟨rfl, fun z => absurd z (by decide), fun _ => S⟩
theorem q_setQuick {c : CSt} {m : MSt} (S : Sim c m) (b : Nat) (hb2 : b < 2) : hqk (ch c) = bI (ms m 3 = nI 1) ∧ Sim (kpC c (sHqk (ch c) (nI b))) (sMs (Mkeep (csz c) (sMth m (nI 0))) (upd (ms m) 3 (nI b))) := by
  refine ⟨?_, sim_keep S (rel_qk S.1 (nI b)) S.2.1 ⟨k_b2 hb2, S.2.2.1.2⟩⟩
  rw [S.1.2.2.2.2.2.2.1]
  rcases S.2.2.1.1 with q | q
  · rw [q]; decide
  · rw [q]; decide
theorem q_setTimes {c : CSt} {m : MSt} (S : Sim c m) (t1 t2 t3 : Int32) : mth (MtimesS (csz c) t1 t2 t3 m) = nI (cdTimes t1 t2 t3) ∧ (cdTimes t1 t2 t3 = 0 → hfd (ch c) = MtimesR t1 t2 t3 m ∧ Sim (kpC c (UTimes t1 t2 t3 (ch c))) (MtimesS (csz c) t1 t2 t3 m)) ∧ (¬ cdTimes t1 t2 t3 = 0 → Sim c (MtimesS (csz c) t1 t2 t3 m)) := by
  have rng : ∀ (x lo hi : Int32) (A B : Nat), (if x < lo then B else if x ≤ hi then A else B) = if lo ≤ x ∧ x ≤ hi then A else B := by
    intro x lo hi A B
    by_cases c1 : x < lo
    · rw [if_pos c1, if_neg (fun z => Int32.lt_irrefl (Int32.lt_of_lt_of_le c1 z.1))]
    · rw [if_neg c1]
      by_cases c2 : x ≤ hi
      · rw [if_pos c2, if_pos ⟨Int32.not_lt.mp c1, c2⟩]
      · rw [if_neg c2, if_neg (fun z => c2 z.2)]
  unfold MtimesS MtimesR cdTimes
  rw [rng, rng, rng]
  by_cases h1 : nI 2 ≤ t1 ∧ t1 ≤ nI 60
  · rw [if_pos h1, if_pos h1, if_pos h1]
    by_cases h2 : nI 1 ≤ t2 ∧ t2 ≤ nI 10
    · rw [if_pos h2, if_pos h2, if_pos h2]
      by_cases h3 : nI 1 ≤ t3 ∧ t3 ≤ nI 30
      · rw [if_pos h3, if_pos h3, if_pos h3]
        obtain ⟨a, ha, rfl⟩ := in_nat (by decide) (by decide) h1
        obtain ⟨b, hb, rfl⟩ := in_nat (by decide) (by decide) h2
        obtain ⟨d, hd, rfl⟩ := in_nat (by decide) (by decide) h3
        have i := S.2.1
        refine ⟨rfl, fun _ => ⟨S.1.2.2.2.1.symm, sim_keep S (rel_as (rel_pt (rel_fd S.1 _) _) _) ?_ S.2.2.1⟩, fun z => absurd rfl z⟩
        exact ⟨i.1, i.2.1, ⟨a, ha, rfl⟩, ⟨b, hb, rfl⟩, ⟨d, hd, rfl⟩, i.2.2.2.2.2⟩
      · rw [if_neg h3, if_neg h3, if_neg h3]
        exact ⟨rfl, fun z => absurd z (by decide), fun _ => S⟩
    · rw [if_neg h2, if_neg h2, if_neg h2]
      exact ⟨rfl, fun z => absurd z (by decide), fun _ => S⟩
  · rw [if_neg h1, if_neg h1, if_neg h1]
    exact ⟨rfl, fun z => absurd z (by decide), fun _ => S⟩
theorem rel_f1 {h : HSt} {s : Nat → Int32} (r : RelS h s) (v : Int32) : RelS (sHf1 h v) (upd s 4 (mask (sHf1 h v))) := by
  obtain ⟨r1, r2, r3, r4, r5, r6, r7, r8, r9, r10, r11⟩ := r
  refine ⟨fun j hj => ?_, fun j hj => ?_, fun j hj => ?_, ?_, ?_, ?_, ?_, ?_, ?_, ?_, fun j hj => ?_⟩
  · rw [pk_un (by omega)]; exact r1 j hj
  · rw [pk_un (by omega)]; exact r2 j hj
  · rw [pk_un (by omega)]; exact r3 j hj
  · rw [pk_un (by decide)]; exact r4
  · rw [pk_un (by decide)]; exact r5
  · rw [pk_un (by decide)]; exact r6
  · rw [pk_un (by decide)]; exact r7
  · exact pk_us
  · rw [pk_un (by decide)]; exact r9
  · rw [pk_un (by decide)]; exact r10
  · rw [pk_un (by omega)]; exact r11 j hj
theorem rel_f2 {h : HSt} {s : Nat → Int32} (r : RelS h s) (v : Int32) : RelS (sHf2 h v) (upd s 4 (mask (sHf2 h v))) := by
  obtain ⟨r1, r2, r3, r4, r5, r6, r7, r8, r9, r10, r11⟩ := r
  refine ⟨fun j hj => ?_, fun j hj => ?_, fun j hj => ?_, ?_, ?_, ?_, ?_, ?_, ?_, ?_, fun j hj => ?_⟩
  · rw [pk_un (by omega)]; exact r1 j hj
  · rw [pk_un (by omega)]; exact r2 j hj
  · rw [pk_un (by omega)]; exact r3 j hj
  · rw [pk_un (by decide)]; exact r4
  · rw [pk_un (by decide)]; exact r5
  · rw [pk_un (by decide)]; exact r6
  · rw [pk_un (by decide)]; exact r7
  · exact pk_us
  · rw [pk_un (by decide)]; exact r9
  · rw [pk_un (by decide)]; exact r10
  · rw [pk_un (by omega)]; exact r11 j hj
theorem pres_new {h : HSt} {s : Nat → Int32} (r : RelS h s) (hb : Hbo h) {u : Int32} {b : Nat} (hb2 : b < 2) (hu : u = nI 1 ∨ u = nI 2) : RelS (UPres u b h) (Mpres u b s) ∧ Hbo (UPres u b h) := by
  have e4 : s 4 = mask h := r.2.2.2.2.2.2.2.1
  unfold UPres Mpres
  rw [e4]
  rcases hu with rfl | rfl
  · rw [if_neg (not_not_intro rfl)]
    refine ⟨?_, hb.1, k_b2 hb2, hb.2.2⟩
    have e : (mask h &&& ((nI 1 <<< (nI 1 &&& 31)) ^^^ (-1))) ||| (if b = 0 then nI 0 else (nI 1 <<< (nI 1 &&& 31))) = mask (sHf1 h (nI b)) := by
      show _ = (if hf2 h = 0 then (if nI b = 0 then nI 0 else nI 2) else (if nI b = 0 then nI 4 else nI 6))
      unfold mask
      rcases hb.2.1 with q1 | q1 <;> rcases hb.2.2 with q2 | q2 <;> rcases (by omega : b = 0 ∨ b = 1) with rfl | rfl <;> rw [q1, q2] <;> decide
    rw [e]
    exact rel_f1 r (nI b)
  · rw [if_pos (by decide)]
    refine ⟨?_, hb.1, hb.2.1, k_b2 hb2⟩
    have e : (mask h &&& ((nI 1 <<< (nI 2 &&& 31)) ^^^ (-1))) ||| (if b = 0 then nI 0 else (nI 1 <<< (nI 2 &&& 31))) = mask (sHf2 h (nI b)) := by
      show _ = (if nI b = 0 then (if hf1 h = 0 then nI 0 else nI 2) else (if hf1 h = 0 then nI 4 else nI 6))
      unfold mask
      rcases hb.2.1 with q1 | q1 <;> rcases hb.2.2 with q2 | q2 <;> rcases (by omega : b = 0 ∨ b = 1) with rfl | rfl <;> rw [q1, q2] <;> decide
    rw [e]
    exact rel_f2 r (nI b)
theorem q_setPresent {c : CSt} {m : MSt} (S : Sim c m) (w9 : Int32) (b : Nat) (hb2 : b < 2) : mth (MpresS (csz c) w9 b m) = nI (cdPres w9) ∧ (cdPres w9 = 0 → Hchief (UPres w9 b (ch c)) = MpresR w9 b m ∧ Sim (kpC c (UPres w9 b (ch c))) (MpresS (csz c) w9 b m)) ∧ (¬ cdPres w9 = 0 → Sim c (MpresS (csz c) w9 b m)) := by
  have ok : (nI 1 ≤ w9 ∧ w9 ≤ nI 2) ↔ (w9 = nI 1 ∨ w9 = nI 2) := by
    constructor
    · intro h
      obtain ⟨k, hk, rfl⟩ := in_nat (by decide) (by decide) h
      rcases (by omega : k = 1 ∨ k = 2) with rfl | rfl
      · exact Or.inl rfl
      · exact Or.inr rfl
    · intro h
      rcases h with rfl | rfl <;> decide
  unfold MpresS MpresR
  by_cases h : w9 = nI 1 ∨ w9 = nI 2
  · have e : cdPres w9 = 0 := by
      unfold cdPres
      rcases h with rfl | rfl
      · rw [if_pos rfl]
      · rw [if_neg (by decide), if_pos rfl]
    obtain ⟨g1, g2⟩ := pres_new S.1 S.2.2.1 hb2 h
    have i2 : Inv (UPres w9 b (ch c)) := by
      unfold UPres
      split
      · exact S.2.1
      · exact S.2.1
    rw [if_pos (ok.mpr h), if_pos (ok.mpr h), e]
    exact ⟨rfl, fun _ => ⟨(chief_eq g1).symm, sim_keep S g1 i2 g2⟩, fun z => absurd rfl z⟩
  · have e : cdPres w9 = 1 := by
      unfold cdPres
      rw [if_neg (fun z => h (Or.inl z)), if_neg (fun z => h (Or.inr z))]
    rw [if_neg (fun z => h (ok.mp z)), if_neg (fun z => h (ok.mp z)), e]
    exact ⟨rfl, fun z => absurd z (by decide), fun _ => S⟩
theorem q_append {c : CSt} {m : MSt} (S : Sim c m) (x : Int32) : mth (MappS (cn c) x m) = nI (cdApp (cn c) x) ∧ (cdApp (cn c) x = 0 → nI (cn c + 1) = MappR (cn c) x ∧ Sim (ch c, cod c, csz c, chs c, upd (csg c) (cn c) x, cn c + 1) (MappS (cn c) x m)) ∧ (¬ cdApp (cn c) x = 0 → Sim c (MappS (cn c) x m)) := by
  obtain ⟨s1, s2, s3, s4, s5, s6, s7, s8, s9, s10, s11, s12⟩ := id S
  unfold MappS MappR cdApp
  by_cases c1 : x < nI 33
  · have g : ¬ codeOK x := fun z => Int32.lt_irrefl (Int32.lt_of_lt_of_le c1 z.1)
    rw [if_neg g, if_neg g, if_pos c1]
    exact ⟨rfl, fun z => absurd z (by decide), fun _ => S⟩
  rw [if_neg c1]
  by_cases c2 : x ≤ nI 126
  · have g : codeOK x := ⟨Int32.not_lt.mp c1, c2⟩
    rw [if_pos g, if_pos g, if_pos c2]
    by_cases c3 : cn c = 60
    · rw [if_pos c3, if_pos c3, if_neg (by omega)]
      exact ⟨rfl, fun z => absurd z (by decide), fun _ => S⟩
    · rw [if_neg c3, if_neg c3, if_pos (by omega)]
      obtain ⟨q, hq, e⟩ := app_nat c1 c2
      refine ⟨rfl, fun _ => ⟨rfl, s1, s2, s3, s4, s5, s6, s7, s8, by show cn c + 1 ≤ 60; omega, rfl, fun k hk => ?_, fun k hk => ?_⟩, fun z => absurd rfl z⟩
      · show ∃ q, q < 65536 ∧ upd (csg c) (cn c) x k = nI q
        have hk : k < cn c + 1 := hk
        by_cases d : k = cn c
        · rw [d, pk_us]; exact ⟨q, hq.1, e⟩
        · rw [pk_un d]; exact s11 k (by omega)
      · show upd (csg c) (cn c) x k = upd (mbf m) (cn c) x k
        have hk : k < cn c + 1 := hk
        by_cases d : k = cn c
        · rw [d, pk_us, pk_us]
        · rw [pk_un d, pk_un d]; exact s12 k (by omega)
  · have g : ¬ codeOK x := fun z => c2 z.2
    rw [if_neg g, if_neg g, if_neg c2]
    exact ⟨rfl, fun z => absurd z (by decide), fun _ => S⟩
theorem q_clearText {c : CSt} {m : MSt} (S : Sim c m) : Sim (ch c, cod c, csz c, chs c, csg c, 0) (sMln (sMth m (nI 0)) (nI 0)) := by
  obtain ⟨s1, s2, s3, s4, s5, s6, s7, s8, s9, s10, s11, s12⟩ := id S
  exact ⟨s1, s2, s3, s4, s5, s6, s7, s8, Nat.zero_le _, rfl, fun k hk => absurd hk (Nat.not_lt_zero k), fun k hk => absurd hk (Nat.not_lt_zero k)⟩
theorem sim_bf {c : CSt} {m : MSt} (S : Sim c m) : Tok (mbf m) (cn c) ∧ ∀ k, k < cn c → Tq (csg c) (cn c) k = Bq (mbf m) (cn c) k := by
  obtain ⟨-, -, -, -, -, -, -, -, -, -, s11, s12⟩ := id S
  refine ⟨fun k hk => ?_, fun k hk => ?_⟩
  · rw [← s12 k hk]; exact s11 k hk
  · unfold Tq Bq
    rw [if_neg (by omega), if_neg (by omega), s12 k hk]
theorem q_firstError {c : CSt} {m : MSt} (S : Sim c m) : nI (Tfw (csg c) (cn c) 0 (cn c)) = nI (if (rFin (mbf m) (cn c) (mrd m)).2.1 = 0 then (rFin (mbf m) (cn c) (mrd m)).1 else cn c) ∧ Sim c (MR (sMth m (nI 0)) (rFin (mbf m) (cn c) (mrd m))) := by
  obtain ⟨b1, b2⟩ := sim_bf S
  rw [(reads_eq S.2.2.2.2.2.2.2.2.1 b1 b2 (mrd m)).2]
  exact ⟨rfl, S⟩
theorem q_run {c : CSt} {m : MSt} (S : Sim c m) : mth (MrunM (csz c) (cn c) m) = nI (if Tdone (csg c) (cn c) then 0 else 1) ∧ ((if Tdone (csg c) (cn c) then 0 else 1) = 0 → nI ((Ufin (csg c) (cn c) 0 (cn c) (ch c) 0).2) = nI (MrunR (cn c) m) ∧ Sim ((Ufin (csg c) (cn c) 0 (cn c) (ch c) 0).1, kOd (cod c) (csz c), kSz (csz c), va_up (chs c) (kJ (cod c) (csz c)) (ch c), csg c, 0) (MrunM (csz c) (cn c) m)) ∧ (¬ (if Tdone (csg c) (cn c) then 0 else 1) = 0 → Sim c (MrunM (csz c) (cn c) m)) := by
  obtain ⟨b1, b2⟩ := sim_bf S
  have hn := S.2.2.2.2.2.2.2.2.1
  obtain ⟨g1, -⟩ := reads_eq hn b1 b2 (mrd m)
  unfold MrunM MrunR
  by_cases h : Tdone (csg c) (cn c)
  · have hw := g1.mpr h
    rw [if_pos h, if_neg hw, if_neg hw]
    obtain ⟨k1, k2, k3, k4⟩ := run_eq hn b1 b2 (mrd m) h S.1 S.2.1 S.2.2.1
    refine ⟨rfl, fun _ => ⟨by rw [k1], ?_⟩, fun z => absurd rfl z⟩
    exact sim_keepG S (n2 := 0) k2 k3 k4 rfl rfl (Nat.zero_le _) rfl (fun k hk => absurd hk (Nat.not_lt_zero k)) (fun k hk => absurd hk (Nat.not_lt_zero k))
  · have hw : (rFin (mbf m) (cn c) (mrd m)).2.1 = 0 := Classical.not_not.mp (fun z => h (g1.mp z))
    rw [if_neg h, if_pos hw]
    exact ⟨rfl, fun z => absurd z (by decide), fun _ => S⟩
theorem q_undo {c : CSt} {m : MSt} (S : Sim c m) : mth (MundoS (csz c) m) = nI (if csz c = 0 then 1 else 0) ∧ ((if csz c = 0 then 1 else 0) = 0 → nI (csz c - 1) = MundoR (csz c) ∧ Sim (chs c ((cod c + (csz c - 1)) % 6), cod c, csz c - 1, chs c, csg c, cn c) (MundoS (csz c) m)) ∧ (¬ (if csz c = 0 then 1 else 0) = 0 → Sim c (MundoS (csz c) m)) := by
  obtain ⟨s1, s2, s3, s4, s5, s6, s7, s8, s9, s10, s11, s12⟩ := id S
  unfold MundoS MundoR
  by_cases h : csz c = 0
  · rw [if_pos h, if_pos h, if_pos h]
    exact ⟨rfl, fun z => absurd z (by decide), fun _ => S⟩
  · rw [if_neg h, if_neg h, if_neg h]
    obtain ⟨g1, g2⟩ := s8 (csz c - 1) (by omega)
    refine ⟨rfl, fun _ => ⟨rfl, ?_, g2, s7 _, s4, ?_, rfl, s7, fun i hi => ?_, s9, s10, s11, s12⟩, fun z => absurd rfl z⟩
    · exact rel_congr g1 (fun x hx => cpN_in hx)
    · show csz c - 1 ≤ 6; omega
    · have hi : i < csz c - 1 := hi
      exact s8 i (by omega)
theorem q_digest {c : CSt} {m : MSt} (S : Sim c m) : Udig (ch c) = Mdig (ms m) ∧ Sim c (MdigS m) := ⟨(dig_eq S.1 S.2.1).symm, S⟩
theorem q_chief {c : CSt} {m : MSt} (S : Sim c m) : Hchief (ch c) = Mchief (ms m) := (chief_eq S.1).symm
theorem q_entries {c : CSt} {m : MSt} (S : Sim c m) : nI (Hent (hR (ch c)) 48) = Ment (ms m) 48 := (ent_eq S.1 48 (Nat.le_refl 48)).symm
theorem q_minutes {c : CSt} {m : MSt} (S : Sim c m) : hmn (ch c) = ms m 5 := S.1.2.2.2.2.2.2.2.2.1.symm
theorem q_sinceQuestion {c : CSt} {m : MSt} (S : Sim c m) : hsn (ch c) = ms m 6 := S.1.2.2.2.2.2.2.2.2.2.1.symm
theorem q_minutesToQuestion {c : CSt} {m : MSt} (S : Sim c m) : HasksIn (ch c) = MasksIn (ms m) := (asks_eq S.1 S.2.1).symm
theorem q_usefulShare {c : CSt} {m : MSt} (S : Sim c m) : dSh (hC (ch c) 0) (hC (ch c) 1) = dSh (ms m 7) (ms m 8) := by
  have e0 : ms m 7 = hC (ch c) 0 := S.1.2.2.1 0 (by decide)
  have e1 : ms m 8 = hC (ch c) 1 := S.1.2.2.1 1 (by decide)
  rw [e0, e1]
