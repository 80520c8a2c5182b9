/-! doors -/
theorem opb_iff (h : HSt) (r : Nat) : opb (hop h) r = true ↔ Hopen h r := by
  unfold opb
  exact decide_eq_true_iff
theorem bI_opb (h : HSt) (r : Nat) : bI (Hopen h r) = nI (if opb (hop h) r = true then 1 else 0) := bI_b (opb_iff h r).symm
theorem turn_hop {h : HSt} (i : Inv h) {r : Nat} (hr : r < 8) : ∃ w : Nat, w < 256 ∧ hop (Hturn r h) = nI w ∧ ∀ j, j < 8 → opb (hop (Hturn r h)) j = (if j = r then !opb (hop h) r else opb (hop h) j) := by
  obtain ⟨w, hw, e⟩ := i.2.2.2.2.2.2
  obtain ⟨g1, g2⟩ := turn_all w hw r hr
  have e2 : hop (Hturn r h) = nI (w ^^^ (1 <<< r)) := by
    show hop h ^^^ bit r = _
    rw [e, g1]
  refine ⟨_, g2, e2, fun j hj => ?_⟩
  rw [e2, e]
  exact turn_bits w hw r hr j hj
theorem inv_turn {h : HSt} (i : Inv h) {r : Nat} (hr : r < 8) : Inv (Hturn r h) := by
  obtain ⟨w, hw, e, -⟩ := turn_hop i hr
  exact ⟨i.1, i.2.1, i.2.2.1, i.2.2.2.1, i.2.2.2.2.1, i.2.2.2.2.2.1, ⟨w, hw, e⟩⟩
theorem rel_turn {h : HSt} {s : Nat → Int32} (r : RelS h s) (i : Inv h) {k : Nat} (hk : k < 8) {v : Int32} (hv : v = nI (if opb (hop h) k = true then 0 else 1)) : RelS (Hturn k h) (upd s (13 + k) v) := by
  obtain ⟨w, hw, e, hb⟩ := turn_hop i hk
  obtain ⟨r1, r2, r3, r4, r5, r6, r7, r8, r9, r10, r11⟩ := r
  refine ⟨fun j hj => ?_, fun j hj => ?_, fun j hj => ?_, ?_, ?_, ?_, ?_, ?_, ?_, ?_, fun j hj => ?_⟩
  · rw [pk_un (by omega)]; exact r1 j hj
  · rw [pk_un (by omega)]; exact r2 j hj
  · rw [pk_un (by omega)]; exact r3 j hj
  · rw [pk_un (by omega)]; exact r4
  · rw [pk_un (by omega)]; exact r5
  · rw [pk_un (by omega)]; exact r6
  · rw [pk_un (by omega)]; exact r7
  · rw [pk_un (by omega)]; exact r8
  · rw [pk_un (by omega)]; exact r9
  · rw [pk_un (by omega)]; exact r10
  · rw [bI_opb, hb j hj]
    by_cases c : j = k
    · subst c
      rw [pk_us, if_pos rfl, hv]
      cases opb (hop h) j <;> rfl
    · rw [pk_un (by omega), if_neg c, r11 j hj, bI_opb]
theorem one_sub (b : Bool) : nI 1 - nI (if b = true then 1 else 0) = nI (if b = true then 0 else 1) := by cases b <;> decide
theorem rel_turnE {h : HSt} {s : Nat → Int32} (r : RelS h s) (i : Inv h) {k : Nat} (hk : k < 8) : RelS (Hturn k h) (upd s (13 + k) (nI 1 - s (13 + k))) := by
  refine rel_turn r i hk ?_
  rw [r.2.2.2.2.2.2.2.2.2.2 k hk, bI_opb, one_sub]
/-! an event, done by both -/
theorem passQ_le (h : HSt) (n : Nat) : HpassQ h n ≤ n := by
  induction n with
  | zero => exact Nat.le_refl 0
  | succ n ih =>
    show (if hsn (Htk (HpassN h n)) < Htbq (Htk (HpassN h n)) then HpassQ h n else HpassQ h n + 1) ≤ n + 1
    split <;> omega
theorem cnb_le (P : Nat → Bool) (n : Nat) : cnb P n ≤ n := by
  induction n with
  | zero => exact Nat.le_refl 0
  | succ n ih =>
    show cnb P n + (if P n = true then 1 else 0) ≤ n + 1
    split <;> omega
theorem Hseat_L (k : Nat) (h : HSt) : hL (Hseat k h) k = hL h k + nI 1 := by
  unfold Hseat Hhear
  by_cases c : ¬ hL (sHL h (upd (hL h) k (hL h k + nI 1))) k ≤ 0
  · rw [if_pos c]; show upd (hL h) k (hL h k + nI 1) k = _; rw [pk_us]
  · rw [if_neg c]; show upd (hL h) k (hL h k + nI 1) k = _; rw [pk_us]
theorem sub48 {q a : Nat} (h : 48 ≤ q) : nI (q - 48) = nI a → q - 48 < 2 ^ 31 → a < 2 ^ 31 → q = a + 48 := fun e h1 h2 => by
  have := (nI_eq h1 h2).mp e
  omega
theorem ev_step {bf sg : Nat → Int32} {n p e j : Nat} {rd s : Nat → Int32} {h : HSt} (r : RelS h s) (i : Inv h) (hb : Hbo h) (hT : ∀ k, k < n → Tq sg n k = Bq bf n k) (E : evAt bf n p e rd j) (h59 : Tq sg n e = 59) : (UdoB sg n p h ↔ MevN rd (3 * j) s ≠ 0) ∧ RelS (Udo sg n p h) (Mev rd (3 * j) s) ∧ Inv (Udo sg n p h) := by
  have n1 : ∀ a b : Nat, a < 200 → b < 200 → a ≠ b → ¬ nI a = nI b := fun a b ha hb hab z => hab ((nI_eq (by omega) (by omega)).mp z)
  obtain ⟨hn, e0, H⟩ := E
  rcases H with ⟨hq, rfl, d1, d2, e1, e2⟩ | ⟨hq, rfl, d1, e1⟩ | ⟨hq, rfl, d1, e1⟩ | ⟨hq, rfl, d1, hs, e1⟩ | ⟨hq, rfl, d1, hs, e1⟩
  · have t0 : Tq sg n p = Bq bf n p := hT p (by omega)
    have t1 : Tq sg n (p + 1) = Bq bf n (p + 1) := hT _ (by omega)
    have t2 : Tq sg n (p + 2) = Bq bf n (p + 2) := hT _ (by omega)
    have hM : Mcl rd (3 * j) = pk2 sg n p := by
      rw [Mcl_eq (by omega) (by omega) e1 e2]
      unfold pk2
      rw [t1, t2]; omega
    have hk : pk2 sg n p < 48 := by unfold pk2; rw [t1, t2]; omega
    have eL : s (21 + pk2 sg n p) = hL h (pk2 sg n p) := r.1 _ hk
    obtain ⟨l, hl, el⟩ := i.1 _ hk
    have kL : ∀ b, (UdoB sg n p h ↔ ¬ hL h (pk2 sg n p) ≤ 0) → Udo sg n p h = (if ¬ hL h (pk2 sg n p) ≤ 0 then Hunseat (pk2 sg n p) b h else h) → MevN rd (3 * j) s = MevLB (pk2 sg n p) b s → Mev rd (3 * j) s = MevL (pk2 sg n p) b s → (UdoB sg n p h ↔ MevN rd (3 * j) s ≠ 0) ∧ RelS (Udo sg n p h) (Mev rd (3 * j) s) ∧ Inv (Udo sg n p h) := by
      intro b u1 u2 u3 u4
      rw [u1, u2, u3, u4]
      unfold MevLB MevL
      rw [eL]
      by_cases c : hL h (pk2 sg n p) ≤ 0
      · rw [if_neg (not_not_intro c), if_pos c, if_pos c]
        exact ⟨⟨fun z => absurd c z, fun z => absurd rfl z⟩, r, i⟩
      · rw [if_pos c, if_neg c, if_neg c]
        have R2 := rel_unseat r i hb b hk c
        have I2 := inv_unseat i b hk c
        obtain ⟨l2, hl2, el2⟩ := I2.1 _ hk
        have e9 : ¬ Mleaves (pk2 sg n p) b s (21 + pk2 sg n p) < 0 := by
          rw [R2.1 _ hk, el2]; exact nI_pos (by omega)
        rw [if_neg e9]
        exact ⟨⟨fun _ => by decide, fun _ => c⟩, R2, I2⟩
    rcases hq with hq | hq | hq
    · have u1 := UdoB_c (sg := sg) (n := n) (k := p) (h := h) (t0.trans hq)
      have e0' : rd (3 * j) = nI 99 := by rw [e0, hq]
      have u2 : Udo sg n p h = if ¬ nI 9 ≤ hL h (pk2 sg n p) then Hseat (pk2 sg n p) h else h := by unfold Udo; rw [if_pos (t0.trans hq)]
      have u3 : MevN rd (3 * j) s = MevCB (pk2 sg n p) s := by unfold MevN; rw [if_pos e0', hM]
      have u4 : Mev rd (3 * j) s = MevC (pk2 sg n p) s := by unfold Mev; rw [if_pos e0', hM]
      rw [u1, u2, u3, u4]
      unfold MevCB MevC
      rw [eL]
      by_cases c : nI 9 ≤ hL h (pk2 sg n p)
      · rw [if_neg (not_not_intro c), if_pos c, if_pos c]
        exact ⟨⟨fun z => absurd c z, fun z => absurd rfl z⟩, r, i⟩
      · rw [if_pos c, if_neg c, if_neg c]
        have R2 := rel_seat r i hk
        have e9 : ¬ Mcomes (pk2 sg n p) s (21 + pk2 sg n p) ≤ 0 := by
          rw [R2.1 _ hk, Hseat_L, el, nI_add]
          exact fun z => absurd ((le0 (by omega)).mp z) (by omega)
        rw [if_neg e9]
        exact ⟨⟨fun _ => by decide, fun _ => c⟩, R2, inv_seat i hk c⟩
    · have q1 : Tq sg n p = 108 := t0.trans hq
      have e0' : rd (3 * j) = nI 108 := by rw [e0, hq]
      have g1 : ¬ rd (3 * j) = nI 99 := by rw [e0']; exact n1 _ _ (by decide) (by decide) (by decide)
      refine kL 1 (UdoB_l q1) ?_ ?_ ?_
      · unfold Udo; rw [if_neg (by rw [q1]; decide), if_pos q1]
      · unfold MevN; rw [if_neg g1, if_pos e0', hM]
      · unfold Mev; rw [if_neg g1, if_pos e0', hM]
    · have q1 : Tq sg n p = 115 := t0.trans hq
      have e0' : rd (3 * j) = nI 115 := by rw [e0, hq]
      have g1 : ¬ rd (3 * j) = nI 99 := by rw [e0']; exact n1 _ _ (by decide) (by decide) (by decide)
      have g2 : ¬ rd (3 * j) = nI 108 := by rw [e0']; exact n1 _ _ (by decide) (by decide) (by decide)
      refine kL 0 (UdoB_s q1) ?_ ?_ ?_
      · unfold Udo; rw [if_neg (by rw [q1]; decide), if_neg (by rw [q1]; decide), if_pos q1]
      · unfold MevN; rw [if_neg g1, if_neg g2, if_pos e0', hM]
      · unfold Mev; rw [if_neg g1, if_neg g2, if_pos e0', hM]
  · have q1 : Tq sg n p = 112 := (hT p (by omega)).trans hq
    have t1 : Tq sg n (p + 1) = Bq bf n (p + 1) := hT _ (by omega)
    have e0' : rd (3 * j) = nI 112 := by rw [e0, hq]
    have g1 : ¬ rd (3 * j) = nI 99 := by rw [e0']; exact n1 _ _ (by decide) (by decide) (by decide)
    have g2 : ¬ rd (3 * j) = nI 108 := by rw [e0']; exact n1 _ _ (by decide) (by decide) (by decide)
    have g3 : ¬ rd (3 * j) = nI 115 := by rw [e0']; exact n1 _ _ (by decide) (by decide) (by decide)
    have hc : (rd (3 * j + 1)).toNatClampNeg = Bq bf n (p + 1) - 48 := by rw [e1, nI_clamp (by omega)]
    have hc6 : Bq bf n (p + 1) - 48 < 6 := by omega
    have u2 : Udo sg n p h = Hperf (Bq bf n (p + 1) - 48) h := by
      unfold Udo
      rw [if_neg (by rw [q1]; decide), if_neg (by rw [q1]; decide), if_neg (by rw [q1]; decide), if_pos q1, t1]
    have u4 : Mev rd (3 * j) s = MplayN s (Bq bf n (p + 1) - 48) 8 := by unfold Mev; rw [if_neg g1, if_neg g2, if_neg g3, if_pos e0', hc]
    have u3 : MevN rd (3 * j) s = 1 := by
      unfold MevN
      rw [if_neg g1, if_neg g2, if_neg g3, if_pos e0', hc, (play_st r hc6 8 (Nat.le_refl 8)).2.2.2]
      exact if_neg (nI_pos (Nat.lt_of_le_of_lt (cnb_le _ 8) (by decide)))
    rw [u2, u3, u4]
    exact ⟨⟨fun _ => by decide, fun _ => UdoB_o (by rw [q1]; decide) (by rw [q1]; decide) (by rw [q1]; decide)⟩, rel_play r i hc6, inv_play i _⟩
  · have q1 : Tq sg n p = 111 := (hT p (by omega)).trans hq
    have t1 : Tq sg n (p + 1) = Bq bf n (p + 1) := hT _ (by omega)
    have e0' : rd (3 * j) = nI 111 := by rw [e0, hq]
    have g1 : ¬ rd (3 * j) = nI 99 := by rw [e0']; exact n1 _ _ (by decide) (by decide) (by decide)
    have g2 : ¬ rd (3 * j) = nI 108 := by rw [e0']; exact n1 _ _ (by decide) (by decide) (by decide)
    have g3 : ¬ rd (3 * j) = nI 115 := by rw [e0']; exact n1 _ _ (by decide) (by decide) (by decide)
    have g4 : ¬ rd (3 * j) = nI 112 := by rw [e0']; exact n1 _ _ (by decide) (by decide) (by decide)
    have g5 : ¬ rd (3 * j) = nI 116 := by rw [e0']; exact n1 _ _ (by decide) (by decide) (by decide)
    have hc : (rd (3 * j + 1)).toNatClampNeg = Bq bf n (p + 1) - 48 := by rw [e1, nI_clamp (by omega)]
    have hc8 : Bq bf n (p + 1) - 48 < 8 := by omega
    have u2 : Udo sg n p h = Hturn (Bq bf n (p + 1) - 48) h := by
      unfold Udo
      rw [if_neg (by rw [q1]; decide), if_neg (by rw [q1]; decide), if_neg (by rw [q1]; decide), if_neg (by rw [q1]; decide), if_neg (by rw [q1]; decide), t1]
    have u4 : Mev rd (3 * j) s = upd s (13 + (Bq bf n (p + 1) - 48)) (nI 1 - s (13 + (Bq bf n (p + 1) - 48))) := by unfold Mev; rw [if_neg g1, if_neg g2, if_neg g3, if_neg g4, if_neg g5, hc]
    have u3 : MevN rd (3 * j) s = 1 := by unfold MevN; rw [if_neg g1, if_neg g2, if_neg g3, if_neg g4, if_neg g5]
    rw [u2, u3, u4]
    exact ⟨⟨fun _ => by decide, fun _ => UdoB_o (by rw [q1]; decide) (by rw [q1]; decide) (by rw [q1]; decide)⟩, rel_turnE r i hc8, inv_turn i hc8⟩
  all_goals
    have q1 : Tq sg n p = 116 := (hT p (by omega)).trans hq
    have t1 : Tq sg n (p + 1) = Bq bf n (p + 1) := hT _ (by omega)
    have e0' : rd (3 * j) = nI 116 := by rw [e0, hq]
    have g1 : ¬ rd (3 * j) = nI 99 := by rw [e0']; exact n1 _ _ (by decide) (by decide) (by decide)
    have g2 : ¬ rd (3 * j) = nI 108 := by rw [e0']; exact n1 _ _ (by decide) (by decide) (by decide)
    have g3 : ¬ rd (3 * j) = nI 115 := by rw [e0']; exact n1 _ _ (by decide) (by decide) (by decide)
    have g4 : ¬ rd (3 * j) = nI 112 := by rw [e0']; exact n1 _ _ (by decide) (by decide) (by decide)
    have e48 : nI (Bq bf n (p + 1)) - nI 48 = nI (Bq bf n (p + 1) - 48) := pk_sub (by omega)
    have hN : Tnum sg n (p + 1) = rd (3 * j + 1) ∧ ∃ N : Nat, N ≤ 60 ∧ rd (3 * j + 1) = nI N := by
      unfold Tnum
      first
      | (have t2 : Tq sg n (p + 1 + 1) = Bq bf n (p + 2) := hT _ (by omega)
         have hs2 := Classical.not_not.mp hs
         rw [t2, if_pos (by omega), t1, e48, pk_sub hs2.1.1, pk_mul, nI_add, e1]
         exact ⟨rfl, _, hs2.2, rfl⟩)
      | (rw [if_neg (not_not_intro h59), t1, e48, e1]
         exact ⟨rfl, _, by omega, rfl⟩)
    obtain ⟨hN1, N, hN60, hN2⟩ := hN
    have hc : (rd (3 * j + 1)).toNatClampNeg = N := by rw [hN2, nI_clamp (by omega)]
    have u2 : Udo sg n p h = HpassN h N := by
      unfold Udo
      rw [if_neg (by rw [q1]; decide), if_neg (by rw [q1]; decide), if_neg (by rw [q1]; decide), if_neg (by rw [q1]; decide), if_pos q1, hN1, hc]
    have u4 : Mev rd (3 * j) s = MgoN s N := by unfold Mev; rw [if_neg g1, if_neg g2, if_neg g3, if_neg g4, if_pos e0', hc]
    have u3 : MevN rd (3 * j) s = 1 := by
      unfold MevN
      rw [if_neg g1, if_neg g2, if_neg g3, if_neg g4, if_pos e0', hc, pass_q r]
      exact if_neg (nI_pos (Nat.lt_of_le_of_lt (passQ_le h N) (by omega)))
    rw [u2, u3, u4]
    exact ⟨⟨fun _ => by decide, fun _ => UdoB_o (by rw [q1]; decide) (by rw [q1]; decide) (by rw [q1]; decide)⟩, rel_pass r N, inv_pass i N⟩
/-! all events of a text -/
theorem ev_no59 {bf sg : Nat → Int32} {n p e j : Nat} {rd : Nat → Int32} (hT : ∀ k, k < n → Tq sg n k = Bq bf n k) (E : evAt bf n p e rd j) : p < e ∧ e ≤ n ∧ ∀ k, p ≤ k → k < e → Tq sg n k ≠ 59 := by
  obtain ⟨hn, -, H⟩ := E
  rcases H with ⟨hq, rfl, d1, d2, -⟩ | ⟨hq, rfl, d1, -⟩ | ⟨hq, rfl, d1, -⟩ | ⟨hq, rfl, d1, hs, -⟩ | ⟨hq, rfl, d1, hs, -⟩
  · refine ⟨by omega, hn, fun k h1 h2 => ?_⟩
    rw [hT k (by omega)]
    rcases (by omega : k = p ∨ k = p + 1 ∨ k = p + 2) with rfl | rfl | rfl <;> omega
  · refine ⟨by omega, hn, fun k h1 h2 => ?_⟩
    rw [hT k (by omega)]
    rcases (by omega : k = p ∨ k = p + 1) with rfl | rfl <;> omega
  · refine ⟨by omega, hn, fun k h1 h2 => ?_⟩
    rw [hT k (by omega)]
    rcases (by omega : k = p ∨ k = p + 1) with rfl | rfl <;> omega
  · refine ⟨by omega, hn, fun k h1 h2 => ?_⟩
    rw [hT k (by omega)]
    rcases (by omega : k = p ∨ k = p + 1) with rfl | rfl <;> omega
  · have hs2 := Classical.not_not.mp hs
    refine ⟨by omega, hn, fun k h1 h2 => ?_⟩
    rw [hT k (by omega)]
    rcases (by omega : k = p ∨ k = p + 1 ∨ k = p + 2) with rfl | rfl | rfl <;> omega
theorem Ufin_skip {sg : Nat → Int32} {n b : Nat} (hb : b ≤ n) : ∀ m a (h : HSt) (d : Nat), a + m = b → (∀ k, a ≤ k → k < b → ¬ (k = 0 ∨ Tq sg n (k - 1) = 59)) → Ufin sg n a (n - a) h d = Ufin sg n b (n - b) h d := by
  intro m
  induction m with
  | zero => intro a h d e _; rw [show a = b by omega]
  | succ m ih =>
    intro a h d e hk
    rw [Ufin_go (by omega), if_neg (hk a (Nat.le_refl a) (by omega))]
    exact ih (a + 1) h d (by omega) (fun k h1 h2 => hk k (by omega) h2)
theorem rS_evs {bf sg : Nat → Int32} {n : Nat} (hbf : Tok bf n) (hT : ∀ k, k < n → Tq sg n k = Bq bf n k) (rd : Nat → Int32) : ∀ J, (∀ j, j < J → rGo n (rS bf n rd j)) → (rS bf n rd J).2.1 ≠ 0 → (∀ i, i ≤ J → evAt bf n (Pp bf n rd i) (rS bf n rd i).1 (rS bf n rd J).2.2.2 i) ∧ (∀ i, i < J → Bq bf n (rS bf n rd i).1 = 59) ∧ (rS bf n rd J).2.2.1 = J + 1 := by
  intro J
  induction J with
  | zero =>
    intro hg hw
    obtain ⟨e, -, -⟩ := (rS_dfa hbf hT rd 0 hg).1 hw
    have W := rEv_well hbf (a := Pp bf n rd 0) (r := 0) (rd := Pd bf n rd 0) (by rw [← e]; exact hw)
    rw [← e] at W
    refine ⟨fun i hi => ?_, fun i hi => absurd hi (Nat.not_lt_zero i), W.2.1⟩
    obtain rfl : i = 0 := by omega
    exact W.1
  | succ J ih =>
    intro hg hw
    have hgJ := hg J (Nat.lt_succ_self J)
    obtain ⟨i1, i2, i3⟩ := ih (fun j hj => hg j (by omega)) hgJ.1
    obtain ⟨e, -, -⟩ := (rS_dfa hbf hT rd (J + 1) hg).1 hw
    have W := rEv_well hbf (a := Pp bf n rd (J + 1)) (r := J + 1) (rd := Pd bf n rd (J + 1)) (by rw [← e]; exact hw)
    rw [← e] at W
    obtain ⟨W1, W2, W3⟩ := W
    have c59 : Bq bf n (rS bf n rd J).1 = 59 := by
      by_cases c : Bq bf n (rS bf n rd J).1 = 59
      · exact c
      · have es : rS bf n rd (J + 1) = if Bq bf n (rS bf n rd J).1 = 59 then rEv bf n ((rS bf n rd J).1 + 1) (rS bf n rd J).2.2.1 (rS bf n rd J).2.2.2 else ((rS bf n rd J).1, 0, (rS bf n rd J).2.2.1, (rS bf n rd J).2.2.2) := rfl
        rw [if_neg c] at es
        rw [es] at hw
        exact absurd rfl hw
    refine ⟨fun i hi => ?_, fun i hi => ?_, W2⟩
    · by_cases c : i = J + 1
      · subst c; exact W1
      · refine evAt_congr ?_ ?_ ?_ (i1 i (by omega))
        · exact W3 _ (by omega)
        · exact W3 _ (by omega)
        · exact W3 _ (by omega)
    · by_cases c : i = J
      · subst c; exact c59
      · exact i2 i (by omega)
/-- the reference's state behind the events from i on, m of them left -/
def MrunF (rd s : Nat → Int32) (r i m : Nat) : Nat → Int32 := if MrunE rd s r i m < r then MrunN rd s (MrunE rd s r i m + 1) else MrunN rd s (MrunE rd s r i m)
theorem run_all {bf sg : Nat → Int32} {n : Nat} (hT : ∀ k, k < n → Tq sg n k = Bq bf n k) {rd rdF s0 : Nat → Int32} {J : Nat} (hE : ∀ i, i ≤ J → evAt bf n (Pp bf n rd i) (rS bf n rd i).1 rdF i) (h59 : ∀ i, i < J → Bq bf n (rS bf n rd i).1 = 59) (hlt : ∀ i, i < J → (rS bf n rd i).1 < n) (hend : (rS bf n rd J).1 = n) : ∀ m i h, i + m = J + 1 → RelS h (MrunN rdF s0 i) → Inv h → Hbo h → ∀ q, q = (if i ≤ J then Pp bf n rd i else n) → (Ufin sg n q (n - q) h i).2 = MrunE rdF s0 (J + 1) i m ∧ RelS (Ufin sg n q (n - q) h i).1 (MrunF rdF s0 (J + 1) i m) ∧ Inv (Ufin sg n q (n - q) h i).1 ∧ Hbo (Ufin sg n q (n - q) h i).1 := by
  intro m
  induction m with
  | zero =>
    intro i h hi r iv hb q hq
    rw [if_neg (by omega)] at hq
    subst hq
    rw [Nat.sub_self]
    refine ⟨rfl, ?_, iv, hb⟩
    show RelS h (if i < J + 1 then MrunN rdF s0 (i + 1) else MrunN rdF s0 i)
    rw [if_neg (by omega)]; exact r
  | succ m ih =>
    intro i h hi r iv hb q hq
    have hiJ : i ≤ J := by omega
    rw [if_pos hiJ] at hq
    have E := hE i hiJ
    obtain ⟨z1, z2, z3⟩ := ev_no59 hT E
    have hq59 : Tq sg n (rS bf n rd i).1 = 59 := by
      by_cases c : i = J
      · subst c; rw [hend]; exact if_pos (Nat.le_refl n)
      · rw [hT _ (hlt i (by omega))]; exact h59 i (by omega)
    have hst : q = 0 ∨ Tq sg n (q - 1) = 59 := by
      rw [hq]
      cases i with
      | zero => exact Or.inl rfl
      | succ i =>
        refine Or.inr ?_
        show Tq sg n ((rS bf n rd i).1 + 1 - 1) = 59
        rw [Nat.add_sub_cancel, hT _ (hlt i (by omega))]
        exact h59 i (by omega)
    obtain ⟨s1, s2, s3⟩ := ev_step r iv hb hT E hq59
    rw [← hq] at s1 s2 s3 z1 z3
    have s4 := Hbo_sm hb (Udo_sm sg n q h)
    have eE : MrunE rdF s0 (J + 1) i (m + 1) = if MevN rdF (3 * i) (MrunN rdF s0 i) = 0 then i else MrunE rdF s0 (J + 1) (i + 1) m := rfl
    rw [Ufin_go (by omega), if_pos hst]
    by_cases c : UdoB sg n q h
    · have c2 := s1.mp c
      rw [if_neg c2] at eE
      rw [if_pos c]
      have nxt := ih (i + 1) (Udo sg n q h) (by omega) s2 s3 s4 _ rfl
      have eF : MrunF rdF s0 (J + 1) i (m + 1) = MrunF rdF s0 (J + 1) (i + 1) m := by unfold MrunF; rw [eE]
      rw [eE, eF]
      have skip : Ufin sg n (q + 1) (n - (q + 1)) (Udo sg n q h) (i + 1) = Ufin sg n (if i + 1 ≤ J then Pp bf n rd (i + 1) else n) (n - (if i + 1 ≤ J then Pp bf n rd (i + 1) else n)) (Udo sg n q h) (i + 1) := by
        by_cases d : i + 1 ≤ J
        · rw [if_pos d]
          have hl := hlt i (by omega)
          refine Ufin_skip (b := (rS bf n rd i).1 + 1) hl ((rS bf n rd i).1 + 1 - (q + 1)) (q + 1) _ _ (by omega) (fun k h1 h2 z => ?_)
          rcases z with z | z
          · omega
          · exact z3 (k - 1) (by omega) (by omega) z
        · rw [if_neg d]
          have hJ : i = J := by omega
          rw [hJ, hend] at z1 z3
          refine Ufin_skip (b := n) (Nat.le_refl n) (n - (q + 1)) (q + 1) _ _ (by omega) (fun k h1 h2 z => ?_)
          rcases z with z | z
          · omega
          · exact z3 (k - 1) (by omega) (by omega) z
      rw [skip]
      exact nxt
    · have c2 : MevN rdF (3 * i) (MrunN rdF s0 i) = 0 := Classical.not_not.mp (fun z => c (s1.mpr z))
      rw [if_pos c2] at eE
      rw [if_neg c, eE]
      have eF : MrunF rdF s0 (J + 1) i (m + 1) = Mev rdF (3 * i) (MrunN rdF s0 i) := by
        unfold MrunF
        rw [eE, if_pos (by omega)]; rfl
      rw [eF]
      rw [Udo_id c] at s2
      exact ⟨rfl, s2, iv, hb⟩
theorem run_eq {bf sg : Nat → Int32} {n : Nat} (hn : n ≤ 60) (hbf : Tok bf n) (hT : ∀ k, k < n → Tq sg n k = Bq bf n k) (rd : Nat → Int32) (hD : Tdone sg n) {h : HSt} {s : Nat → Int32} (r : RelS h s) (i : Inv h) (hb : Hbo h) : (Ufin sg n 0 n h 0).2 = MrunE (rFin bf n rd).2.2.2 s (rFin bf n rd).2.2.1 0 (rFin bf n rd).2.2.1 ∧ RelS (Ufin sg n 0 n h 0).1 (MrunS (rFin bf n rd).2.2.2 s (rFin bf n rd).2.2.1) ∧ Inv (Ufin sg n 0 n h 0).1 ∧ Hbo (Ufin sg n 0 n h 0).1 := by
  have hw := (reads_eq hn hbf hT rd).1.mpr hD
  obtain ⟨J, eJ, hg, hs, hle⟩ := rd_stop hn hbf rd
  rw [eJ] at hw ⊢
  obtain ⟨g1, g2, g3⟩ := rS_evs hbf hT rd J hg hw
  have en : (rS bf n rd J).1 = n := by
    rcases Nat.lt_or_ge (rS bf n rd J).1 n with y | y
    · exact absurd ⟨hw, y⟩ hs
    · omega
  rw [g3]
  exact run_all (rd := rd) hT g1 g2 (fun j hj => (hg j hj).2) en (J + 1) 0 h (by omega) r i hb 0 (by rw [if_pos (Nat.zero_le J)]; rfl)
