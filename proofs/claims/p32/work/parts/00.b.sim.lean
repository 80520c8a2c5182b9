/-! the class's state beside the reference's -/
def mask (h : HSt) : Int32 := if hf2 h = 0 then (if hf1 h = 0 then nI 0 else nI 2) else (if hf1 h = 0 then nI 4 else nI 6)
def RelS (h : HSt) (s : Nat → Int32) : Prop :=
  (∀ k, k < 48 → s (21 + k) = hL h k) ∧ (∀ k, k < 48 → s (69 + k) = hR h k) ∧ (∀ c, c < 6 → s (7 + c) = hC h c) ∧ s 0 = hfd h ∧ s 1 = hpt h ∧ s 2 = has h ∧ s 3 = hqk h ∧ s 4 = mask h ∧ s 5 = hmn h ∧ s 6 = hsn h ∧ (∀ r, r < 8 → s (13 + r) = bI (Hopen h r))
theorem pk_add {f : Nat → Int32} {b k j : Nat} {v : Int32} : upd f (b + k) v (b + j) = upd (fun x => f (b + x)) k v j := by
  by_cases e : j = k
  · subst e; rw [pk_us, pk_us]
  · rw [pk_un (by omega), pk_un e]
theorem upd_congr {f g : Nat → Int32} {k j n : Nat} {v : Int32} (h : ∀ j, j < n → f j = g j) (hj : j < n) : upd f k v j = upd g k v j := by
  by_cases e : j = k
  · subst e; rw [pk_us, pk_us]
  · rw [pk_un e, pk_un e]; exact h j hj
theorem rel_L {h : HSt} {s : Nat → Int32} (r : RelS h s) {k : Nat} (v : Int32) (hk : k < 48) : RelS (sHL h (upd (hL h) k v)) (upd s (21 + k) v) := by
  obtain ⟨r1, r2, r3, r4, r5, r6, r7, r8, r9, r10, r11⟩ := r
  refine ⟨fun j hj => ?_, fun j hj => ?_, fun j hj => ?_, ?_, ?_, ?_, ?_, ?_, ?_, ?_, fun j hj => ?_⟩
  · rw [pk_add]; exact upd_congr r1 hj
  · rw [pk_un (by omega)]; exact r2 j hj
  · rw [pk_un (by omega)]; exact r3 j hj
  · rw [pk_un (by omega)]; exact r4
  · rw [pk_un (by omega)]; exact r5
  · rw [pk_un (by omega)]; exact r6
  · rw [pk_un (by omega)]; exact r7
  · rw [pk_un (by omega)]; exact r8
  · rw [pk_un (by omega)]; exact r9
  · rw [pk_un (by omega)]; exact r10
  · rw [pk_un (by omega)]; exact r11 j hj
theorem rel_R {h : HSt} {s : Nat → Int32} (r : RelS h s) {k : Nat} (v : Int32) (hk : k < 48) : RelS (sHR h (upd (hR h) k v)) (upd s (69 + k) v) := by
  obtain ⟨r1, r2, r3, r4, r5, r6, r7, r8, r9, r10, r11⟩ := r
  refine ⟨fun j hj => ?_, fun j hj => ?_, fun j hj => ?_, ?_, ?_, ?_, ?_, ?_, ?_, ?_, fun j hj => ?_⟩
  · rw [pk_un (by omega)]; exact r1 j hj
  · rw [pk_add]; exact upd_congr r2 hj
  · rw [pk_un (by omega)]; exact r3 j hj
  · rw [pk_un (by omega)]; exact r4
  · rw [pk_un (by omega)]; exact r5
  · rw [pk_un (by omega)]; exact r6
  · rw [pk_un (by omega)]; exact r7
  · rw [pk_un (by omega)]; exact r8
  · rw [pk_un (by omega)]; exact r9
  · rw [pk_un (by omega)]; exact r10
  · rw [pk_un (by omega)]; exact r11 j hj
theorem rel_C {h : HSt} {s : Nat → Int32} (r : RelS h s) {k : Nat} (v : Int32) (hk : k < 6) : RelS (sHC h (upd (hC h) k v)) (upd s (7 + k) v) := by
  obtain ⟨r1, r2, r3, r4, r5, r6, r7, r8, r9, r10, r11⟩ := r
  refine ⟨fun j hj => ?_, fun j hj => ?_, fun j hj => ?_, ?_, ?_, ?_, ?_, ?_, ?_, ?_, fun j hj => ?_⟩
  · rw [pk_un (by omega)]; exact r1 j hj
  · rw [pk_un (by omega)]; exact r2 j hj
  · rw [pk_add]; exact upd_congr r3 hj
  · rw [pk_un (by omega)]; exact r4
  · rw [pk_un (by omega)]; exact r5
  · rw [pk_un (by omega)]; exact r6
  · rw [pk_un (by omega)]; exact r7
  · rw [pk_un (by omega)]; exact r8
  · rw [pk_un (by omega)]; exact r9
  · rw [pk_un (by omega)]; exact r10
  · rw [pk_un (by omega)]; exact r11 j hj
theorem rel_fd {h : HSt} {s : Nat → Int32} (r : RelS h s) (v : Int32) : RelS (sHfd h v) (upd s 0 v) := by
  obtain ⟨r1, r2, r3, r4, r5, r6, r7, r8, r9, r10, r11⟩ := r
  refine ⟨fun j hj => ?_, fun j hj => ?_, fun j hj => ?_, ?_, ?_, ?_, ?_, ?_, ?_, ?_, fun j hj => ?_⟩
  · rw [pk_un (by omega)]; exact r1 j hj
  · rw [pk_un (by omega)]; exact r2 j hj
  · rw [pk_un (by omega)]; exact r3 j hj
  · exact pk_us
  · rw [pk_un (by decide)]; exact r5
  · rw [pk_un (by decide)]; exact r6
  · rw [pk_un (by decide)]; exact r7
  · rw [pk_un (by decide)]; exact r8
  · rw [pk_un (by decide)]; exact r9
  · rw [pk_un (by decide)]; exact r10
  · rw [pk_un (by omega)]; exact r11 j hj
theorem rel_pt {h : HSt} {s : Nat → Int32} (r : RelS h s) (v : Int32) : RelS (sHpt h v) (upd s 1 v) := by
  obtain ⟨r1, r2, r3, r4, r5, r6, r7, r8, r9, r10, r11⟩ := r
  refine ⟨fun j hj => ?_, fun j hj => ?_, fun j hj => ?_, ?_, ?_, ?_, ?_, ?_, ?_, ?_, fun j hj => ?_⟩
  · rw [pk_un (by omega)]; exact r1 j hj
  · rw [pk_un (by omega)]; exact r2 j hj
  · rw [pk_un (by omega)]; exact r3 j hj
  · rw [pk_un (by decide)]; exact r4
  · exact pk_us
  · rw [pk_un (by decide)]; exact r6
  · rw [pk_un (by decide)]; exact r7
  · rw [pk_un (by decide)]; exact r8
  · rw [pk_un (by decide)]; exact r9
  · rw [pk_un (by decide)]; exact r10
  · rw [pk_un (by omega)]; exact r11 j hj
theorem rel_as {h : HSt} {s : Nat → Int32} (r : RelS h s) (v : Int32) : RelS (sHas h v) (upd s 2 v) := by
  obtain ⟨r1, r2, r3, r4, r5, r6, r7, r8, r9, r10, r11⟩ := r
  refine ⟨fun j hj => ?_, fun j hj => ?_, fun j hj => ?_, ?_, ?_, ?_, ?_, ?_, ?_, ?_, fun j hj => ?_⟩
  · rw [pk_un (by omega)]; exact r1 j hj
  · rw [pk_un (by omega)]; exact r2 j hj
  · rw [pk_un (by omega)]; exact r3 j hj
  · rw [pk_un (by decide)]; exact r4
  · rw [pk_un (by decide)]; exact r5
  · exact pk_us
  · rw [pk_un (by decide)]; exact r7
  · rw [pk_un (by decide)]; exact r8
  · rw [pk_un (by decide)]; exact r9
  · rw [pk_un (by decide)]; exact r10
  · rw [pk_un (by omega)]; exact r11 j hj
theorem rel_qk {h : HSt} {s : Nat → Int32} (r : RelS h s) (v : Int32) : RelS (sHqk h v) (upd s 3 v) := by
  obtain ⟨r1, r2, r3, r4, r5, r6, r7, r8, r9, r10, r11⟩ := r
  refine ⟨fun j hj => ?_, fun j hj => ?_, fun j hj => ?_, ?_, ?_, ?_, ?_, ?_, ?_, ?_, fun j hj => ?_⟩
  · rw [pk_un (by omega)]; exact r1 j hj
  · rw [pk_un (by omega)]; exact r2 j hj
  · rw [pk_un (by omega)]; exact r3 j hj
  · rw [pk_un (by decide)]; exact r4
  · rw [pk_un (by decide)]; exact r5
  · rw [pk_un (by decide)]; exact r6
  · exact pk_us
  · rw [pk_un (by decide)]; exact r8
  · rw [pk_un (by decide)]; exact r9
  · rw [pk_un (by decide)]; exact r10
  · rw [pk_un (by omega)]; exact r11 j hj
theorem rel_mn {h : HSt} {s : Nat → Int32} (r : RelS h s) (v : Int32) : RelS (sHmn h v) (upd s 5 v) := by
  obtain ⟨r1, r2, r3, r4, r5, r6, r7, r8, r9, r10, r11⟩ := r
  refine ⟨fun j hj => ?_, fun j hj => ?_, fun j hj => ?_, ?_, ?_, ?_, ?_, ?_, ?_, ?_, fun j hj => ?_⟩
  · rw [pk_un (by omega)]; exact r1 j hj
  · rw [pk_un (by omega)]; exact r2 j hj
  · rw [pk_un (by omega)]; exact r3 j hj
  · rw [pk_un (by decide)]; exact r4
  · rw [pk_un (by decide)]; exact r5
  · rw [pk_un (by decide)]; exact r6
  · rw [pk_un (by decide)]; exact r7
  · rw [pk_un (by decide)]; exact r8
  · exact pk_us
  · rw [pk_un (by decide)]; exact r10
  · rw [pk_un (by omega)]; exact r11 j hj
theorem rel_sn {h : HSt} {s : Nat → Int32} (r : RelS h s) (v : Int32) : RelS (sHsn h v) (upd s 6 v) := by
  obtain ⟨r1, r2, r3, r4, r5, r6, r7, r8, r9, r10, r11⟩ := r
  refine ⟨fun j hj => ?_, fun j hj => ?_, fun j hj => ?_, ?_, ?_, ?_, ?_, ?_, ?_, ?_, fun j hj => ?_⟩
  · rw [pk_un (by omega)]; exact r1 j hj
  · rw [pk_un (by omega)]; exact r2 j hj
  · rw [pk_un (by omega)]; exact r3 j hj
  · rw [pk_un (by decide)]; exact r4
  · rw [pk_un (by decide)]; exact r5
  · rw [pk_un (by decide)]; exact r6
  · rw [pk_un (by decide)]; exact r7
  · rw [pk_un (by decide)]; exact r8
  · rw [pk_un (by decide)]; exact r9
  · exact pk_us
  · rw [pk_un (by omega)]; exact r11 j hj
theorem upd_id {f : Nat → Int32} {k : Nat} {x : Int32} (h : f k = x) : upd f k x = f := funext fun j => by
  by_cases e : j = k
  · subst e; rw [pk_us, h]
  · rw [pk_un e]
theorem nz : nI 0 = 0 := rfl
theorem le0 {l : Nat} (hl : l < 2 ^ 31) : nI l ≤ 0 ↔ l = 0 := by
  rw [← nz, nI_leI hl (by decide)]; omega
/-- the bounds that every state keeps -/
def Inv (h : HSt) : Prop :=
  (∀ k, k < 48 → ∃ l : Nat, l ≤ 9 ∧ hL h k = nI l) ∧ (∀ k, k < 48 → ∃ l : Nat, l ≤ 60 ∧ hR h k = nI l) ∧ (∃ f : Nat, (2 ≤ f ∧ f ≤ 60) ∧ hfd h = nI f) ∧ (∃ p : Nat, (1 ≤ p ∧ p ≤ 10) ∧ hpt h = nI p) ∧ (∃ q : Nat, (1 ≤ q ∧ q ≤ 30) ∧ has h = nI q) ∧ (∃ t : Nat, t ≤ 59 ∧ hsn h = nI t) ∧ (∃ w : Nat, w < 256 ∧ hop h = nI w)
theorem upd_ex {f : Nat → Int32} {n b k l : Nat} (h : ∀ j, j < n → ∃ z : Nat, z ≤ b ∧ f j = nI z) (hl : l ≤ b) : ∀ j, j < n → ∃ z : Nat, z ≤ b ∧ upd f k (nI l) j = nI z := by
  intro j hj
  by_cases e : j = k
  · subst e; exact ⟨l, hl, pk_us⟩
  · rw [pk_un e]; exact h j hj
theorem inv_L {h : HSt} (i : Inv h) (k : Nat) {l : Nat} (hl : l ≤ 9) : Inv (sHL h (upd (hL h) k (nI l))) := ⟨upd_ex i.1 hl, i.2⟩
theorem inv_R {h : HSt} (i : Inv h) (k : Nat) {l : Nat} (hl : l ≤ 60) : Inv (sHR h (upd (hR h) k (nI l))) := ⟨i.1, upd_ex i.2.1 hl, i.2.2⟩
theorem inv_C {h : HSt} (i : Inv h) (F : Nat → Int32) : Inv (sHC h F) := i
theorem inv_mn {h : HSt} (i : Inv h) (v : Int32) : Inv (sHmn h v) := i
theorem inv_sn {h : HSt} (i : Inv h) {t : Nat} (ht : t ≤ 59) : Inv (sHsn h (nI t)) := ⟨i.1, i.2.1, i.2.2.1, i.2.2.2.1, i.2.2.2.2.1, ⟨t, ht, rfl⟩, i.2.2.2.2.2.2⟩
theorem inv_call {h : HSt} (i : Inv h) (k : Nat) : Inv (Hcall k h) := by
  obtain ⟨f, hf, e⟩ := i.2.2.1
  have h1 := inv_R i k (l := f) hf.2
  rw [← e] at h1
  exact inv_C h1 _
theorem rel_call {h : HSt} {s : Nat → Int32} (r : RelS h s) {k : Nat} (hk : k < 48) : RelS (Hcall k h) (Mcalls k s) := by
  have e0 : s 0 = hfd h := r.2.2.2.1
  have e5 : s 12 = hC h 5 := r.2.2.1 5 (by decide)
  have h2 := rel_C (rel_R r (hfd h) hk) (k := 5) (hC h 5 + nI 1) (by decide)
  have e : Mcalls k s = upd (upd s (69 + k) (hfd h)) 12 (hC h 5 + nI 1) := by
    unfold Mcalls
    rw [pk_un (by omega), e0, e5]
  rw [e]
  exact h2
theorem rel_askN {h : HSt} {s : Nat → Int32} (r : RelS h s) : ∀ n, n ≤ 48 → RelS (HaskN h n) (MaskN s n) := by
  intro n
  induction n with
  | zero => exact fun _ => r
  | succ n ih =>
    intro hn
    have ih := ih (by omega)
    have e : MaskN s n (21 + n) = hL (HaskN h n) n := ih.1 n hn
    show RelS (if ¬ hL (HaskN h n) n ≤ 0 then Hcall n (HaskN h n) else HaskN h n) (if MaskN s n (21 + n) ≤ 0 then MaskN s n else Mcalls n (MaskN s n))
    rw [e]
    by_cases c : hL (HaskN h n) n ≤ 0
    · rw [if_neg (not_not_intro c), if_pos c]; exact ih
    · rw [if_pos c, if_neg c]; exact rel_call ih hn
theorem inv_askN {h : HSt} (i : Inv h) (n : Nat) : Inv (HaskN h n) := by
  induction n with
  | zero => exact i
  | succ n ih =>
    show Inv (if ¬ hL (HaskN h n) n ≤ 0 then Hcall n (HaskN h n) else HaskN h n)
    by_cases c : hL (HaskN h n) n ≤ 0
    · rw [if_neg (not_not_intro c)]; exact ih
    · rw [if_pos c]; exact inv_call ih n
theorem rel_fadeN {h : HSt} {s : Nat → Int32} (r : RelS h s) : ∀ n, n ≤ 48 → RelS (sHR h (HfadeN (hR h) n)) (MfadeN s n) := by
  intro n
  induction n with
  | zero => exact fun _ => r
  | succ n ih =>
    intro hn
    have ih := ih (by omega)
    have e : MfadeN s n (69 + n) = HfadeN (hR h) n n := ih.2.1 n hn
    show RelS (sHR h (if HfadeN (hR h) n n ≤ 0 then HfadeN (hR h) n else upd (HfadeN (hR h) n) n (HfadeN (hR h) n n - nI 1))) (upd (MfadeN s n) (69 + n) (MfadeN s n (69 + n) - bI (¬ MfadeN s n (69 + n) ≤ 0)))
    by_cases c : HfadeN (hR h) n n ≤ 0
    · rw [if_pos c, upd_id (by rw [e, bI_f (not_not_intro c), nz, Int32.sub_zero])]; exact ih
    · rw [if_neg c, e, bI_t c]
      exact rel_R ih (HfadeN (hR h) n n - nI 1) hn
theorem fadeN_ex {R : Nat → Int32} (h : ∀ k, k < 48 → ∃ l : Nat, l ≤ 60 ∧ R k = nI l) : ∀ n, n ≤ 48 → ∀ k, k < 48 → ∃ l : Nat, l ≤ 60 ∧ HfadeN R n k = nI l := by
  intro n
  induction n with
  | zero => exact fun _ => h
  | succ n ih =>
    intro hn
    have ih := ih (by omega)
    obtain ⟨l, hl, el⟩ := ih n hn
    show ∀ k, k < 48 → ∃ l : Nat, l ≤ 60 ∧ (if HfadeN R n n ≤ 0 then HfadeN R n else upd (HfadeN R n) n (HfadeN R n n - nI 1)) k = nI l
    by_cases c : HfadeN R n n ≤ 0
    · rw [if_pos c]; exact ih
    · rw [if_neg c]
      rw [el] at c ⊢
      have hp : l ≠ 0 := fun z => c ((le0 (by omega)).mpr z)
      rw [pk_sub (by omega)]
      exact upd_ex ih (by omega)
theorem Htk_eq (h : HSt) : Htk h = sHsn (sHmn (sHR h (HfadeN (hR h) 48)) (hmn h + nI 1)) (hsn h + nI 1) := by
  unfold Htk Hfade
  show sHsn (sHR (sHmn h (hmn h + nI 1)) (HfadeN (hR h) 48)) (hsn h + nI 1) = _
  generalize HfadeN (hR h) 48 = F
  rfl
theorem rel_tk {h : HSt} {s : Nat → Int32} (r : RelS h s) : RelS (Htk h) (Mtk s) := by
  have f := rel_fadeN r 48 (Nat.le_refl 48)
  have e5 : MfadeN s 48 5 = hmn h := f.2.2.2.2.2.2.2.2.1
  have e6 : MfadeN s 48 6 = hsn h := f.2.2.2.2.2.2.2.2.2.1
  have m2 := rel_sn (rel_mn f (hmn h + nI 1)) (hsn h + nI 1)
  have e : Mtk s = upd (upd (MfadeN s 48) 5 (hmn h + nI 1)) 6 (hsn h + nI 1) := by
    unfold Mtk Mt1
    rw [pk_un (by decide), e5, e6]
  rw [Htk_eq, e]
  exact m2
theorem chief_eq {h : HSt} {s : Nat → Int32} (r : RelS h s) : Mchief s = Hchief h := by
  have e4 : s 4 = mask h := r.2.2.2.2.2.2.2.1
  unfold Mchief Hchief
  rw [e4]
  unfold mask
  by_cases c2 : hf2 h = 0
  · rw [if_pos c2, if_pos c2]
    by_cases c1 : hf1 h = 0
    · rw [if_pos c1, if_pos c1]; decide
    · rw [if_neg c1, if_neg c1]; decide
  · rw [if_neg c2, if_neg c2]
    by_cases c1 : hf1 h = 0
    · rw [if_pos c1]; decide
    · rw [if_neg c1]; decide
theorem due_eq {h : HSt} {s : Nat → Int32} (r : RelS h s) : Mdue s = Htbq h := by
  have e2 : s 2 = has h := r.2.2.2.2.2.1
  unfold Mdue Htbq
  rw [chief_eq r, e2]
theorem tbq_nat {h : HSt} (i : Inv h) : ∃ d : Nat, (1 ≤ d ∧ d ≤ 60) ∧ Htbq h = nI d := by
  obtain ⟨q, hq, e⟩ := i.2.2.2.2.1
  unfold Htbq
  by_cases c : Hchief h = 0
  · rw [if_pos c]; exact ⟨q, ⟨hq.1, by omega⟩, e⟩
  · rw [if_neg c, e, pk_mul]; exact ⟨2 * q, ⟨by omega, by omega⟩, rfl⟩
theorem rel_min {h : HSt} {s : Nat → Int32} (r : RelS h s) : RelS (Hmin h) (Mgo s) := by
  have t := rel_tk r
  have e6 : Mtk s 6 = hsn (Htk h) := t.2.2.2.2.2.2.2.2.2.1
  unfold Hmin Mgo
  rw [e6, due_eq t]
  by_cases c : hsn (Htk h) < Htbq (Htk h)
  · rw [if_pos c, if_neg (not_not_intro c)]; exact t
  · rw [if_neg c, if_pos c]
    have m1 := rel_sn t (nI 0)
    have e3 : upd (Mtk s) 6 (nI 0) 10 = hC (sHsn (Htk h) (nI 0)) 3 := m1.2.2.1 3 (by decide)
    have m2 := rel_C m1 (k := 3) (hC (sHsn (Htk h) (nI 0)) 3 + nI 1) (by decide)
    have e : Mq1 s = upd (upd (Mtk s) 6 (nI 0)) (7 + 3) (hC (sHsn (Htk h) (nI 0)) 3 + nI 1) := by
      unfold Mq1
      rw [e3]
    rw [e]
    exact rel_askN m2 48 (Nat.le_refl 48)
theorem inv_tk {h : HSt} (i : Inv h) {t : Nat} (ht : t ≤ 59) (e : hsn h + nI 1 = nI t) : Inv (Htk h) := by
  rw [Htk_eq, e]
  have f := fadeN_ex i.2.1 48 (Nat.le_refl 48)
  generalize HfadeN (hR h) 48 = F at f ⊢
  exact ⟨i.1, f, i.2.2.1, i.2.2.2.1, i.2.2.2.2.1, ⟨t, ht, rfl⟩, i.2.2.2.2.2.2⟩
theorem inv_tk0 {h : HSt} (i : Inv h) : Inv (sHsn (Htk h) (nI 0)) := by
  rw [Htk_eq]
  have f := fadeN_ex i.2.1 48 (Nat.le_refl 48)
  generalize HfadeN (hR h) 48 = F at f ⊢
  exact ⟨i.1, f, i.2.2.1, i.2.2.2.1, i.2.2.2.2.1, ⟨0, by decide, rfl⟩, i.2.2.2.2.2.2⟩
theorem tbq_tk (h : HSt) : Htbq (Htk h) = Htbq h := by
  rw [Htk_eq]
  generalize HfadeN (hR h) 48 = F
  rfl
theorem hsn_tk (h : HSt) : hsn (Htk h) = hsn h + nI 1 := by
  rw [Htk_eq]
theorem inv_min {h : HSt} (i : Inv h) : Inv (Hmin h) := by
  obtain ⟨t, ht, et⟩ := i.2.2.2.2.2.1
  obtain ⟨d, hd, ed⟩ := tbq_nat i
  unfold Hmin
  rw [tbq_tk, hsn_tk]
  by_cases c : hsn h + nI 1 < Htbq h
  · rw [if_pos c]
    have e1 : hsn h + nI 1 = nI (t + 1) := by rw [et, nI_add]
    rw [e1, ed] at c
    have c2 := (nI_ltI (by omega) (by omega)).mp c
    exact inv_tk i (by omega) e1
  · rw [if_neg c]; exact inv_askN (inv_C (inv_tk0 i) _) 48
theorem rel_pass {h : HSt} {s : Nat → Int32} (r : RelS h s) (n : Nat) : RelS (HpassN h n) (MgoN s n) := by
  induction n with
  | zero => exact r
  | succ n ih => exact rel_min ih
theorem inv_pass {h : HSt} (i : Inv h) (n : Nat) : Inv (HpassN h n) := by
  induction n with
  | zero => exact i
  | succ n ih => exact inv_min ih
theorem pass_q {h : HSt} {s : Nat → Int32} (r : RelS h s) (n : Nat) : MgoQ s n = nI (HpassQ h n) := by
  induction n with
  | zero => rfl
  | succ n ih =>
    have t := rel_tk (rel_pass r n)
    have e6 : Mtk (MgoN s n) 6 = hsn (Htk (HpassN h n)) := t.2.2.2.2.2.2.2.2.2.1
    show MgoQ s n + bI (¬ Mtk (MgoN s n) 6 < Mdue (Mtk (MgoN s n))) = nI (if hsn (Htk (HpassN h n)) < Htbq (Htk (HpassN h n)) then HpassQ h n else HpassQ h n + 1)
    rw [ih]
    by_cases c : hsn (Htk (HpassN h n)) < Htbq (Htk (HpassN h n))
    · rw [if_pos c, bI_f (by rw [e6, due_eq t]; exact not_not_intro c), nI_add, Nat.add_zero]
    · rw [if_neg c, bI_t (by rw [e6, due_eq t]; exact c), nI_add]
/-! coming, leaving -/
theorem Hseat_eq {h : HSt} (i : Inv h) {k : Nat} (hk : k < 48) : Hseat k h = Hcall k (sHL h (upd (hL h) k (hL h k + nI 1))) := by
  obtain ⟨l, hl, e⟩ := i.1 k hk
  have c : ¬ hL (sHL h (upd (hL h) k (hL h k + nI 1))) k ≤ 0 := by
    show ¬ upd (hL h) k (hL h k + nI 1) k ≤ 0
    rw [pk_us, e, nI_add]
    exact fun z => absurd ((le0 (by omega)).mp z) (by omega)
  exact if_pos c
theorem rel_seat {h : HSt} {s : Nat → Int32} (r : RelS h s) (i : Inv h) {k : Nat} (hk : k < 48) : RelS (Hseat k h) (Mcomes k s) := by
  have e : s (21 + k) = hL h k := r.1 k hk
  rw [Hseat_eq i hk]
  unfold Mcomes
  rw [e]
  exact rel_call (rel_L r (hL h k + nI 1) hk) hk
theorem inv_seat {h : HSt} (i : Inv h) {k : Nat} (hk : k < 48) (c : ¬ nI 9 ≤ hL h k) : Inv (Hseat k h) := by
  rw [Hseat_eq i hk]
  obtain ⟨l, hl, e⟩ := i.1 k hk
  rw [e] at c ⊢
  have h9 : l < 9 := Nat.lt_of_not_le fun z => c ((nI_leI (by decide) (by omega)).mpr z)
  rw [nI_add]
  exact inv_call (inv_L i k (by omega)) k
theorem rel_ask {h : HSt} {s : Nat → Int32} (r : RelS h s) {k : Nat} (hk : k < 48) : RelS (Hask k h) (Mask k (upd s 11 (s 11 + nI 1))) := by
  have e4 : s 11 = hC h 4 := r.2.2.1 4 (by decide)
  have m := rel_C r (k := 4) (hC h 4 + nI 1) (by decide)
  have e : (upd s 11 (s 11 + nI 1)) (21 + k) = hL h k := by rw [pk_un (by omega)]; exact r.1 k hk
  unfold Hask Mask
  rw [e, e4]
  by_cases c : hL h k ≤ 0
  · rw [if_neg (not_not_intro c), if_pos c]; exact m
  · rw [if_pos c, if_neg c]; exact rel_call m hk
theorem inv_ask {h : HSt} (i : Inv h) (k : Nat) : Inv (Hask k h) := by
  unfold Hask
  by_cases c : ¬ hL h k ≤ 0
  · rw [if_pos c]; exact inv_call (inv_C i _) k
  · rw [if_neg c]; exact inv_C i _
theorem rel_fare2 {h : HSt} {s : Nat → Int32} (r : RelS h s) {k : Nat} (hk : k < 48) : RelS (Hfare2 k h) (Mfare2 k s) := by
  have eR : s (69 + k) = hR h k := r.2.1 k hk
  have e1 : s 1 = hpt h := r.2.2.2.2.1
  unfold Hfare2 Mfare2
  rw [eR, e1]
  by_cases c : hR h k ≤ hpt h
  · rw [if_pos c, if_pos c]; exact r
  · rw [if_neg c, if_neg c]; exact rel_ask (rel_R r (hpt h) hk) hk
theorem inv_fare2 {h : HSt} (i : Inv h) (k : Nat) : Inv (Hfare2 k h) := by
  obtain ⟨p, hp, e⟩ := i.2.2.2.1
  unfold Hfare2
  by_cases c : hR h k ≤ hpt h
  · rw [if_pos c]; exact i
  · rw [if_neg c, e]; exact inv_ask (inv_R i k (by omega)) k
theorem rel_fare {h : HSt} {s : Nat → Int32} (r : RelS h s) (i : Inv h) (hb : Hbo h) {k : Nat} (hk : k < 48) : RelS (Hfare k h) (Mfare k s) := by
  have eL : s (21 + k) = hL h k := r.1 k hk
  have e3 : s 3 = hqk h := r.2.2.2.2.2.2.1
  obtain ⟨l, hl, el⟩ := i.1 k hk
  unfold Hfare Mfare
  rw [eL, e3, el]
  rcases hb.1 with q | q
  · rw [q, if_pos nz, if_neg (by decide)]; exact rel_fare2 r hk
  · rw [q, if_neg (by decide), if_pos rfl]
    by_cases c : l = 0
    · subst c
      rw [if_pos nz, if_neg (not_not_intro ((le0 (by decide)).mpr rfl))]
      exact rel_R r (nI 0) hk
    · rw [if_neg (fun z => c ((le0 (by omega)).mp (Int32.le_of_eq z))), if_pos (fun z => c ((le0 (by omega)).mp z))]
      exact rel_fare2 r hk
theorem inv_fare {h : HSt} (i : Inv h) (k : Nat) : Inv (Hfare k h) := by
  unfold Hfare
  by_cases c : hqk h = 0
  · rw [if_pos c]; exact inv_fare2 i k
  · rw [if_neg c]
    by_cases d : ¬ hL h k ≤ 0
    · rw [if_pos d]; exact inv_fare2 i k
    · rw [if_neg d]; exact inv_R i k (by omega)
theorem inv_down {h : HSt} (i : Inv h) {k : Nat} (hk : k < 48) (c : ¬ hL h k ≤ 0) : Inv (sHL h (upd (hL h) k (hL h k - nI 1))) := by
  obtain ⟨l, hl, e⟩ := i.1 k hk
  rw [e] at c ⊢
  have h0 : l ≠ 0 := fun z => c ((le0 (by omega)).mpr z)
  rw [pk_sub (by omega)]
  exact inv_L i k (by omega)
theorem rel_unseat {h : HSt} {s : Nat → Int32} (r : RelS h s) (i : Inv h) (hb : Hbo h) {k : Nat} (b : Nat) (hk : k < 48) (c : ¬ hL h k ≤ 0) : RelS (Hunseat k b h) (Mleaves k b s) := by
  have eL : s (21 + k) = hL h k := r.1 k hk
  unfold Hunseat Mleaves
  rw [eL]
  have m := rel_L r (hL h k - nI 1) hk
  by_cases d : b = 0
  · rw [if_pos d, if_pos d]; exact m
  · rw [if_neg d, if_neg d]; exact rel_fare m (inv_down i hk c) hb hk
theorem inv_unseat {h : HSt} (i : Inv h) {k : Nat} (b : Nat) (hk : k < 48) (c : ¬ hL h k ≤ 0) : Inv (Hunseat k b h) := by
  unfold Hunseat
  by_cases d : b = 0
  · rw [if_pos d]; exact inv_down i hk c
  · rw [if_neg d]; exact inv_fare (inv_down i hk c) k
