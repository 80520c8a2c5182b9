/-! the law, call by call (15..21) -/
set_option maxHeartbeats 1000000 in
set_option maxRecDepth 100000 in
theorem st_minutes {p : Program} {l : Launch} {e : Env} {s : State} {m : MethodId} {below : List Frame} {meth : Method} {c : Code} {H : Heap} {locs : List Loc} {cells slots : Nat} {Q : State → Prop} {ls : Array Slot} {g : kG} {sa : Nat → Nat} {b L i o u : Nat} {xs : Nat → Int32} {ah at9 a0 am : Nat → Nat} {ak : Nat → Nat → Nat} {f : Nat → Int64} {cs : CSt} {m9 : MSt} (LW : LwC p l s m c g sa b L xs) (hi : i + 4 ≤ L) (hcl : cells + 3 ≤ room_1.cells) (hsl : slots + 18 ≤ room_1.slots) (LI : LwI s g b o u ah at9 a0 ak am i H locs ls f cs m9) (kk : LwK p l e s m below meth c g b o u ah at9 a0 ak am i (cells + 3) (slots + 18) Q) : W p l e room_1 s m #[Value.ref b] below meth c H locs cells slots Q (F0 m 1077 ls []) := by
  obtain ⟨hF, hfl, hE, hSt, hZ, hX, hbl, hLL⟩ := LW
  obtain ⟨hx, hb, hml, hown, hts⟩ := id hF
  obtain ⟨S, hP, hD, hS, hl⟩ := LI
  have hA : ∀ q : Nat, s.heap.size ≤ q → (fun q : Nat => s.heap.size ≤ q) q := fun _ h => h
  have hbA : ¬ (fun q : Nat => s.heap.size ≤ q) b := Nat.not_le.mpr hbl
  obtain ⟨-, -, hbo, hod, hsz, hjm, hbs, -, hn, hln, hch, -⟩ := id S
  have hbf := (sim_bf S).1
  refine lv_aload_n hx hb dL_law_1077 rfl (lv_at hl 2 rfl) ?_
  refine k_Vi (As := []) (r := (hmn (ch cs))) (w0 := (wC g u ah at9 a0 ak cs)) (w1 := (wC g u ah at9 a0 ak cs)) (wr := (wM g am m9) ++ (wO g o f)) (ws1 := (wA g o u ah at9 a0 ak am f cs m9)) hF (c_X3_minutes l g u ah at9 a0 ak (ch cs) (csg cs) (cn cs) hn hch (cod cs) (csz cs) hod hsz (chs cs) hbo hbs ) (cwV 0 hts gL_law_X3_minutes rfl rfl rfl (by decide +kernel) ⟨Nat.le_of_ble_eq_true rfl, Nat.le_of_ble_eq_true rfl⟩) hE hP hD hS hA (pm_last _ _ _) (pm_last _ _ _).symm 7 rfl rfl rfl rfl hl.1 rfl (Nat.le_of_ble_eq_true rfl) dL_law_1078 ⟨by omega, by omega⟩ (fun H locs hP hD hS => ?_)
  have eqA : (hmn (ch cs)) = ((ms m9) 5) := (q_minutes S)
  have S1 : Sim cs (sMth m9 (nI 0)) := (sim_th S _)
  rw [eqA]
  refine lv_aload_n hx hb dL_law_1081 rfl (lv_at hl 3 rfl) ?_
  refine k_Vi (As := []) (r := ((ms m9) 5)) (w0 := (wM g am m9)) (w1 := (wM g am (sMth m9 (nI 0)))) (wr := (wOC g o u ah at9 a0 ak f cs)) (ws1 := (wA g o u ah at9 a0 ak am f cs (sMth m9 (nI 0)))) hF (c_X4_minutes l g am m9 (csz cs) hsz hjm ) (cwV 0 hts gL_law_X4_minutes rfl rfl rfl (by decide +kernel) ⟨Nat.le_of_ble_eq_true rfl, Nat.le_of_ble_eq_true rfl⟩) hE hP hD hS hA (List.Perm.refl _) (List.Perm.refl _) 0 rfl rfl rfl rfl hl.1 rfl (Nat.le_of_ble_eq_true rfl) dL_law_1082 ⟨by omega, by omega⟩ (fun H locs hP hD hS => ?_)
  obtain ⟨m2, em2⟩ : ∃ x, (sMth m9 (nI 0)) = x := ⟨_, rfl⟩
  rw [em2] at hP hD S1
  refine W.widen (k := cells + 3) (n := slots + 18) (by omega) (by omega) ?_
  refine lv_icmp_eq (tgt := 1546) hx hb dL_law_1085 (by decide) (fun _ => ?_) (fun h9 => absurd rfl h9)
  exact kk H locs ls f cs m2 S1 hP hD hS hl
set_option maxHeartbeats 1000000 in
set_option maxRecDepth 100000 in
theorem st_sinceQuestion {p : Program} {l : Launch} {e : Env} {s : State} {m : MethodId} {below : List Frame} {meth : Method} {c : Code} {H : Heap} {locs : List Loc} {cells slots : Nat} {Q : State → Prop} {ls : Array Slot} {g : kG} {sa : Nat → Nat} {b L i o u : Nat} {xs : Nat → Int32} {ah at9 a0 am : Nat → Nat} {ak : Nat → Nat → Nat} {f : Nat → Int64} {cs : CSt} {m9 : MSt} (LW : LwC p l s m c g sa b L xs) (hi : i + 4 ≤ L) (hcl : cells + 3 ≤ room_1.cells) (hsl : slots + 18 ≤ room_1.slots) (LI : LwI s g b o u ah at9 a0 ak am i H locs ls f cs m9) (kk : LwK p l e s m below meth c g b o u ah at9 a0 ak am i (cells + 3) (slots + 18) Q) : W p l e room_1 s m #[Value.ref b] below meth c H locs cells slots Q (F0 m 1090 ls []) := by
  obtain ⟨hF, hfl, hE, hSt, hZ, hX, hbl, hLL⟩ := LW
  obtain ⟨hx, hb, hml, hown, hts⟩ := id hF
  obtain ⟨S, hP, hD, hS, hl⟩ := LI
  have hA : ∀ q : Nat, s.heap.size ≤ q → (fun q : Nat => s.heap.size ≤ q) q := fun _ h => h
  have hbA : ¬ (fun q : Nat => s.heap.size ≤ q) b := Nat.not_le.mpr hbl
  obtain ⟨-, -, hbo, hod, hsz, hjm, hbs, -, hn, hln, hch, -⟩ := id S
  have hbf := (sim_bf S).1
  refine lv_aload_n hx hb dL_law_1090 rfl (lv_at hl 2 rfl) ?_
  refine k_Vi (As := []) (r := (hsn (ch cs))) (w0 := (wC g u ah at9 a0 ak cs)) (w1 := (wC g u ah at9 a0 ak cs)) (wr := (wM g am m9) ++ (wO g o f)) (ws1 := (wA g o u ah at9 a0 ak am f cs m9)) hF (c_X3_sinceQuestion l g u ah at9 a0 ak (ch cs) (csg cs) (cn cs) hn hch (cod cs) (csz cs) hod hsz (chs cs) hbo hbs ) (cwV 0 hts gL_law_X3_sinceQuestion rfl rfl rfl (by decide +kernel) ⟨Nat.le_of_ble_eq_true rfl, Nat.le_of_ble_eq_true rfl⟩) hE hP hD hS hA (pm_last _ _ _) (pm_last _ _ _).symm 7 rfl rfl rfl rfl hl.1 rfl (Nat.le_of_ble_eq_true rfl) dL_law_1091 ⟨by omega, by omega⟩ (fun H locs hP hD hS => ?_)
  have eqA : (hsn (ch cs)) = ((ms m9) 6) := (q_sinceQuestion S)
  have S1 : Sim cs (sMth m9 (nI 0)) := (sim_th S _)
  rw [eqA]
  refine lv_aload_n hx hb dL_law_1094 rfl (lv_at hl 3 rfl) ?_
  refine k_Vi (As := []) (r := ((ms m9) 6)) (w0 := (wM g am m9)) (w1 := (wM g am (sMth m9 (nI 0)))) (wr := (wOC g o u ah at9 a0 ak f cs)) (ws1 := (wA g o u ah at9 a0 ak am f cs (sMth m9 (nI 0)))) hF (c_X4_sinceQuestion l g am m9 (csz cs) hsz hjm ) (cwV 0 hts gL_law_X4_sinceQuestion rfl rfl rfl (by decide +kernel) ⟨Nat.le_of_ble_eq_true rfl, Nat.le_of_ble_eq_true rfl⟩) hE hP hD hS hA (List.Perm.refl _) (List.Perm.refl _) 0 rfl rfl rfl rfl hl.1 rfl (Nat.le_of_ble_eq_true rfl) dL_law_1095 ⟨by omega, by omega⟩ (fun H locs hP hD hS => ?_)
  obtain ⟨m2, em2⟩ : ∃ x, (sMth m9 (nI 0)) = x := ⟨_, rfl⟩
  rw [em2] at hP hD S1
  refine W.widen (k := cells + 3) (n := slots + 18) (by omega) (by omega) ?_
  refine lv_icmp_eq (tgt := 1546) hx hb dL_law_1098 (by decide) (fun _ => ?_) (fun h9 => absurd rfl h9)
  exact kk H locs ls f cs m2 S1 hP hD hS hl
set_option maxHeartbeats 1000000 in
set_option maxRecDepth 100000 in
theorem st_count {p : Program} {l : Launch} {e : Env} {s : State} {m : MethodId} {below : List Frame} {meth : Method} {c : Code} {H : Heap} {locs : List Loc} {cells slots : Nat} {Q : State → Prop} {ls : Array Slot} {g : kG} {sa : Nat → Nat} {b L i o u : Nat} {xs : Nat → Int32} {ah at9 a0 am : Nat → Nat} {ak : Nat → Nat → Nat} {f : Nat → Int64} {cs : CSt} {m9 : MSt} (LW : LwC p l s m c g sa b L xs) (hi : i + 4 ≤ L) (hcl : cells + 3 ≤ room_1.cells) (hsl : slots + 18 ≤ room_1.slots) (LI : LwI s g b o u ah at9 a0 ak am i H locs ls f cs m9) (kk : LwK p l e s m below meth c g b o u ah at9 a0 ak am i (cells + 3) (slots + 18) Q) : W p l e room_1 s m #[Value.ref b] below meth c H locs cells slots Q (F0 m 1103 ls []) := by
  obtain ⟨hF, hfl, hE, hSt, hZ, hX, hbl, hLL⟩ := LW
  obtain ⟨hx, hb, hml, hown, hts⟩ := id hF
  obtain ⟨S, hP, hD, hS, hl⟩ := LI
  have hA : ∀ q : Nat, s.heap.size ≤ q → (fun q : Nat => s.heap.size ≤ q) q := fun _ h => h
  have hbA : ¬ (fun q : Nat => s.heap.size ≤ q) b := Nat.not_le.mpr hbl
  obtain ⟨-, -, hbo, hod, hsz, hjm, hbs, -, hn, hln, hch, -⟩ := id S
  have hbf := (sim_bf S).1
  refine lv_aload_n hx hb dL_law_1103 rfl (lv_at hl 2 rfl) ?_
  refine k_arg (i := i) (k := 1) hx hb (by decide) (by omega) hLL hX hbl hbA hS (lv_at hl 1 rfl) (lv_at hl 0 rfl) dL_law_1104 dL_law_1105 dL_law_1107 dL_law_1108 dL_law_1109 ?_
  refine lv_aload_n hx hb dL_law_1110 rfl (lv_at hl 4 rfl) ?_
  obtain ⟨qt, q2, q3⟩ := q_count S (xs (i + 1))
  obtain ⟨f1, c1, eW, ef, S1⟩ := law_pick (g := g) (o := o) (u := u) (ah := ah) (at9 := at9) (a0 := a0) (ak := ak) (f := f) q2 q3
  refine k_SWi (As := [.ref u, .int (xs (i + 1)), .ref o]) (r := nI (cdCount (xs (i + 1)))) (w0 := (wOC g o u ah at9 a0 ak f cs)) (w1 := (if (cdCount (xs (i + 1))) = 0 then (wOC g o u ah at9 a0 ak (vp_updL f 0 (Int32.toInt64 (hC (ch cs) (xs (i + 1)).toNatClampNeg))) cs) else (wOC g o u ah at9 a0 ak f cs))) (wr := (wM g am m9)) (ws1 := (wM g am m9) ++ (if (cdCount (xs (i + 1))) = 0 then (wOC g o u ah at9 a0 ak (vp_updL f 0 (Int32.toInt64 (hC (ch cs) (xs (i + 1)).toNatClampNeg))) cs) else (wOC g o u ah at9 a0 ak f cs))) hF (c_L_count l hfl g sa u ah at9 a0 ak (ch cs) (csg cs) (cn cs) hn hch (cod cs) (csz cs) hod hsz (chs cs) hbo hbs o f (xs (i + 1))) (vx_cwSW 3 hts gL_law_L_count rfl rfl rfl (by decide +kernel) ⟨Nat.le_of_ble_eq_true rfl, Nat.le_of_ble_eq_true rfl⟩) hE hSt hZ hP hD hS hA List.perm_append_comm List.perm_append_comm rfl hl.1 rfl (Nat.le_of_ble_eq_true rfl) dL_law_1111 ⟨by omega, by omega⟩ (fun H locs hP hD hS => ?_)
  rw [eW] at hP hD
  refine lv_istore (lv' := [(5, .int (nI (cdCount (xs (i + 1))))), (4, .int (nI i)), (0, .ref b), (1, .ref u), (2, .ref (am 0)), (3, .ref o)]) hx hb dL_law_1114 hl (by decide) rfl (fun ls hl => ?_)
  refine lv_aload_n hx hb dL_law_1116 rfl (lv_at hl 4 rfl) ?_
  refine k_arg (i := i) (k := 1) hx hb (by decide) (by omega) hLL hX hbl hbA hS (lv_at hl 2 rfl) (lv_at hl 1 rfl) dL_law_1117 dL_law_1118 dL_law_1120 dL_law_1121 dL_law_1122 ?_
  refine k_Vi (As := [.int (xs (i + 1))]) (r := (McntR (xs (i + 1)) m9)) (w0 := (wM g am m9)) (w1 := (wM g am (McntS (xs (i + 1)) m9))) (wr := (wOC g o u ah at9 a0 ak f1 c1)) (ws1 := (wA g o u ah at9 a0 ak am f1 c1 (McntS (xs (i + 1)) m9))) hF (c_X4_count l g am m9 (csz cs) hsz hjm (xs (i + 1))) (cwV 1 hts gL_law_X4_count rfl rfl rfl (by decide +kernel) ⟨Nat.le_of_ble_eq_true rfl, Nat.le_of_ble_eq_true rfl⟩) hE hP hD hS hA (List.Perm.refl _) (List.Perm.refl _) 0 rfl rfl rfl rfl hl.1 rfl (Nat.le_of_ble_eq_true rfl) dL_law_1123 ⟨by omega, by omega⟩ (fun H locs hP hD hS => ?_)
  obtain ⟨m2, em2⟩ : ∃ x, (McntS (xs (i + 1)) m9) = x := ⟨_, rfl⟩
  rw [em2] at hP hD S1 qt
  obtain ⟨bv, ebv⟩ : ∃ x, (McntR (xs (i + 1)) m9) = x := ⟨_, rfl⟩
  rw [ebv] at ef ⊢
  refine lv_istore (lv' := [(6, .int bv), (5, .int (nI (cdCount (xs (i + 1))))), (4, .int (nI i)), (0, .ref b), (1, .ref u), (2, .ref (am 0)), (3, .ref o)]) hx hb dL_law_1126 hl (by decide) rfl (fun ls hl => ?_)
  refine lv_aload_n hx hb dL_law_1128 rfl (lv_at hl 5 rfl) ?_
  refine k_Vi (As := []) (r := mth m2) (w0 := (wM g am m2)) (w1 := (wM g am m2)) (wr := (wOC g o u ah at9 a0 ak f1 c1)) (ws1 := (wA g o u ah at9 a0 ak am f1 c1 m2)) hF (c_X4_thrown l g am m2) (cwV 0 hts gL_law_X4_thrown rfl rfl rfl (by decide +kernel) ⟨Nat.le_of_ble_eq_true rfl, Nat.le_of_ble_eq_true rfl⟩) hE hP hD hS hA (List.Perm.refl _) (List.Perm.refl _) 0 rfl rfl rfl rfl hl.1 rfl (Nat.le_of_ble_eq_true rfl) dL_law_1129 ⟨by omega, by omega⟩ (fun H locs hP hD hS => ?_)
  refine W.widen (k := cells + 3) (n := slots + 18) (by omega) (by omega) ?_
  refine k_tail (o := o) (cd := (cdCount (xs (i + 1)))) (f1 := f1) (tgt := 1546) hx hb dL_law_1132 dL_law_1134 dL_law_1139 dL_law_1141 dL_law_1144 dL_law_1145 dL_law_1146 dL_law_1147 dL_law_1149 dL_law_1150 dL_law_1151 dL_law_1156 (by decide) hE hP rfl (lv_at hl 6 rfl) (lv_at hl 1 rfl) (lv_at hl 0 rfl) (Nat.lt_of_le_of_lt (le_L_count _) (by decide)) ef qt ?_
  exact kk H locs ls f1 c1 m2 S1 hP hD hS (lv_sub hl [2, 3, 4, 5, 6] rfl)
set_option maxHeartbeats 1000000 in
set_option maxRecDepth 100000 in
theorem st_usefulShare {p : Program} {l : Launch} {e : Env} {s : State} {m : MethodId} {below : List Frame} {meth : Method} {c : Code} {H : Heap} {locs : List Loc} {cells slots : Nat} {Q : State → Prop} {ls : Array Slot} {g : kG} {sa : Nat → Nat} {b L i o u : Nat} {xs : Nat → Int32} {ah at9 a0 am : Nat → Nat} {ak : Nat → Nat → Nat} {f : Nat → Int64} {cs : CSt} {m9 : MSt} (LW : LwC p l s m c g sa b L xs) (hi : i + 4 ≤ L) (hcl : cells + 3 ≤ room_1.cells) (hsl : slots + 18 ≤ room_1.slots) (LI : LwI s g b o u ah at9 a0 ak am i H locs ls f cs m9) (kk : LwK p l e s m below meth c g b o u ah at9 a0 ak am i (cells + 3) (slots + 18) Q) : W p l e room_1 s m #[Value.ref b] below meth c H locs cells slots Q (F0 m 1159 ls []) := by
  obtain ⟨hF, hfl, hE, hSt, hZ, hX, hbl, hLL⟩ := LW
  obtain ⟨hx, hb, hml, hown, hts⟩ := id hF
  obtain ⟨S, hP, hD, hS, hl⟩ := LI
  have hA : ∀ q : Nat, s.heap.size ≤ q → (fun q : Nat => s.heap.size ≤ q) q := fun _ h => h
  have hbA : ¬ (fun q : Nat => s.heap.size ≤ q) b := Nat.not_le.mpr hbl
  obtain ⟨-, -, hbo, hod, hsz, hjm, hbs, -, hn, hln, hch, -⟩ := id S
  have hbf := (sim_bf S).1
  refine lv_aload_n hx hb dL_law_1159 rfl (lv_at hl 2 rfl) ?_
  refine k_Vd (As := []) (r := (dSh (hC (ch cs) 0) (hC (ch cs) 1))) (w0 := (wC g u ah at9 a0 ak cs)) (w1 := (wC g u ah at9 a0 ak cs)) (wr := (wM g am m9) ++ (wO g o f)) (ws1 := (wA g o u ah at9 a0 ak am f cs m9)) hF (c_X3_usefulShare l g u ah at9 a0 ak (ch cs) (csg cs) (cn cs) hn hch (cod cs) (csz cs) hod hsz (chs cs) hbo hbs ) (cwV 0 hts gL_law_X3_usefulShare rfl rfl rfl (by decide +kernel) ⟨Nat.le_of_ble_eq_true rfl, Nat.le_of_ble_eq_true rfl⟩) hE hP hD hS hA (pm_last _ _ _) (pm_last _ _ _).symm 7 rfl rfl rfl rfl hl.1 rfl (Nat.le_of_ble_eq_true rfl) dL_law_1160 ⟨by omega, by omega⟩ (fun H locs hP hD hS => ?_)
  have eqA : (dSh (hC (ch cs) 0) (hC (ch cs) 1)) = (dSh (ms m9 7) (ms m9 8)) := (q_usefulShare S)
  have S1 : Sim cs (sMth m9 (nI 0)) := (sim_th S _)
  rw [eqA]
  obtain ⟨bv, ebv⟩ : ∃ x, (dSh (ms m9 7) (ms m9 8)) = x := ⟨_, rfl⟩
  rw [ebv]
  refine lv_dstore (lv' := [(5, .double bv), (4, .int (nI i)), (0, .ref b), (1, .ref u), (2, .ref (am 0)), (3, .ref o)]) hx hb dL_law_1163 hl (by decide) rfl (fun ls hl => ?_)
  refine lv_aload_n hx hb dL_law_1165 rfl (lv_at hl 4 rfl) ?_
  refine k_Vd (As := []) (r := (dSh (ms m9 7) (ms m9 8))) (w0 := (wM g am m9)) (w1 := (wM g am (sMth m9 (nI 0)))) (wr := (wOC g o u ah at9 a0 ak f cs)) (ws1 := (wA g o u ah at9 a0 ak am f cs (sMth m9 (nI 0)))) hF (c_X4_usefulShare l g am m9  ) (cwV 0 hts gL_law_X4_usefulShare rfl rfl rfl (by decide +kernel) ⟨Nat.le_of_ble_eq_true rfl, Nat.le_of_ble_eq_true rfl⟩) hE hP hD hS hA (List.Perm.refl _) (List.Perm.refl _) 0 rfl rfl rfl rfl hl.1 rfl (Nat.le_of_ble_eq_true rfl) dL_law_1166 ⟨by omega, by omega⟩ (fun H locs hP hD hS => ?_)
  obtain ⟨m2, em2⟩ : ∃ x, (sMth m9 (nI 0)) = x := ⟨_, rfl⟩
  rw [em2] at hP hD S1
  refine W.widen (k := cells + 3) (n := slots + 18) (by omega) (by omega) ?_
  rw [ebv]
  refine lv_dstore (lv' := [(7, .double bv), (5, .double bv), (4, .int (nI i)), (0, .ref b), (1, .ref u), (2, .ref (am 0)), (3, .ref o)]) hx hb dL_law_1169 hl (by decide) rfl (fun ls hl => ?_)
  refine lv_dload hx hb dL_law_1171 (lv_at hl 1 rfl) ?_
  refine lv_dload hx hb dL_law_1173 (lv_at hl 0 rfl) ?_
  refine lv_dcmp hx hb dL_law_1175 ?_
  obtain ⟨v, hv0⟩ : ∃ v, v = Op.cmpValue (FP.dcmp bv bv) CmpOp.l := ⟨_, rfl⟩
  rw [← hv0]
  refine lv_if_eq (tgt := 1197) hx hb dL_law_1176 (by decide) (fun _ => ?_) (fun h1 => ?_)
  · exact lv_goto (tgt := 1546) hx hb dL_law_1197 (by decide) (kk H locs ls f cs m2 S1 hP hD hS (lv_sub hl [2, 3, 4, 5, 6] rfl))
  · refine lv_dload hx hb dL_law_1179 (lv_at hl 1 rfl) ?_
    refine lv_dload hx hb dL_law_1181 (lv_at hl 1 rfl) ?_
    refine lv_dcmp hx hb dL_law_1183 ?_
    rw [← hv0]
    refine lv_if_eq (tgt := 1195) hx hb dL_law_1184 (by decide) (fun h2 => absurd h2 h1) (fun _ => ?_)
    refine lv_dload hx hb dL_law_1187 (lv_at hl 0 rfl) ?_
    refine lv_dload hx hb dL_law_1189 (lv_at hl 0 rfl) ?_
    refine lv_dcmp hx hb dL_law_1191 ?_
    rw [← hv0]
    refine lv_if_ne (tgt := 1197) hx hb dL_law_1192 (by decide) (fun _ => ?_) (fun h2 => absurd h2 h1)
    exact lv_goto (tgt := 1546) hx hb dL_law_1197 (by decide) (kk H locs ls f cs m2 S1 hP hD hS (lv_sub hl [2, 3, 4, 5, 6] rfl))
set_option maxHeartbeats 1000000 in
set_option maxRecDepth 100000 in
theorem st_minutesToFade {p : Program} {l : Launch} {e : Env} {s : State} {m : MethodId} {below : List Frame} {meth : Method} {c : Code} {H : Heap} {locs : List Loc} {cells slots : Nat} {Q : State → Prop} {ls : Array Slot} {g : kG} {sa : Nat → Nat} {b L i o u : Nat} {xs : Nat → Int32} {ah at9 a0 am : Nat → Nat} {ak : Nat → Nat → Nat} {f : Nat → Int64} {cs : CSt} {m9 : MSt} (LW : LwC p l s m c g sa b L xs) (hi : i + 4 ≤ L) (hcl : cells + 3 ≤ room_1.cells) (hsl : slots + 18 ≤ room_1.slots) (LI : LwI s g b o u ah at9 a0 ak am i H locs ls f cs m9) (kk : LwK p l e s m below meth c g b o u ah at9 a0 ak am i (cells + 3) (slots + 18) Q) : W p l e room_1 s m #[Value.ref b] below meth c H locs cells slots Q (F0 m 1200 ls []) := by
  obtain ⟨hF, hfl, hE, hSt, hZ, hX, hbl, hLL⟩ := LW
  obtain ⟨hx, hb, hml, hown, hts⟩ := id hF
  obtain ⟨S, hP, hD, hS, hl⟩ := LI
  have hA : ∀ q : Nat, s.heap.size ≤ q → (fun q : Nat => s.heap.size ≤ q) q := fun _ h => h
  have hbA : ¬ (fun q : Nat => s.heap.size ≤ q) b := Nat.not_le.mpr hbl
  obtain ⟨-, -, hbo, hod, hsz, hjm, hbs, -, hn, hln, hch, -⟩ := id S
  have hbf := (sim_bf S).1
  refine lv_aload_n hx hb dL_law_1200 rfl (lv_at hl 2 rfl) ?_
  refine k_arg (i := i) (k := 1) hx hb (by decide) (by omega) hLL hX hbl hbA hS (lv_at hl 1 rfl) (lv_at hl 0 rfl) dL_law_1201 dL_law_1202 dL_law_1204 dL_law_1205 dL_law_1206 ?_
  refine k_arg (i := i) (k := 2) hx hb (by decide) (by omega) hLL hX hbl hbA hS (lv_at hl 1 rfl) (lv_at hl 0 rfl) dL_law_1207 dL_law_1208 dL_law_1210 dL_law_1211 dL_law_1212 ?_
  refine lv_aload_n hx hb dL_law_1213 rfl (lv_at hl 4 rfl) ?_
  obtain ⟨qt, q2, q3⟩ := q_minutesToFade S (xs (i + 1)) (xs (i + 2))
  obtain ⟨f1, c1, eW, ef, S1⟩ := law_pick (g := g) (o := o) (u := u) (ah := ah) (at9 := at9) (a0 := a0) (ak := ak) (f := f) q2 q3
  refine k_SWi (As := [.ref u, .int (xs (i + 1)), .int (xs (i + 2)), .ref o]) (r := nI (cdPair (xs (i + 1)) (xs (i + 2)))) (w0 := (wOC g o u ah at9 a0 ak f cs)) (w1 := (if (cdPair (xs (i + 1)) (xs (i + 2))) = 0 then (wOC g o u ah at9 a0 ak (vp_updL f 0 (Int32.toInt64 (HfadesIn (pl (xs (i + 1)) (xs (i + 2))) (ch cs)))) cs) else (wOC g o u ah at9 a0 ak f cs))) (wr := (wM g am m9)) (ws1 := (wM g am m9) ++ (if (cdPair (xs (i + 1)) (xs (i + 2))) = 0 then (wOC g o u ah at9 a0 ak (vp_updL f 0 (Int32.toInt64 (HfadesIn (pl (xs (i + 1)) (xs (i + 2))) (ch cs)))) cs) else (wOC g o u ah at9 a0 ak f cs))) hF (c_L_minutesToFade l hfl g sa u ah at9 a0 ak (ch cs) (csg cs) (cn cs) hn hch (cod cs) (csz cs) hod hsz (chs cs) hbo hbs o f (xs (i + 1)) (xs (i + 2))) (vx_cwSW 4 hts gL_law_L_minutesToFade rfl rfl rfl (by decide +kernel) ⟨Nat.le_of_ble_eq_true rfl, Nat.le_of_ble_eq_true rfl⟩) hE hSt hZ hP hD hS hA List.perm_append_comm List.perm_append_comm rfl hl.1 rfl (Nat.le_of_ble_eq_true rfl) dL_law_1214 ⟨by omega, by omega⟩ (fun H locs hP hD hS => ?_)
  rw [eW] at hP hD
  refine lv_istore (lv' := [(5, .int (nI (cdPair (xs (i + 1)) (xs (i + 2))))), (4, .int (nI i)), (0, .ref b), (1, .ref u), (2, .ref (am 0)), (3, .ref o)]) hx hb dL_law_1217 hl (by decide) rfl (fun ls hl => ?_)
  refine lv_aload_n hx hb dL_law_1219 rfl (lv_at hl 4 rfl) ?_
  refine k_arg (i := i) (k := 1) hx hb (by decide) (by omega) hLL hX hbl hbA hS (lv_at hl 2 rfl) (lv_at hl 1 rfl) dL_law_1220 dL_law_1221 dL_law_1223 dL_law_1224 dL_law_1225 ?_
  refine k_arg (i := i) (k := 2) hx hb (by decide) (by omega) hLL hX hbl hbA hS (lv_at hl 2 rfl) (lv_at hl 1 rfl) dL_law_1226 dL_law_1227 dL_law_1229 dL_law_1230 dL_law_1231 ?_
  refine k_Vi (As := [.int (xs (i + 1)), .int (xs (i + 2))]) (r := (MfadeR (xs (i + 1)) (xs (i + 2)) m9)) (w0 := (wM g am m9)) (w1 := (wM g am (MfadeS (xs (i + 1)) (xs (i + 2)) m9))) (wr := (wOC g o u ah at9 a0 ak f1 c1)) (ws1 := (wA g o u ah at9 a0 ak am f1 c1 (MfadeS (xs (i + 1)) (xs (i + 2)) m9))) hF (c_X4_minutesToFade l g am m9 (csz cs) hsz hjm (xs (i + 1)) (xs (i + 2))) (cwV 2 hts gL_law_X4_minutesToFade rfl rfl rfl (by decide +kernel) ⟨Nat.le_of_ble_eq_true rfl, Nat.le_of_ble_eq_true rfl⟩) hE hP hD hS hA (List.Perm.refl _) (List.Perm.refl _) 0 rfl rfl rfl rfl hl.1 rfl (Nat.le_of_ble_eq_true rfl) dL_law_1232 ⟨by omega, by omega⟩ (fun H locs hP hD hS => ?_)
  obtain ⟨m2, em2⟩ : ∃ x, (MfadeS (xs (i + 1)) (xs (i + 2)) m9) = x := ⟨_, rfl⟩
  rw [em2] at hP hD S1 qt
  obtain ⟨bv, ebv⟩ : ∃ x, (MfadeR (xs (i + 1)) (xs (i + 2)) m9) = x := ⟨_, rfl⟩
  rw [ebv] at ef ⊢
  refine lv_istore (lv' := [(6, .int bv), (5, .int (nI (cdPair (xs (i + 1)) (xs (i + 2))))), (4, .int (nI i)), (0, .ref b), (1, .ref u), (2, .ref (am 0)), (3, .ref o)]) hx hb dL_law_1235 hl (by decide) rfl (fun ls hl => ?_)
  refine lv_aload_n hx hb dL_law_1237 rfl (lv_at hl 5 rfl) ?_
  refine k_Vi (As := []) (r := mth m2) (w0 := (wM g am m2)) (w1 := (wM g am m2)) (wr := (wOC g o u ah at9 a0 ak f1 c1)) (ws1 := (wA g o u ah at9 a0 ak am f1 c1 m2)) hF (c_X4_thrown l g am m2) (cwV 0 hts gL_law_X4_thrown rfl rfl rfl (by decide +kernel) ⟨Nat.le_of_ble_eq_true rfl, Nat.le_of_ble_eq_true rfl⟩) hE hP hD hS hA (List.Perm.refl _) (List.Perm.refl _) 0 rfl rfl rfl rfl hl.1 rfl (Nat.le_of_ble_eq_true rfl) dL_law_1238 ⟨by omega, by omega⟩ (fun H locs hP hD hS => ?_)
  refine W.widen (k := cells + 3) (n := slots + 18) (by omega) (by omega) ?_
  refine k_tail (o := o) (cd := (cdPair (xs (i + 1)) (xs (i + 2)))) (f1 := f1) (tgt := 1546) hx hb dL_law_1241 dL_law_1243 dL_law_1248 dL_law_1250 dL_law_1253 dL_law_1254 dL_law_1255 dL_law_1256 dL_law_1258 dL_law_1259 dL_law_1260 dL_law_1265 (by decide) hE hP rfl (lv_at hl 6 rfl) (lv_at hl 1 rfl) (lv_at hl 0 rfl) (Nat.lt_of_le_of_lt (le_L_minutesToFade _ _) (by decide)) ef qt ?_
  exact kk H locs ls f1 c1 m2 S1 hP hD hS (lv_sub hl [2, 3, 4, 5, 6] rfl)
set_option maxHeartbeats 1000000 in
set_option maxRecDepth 100000 in
theorem st_minutesToQuestion {p : Program} {l : Launch} {e : Env} {s : State} {m : MethodId} {below : List Frame} {meth : Method} {c : Code} {H : Heap} {locs : List Loc} {cells slots : Nat} {Q : State → Prop} {ls : Array Slot} {g : kG} {sa : Nat → Nat} {b L i o u : Nat} {xs : Nat → Int32} {ah at9 a0 am : Nat → Nat} {ak : Nat → Nat → Nat} {f : Nat → Int64} {cs : CSt} {m9 : MSt} (LW : LwC p l s m c g sa b L xs) (hi : i + 4 ≤ L) (hcl : cells + 3 ≤ room_1.cells) (hsl : slots + 18 ≤ room_1.slots) (LI : LwI s g b o u ah at9 a0 ak am i H locs ls f cs m9) (kk : LwK p l e s m below meth c g b o u ah at9 a0 ak am i (cells + 3) (slots + 18) Q) : W p l e room_1 s m #[Value.ref b] below meth c H locs cells slots Q (F0 m 1268 ls []) := by
  obtain ⟨hF, hfl, hE, hSt, hZ, hX, hbl, hLL⟩ := LW
  obtain ⟨hx, hb, hml, hown, hts⟩ := id hF
  obtain ⟨S, hP, hD, hS, hl⟩ := LI
  have hA : ∀ q : Nat, s.heap.size ≤ q → (fun q : Nat => s.heap.size ≤ q) q := fun _ h => h
  have hbA : ¬ (fun q : Nat => s.heap.size ≤ q) b := Nat.not_le.mpr hbl
  obtain ⟨-, -, hbo, hod, hsz, hjm, hbs, -, hn, hln, hch, -⟩ := id S
  have hbf := (sim_bf S).1
  refine lv_aload_n hx hb dL_law_1268 rfl (lv_at hl 2 rfl) ?_
  refine k_Vi (As := []) (r := (HasksIn (ch cs))) (w0 := (wC g u ah at9 a0 ak cs)) (w1 := (wC g u ah at9 a0 ak cs)) (wr := (wM g am m9) ++ (wO g o f)) (ws1 := (wA g o u ah at9 a0 ak am f cs m9)) hF (c_X3_minutesToQuestion l g u ah at9 a0 ak (ch cs) (csg cs) (cn cs) hn hch (cod cs) (csz cs) hod hsz (chs cs) hbo hbs ) (cwV 0 hts gL_law_X3_minutesToQuestion rfl rfl rfl (by decide +kernel) ⟨Nat.le_of_ble_eq_true rfl, Nat.le_of_ble_eq_true rfl⟩) hE hP hD hS hA (pm_last _ _ _) (pm_last _ _ _).symm 7 rfl rfl rfl rfl hl.1 rfl (Nat.le_of_ble_eq_true rfl) dL_law_1269 ⟨by omega, by omega⟩ (fun H locs hP hD hS => ?_)
  have eqA : (HasksIn (ch cs)) = (MasksIn (ms m9)) := (q_minutesToQuestion S)
  have S1 : Sim cs (sMth m9 (nI 0)) := (sim_th S _)
  rw [eqA]
  refine lv_aload_n hx hb dL_law_1272 rfl (lv_at hl 3 rfl) ?_
  refine k_Vi (As := []) (r := (MasksIn (ms m9))) (w0 := (wM g am m9)) (w1 := (wM g am (sMth m9 (nI 0)))) (wr := (wOC g o u ah at9 a0 ak f cs)) (ws1 := (wA g o u ah at9 a0 ak am f cs (sMth m9 (nI 0)))) hF (c_X4_minutesToQuestion l g am m9 (csz cs) hsz hjm ) (cwV 0 hts gL_law_X4_minutesToQuestion rfl rfl rfl (by decide +kernel) ⟨Nat.le_of_ble_eq_true rfl, Nat.le_of_ble_eq_true rfl⟩) hE hP hD hS hA (List.Perm.refl _) (List.Perm.refl _) 0 rfl rfl rfl rfl hl.1 rfl (Nat.le_of_ble_eq_true rfl) dL_law_1273 ⟨by omega, by omega⟩ (fun H locs hP hD hS => ?_)
  obtain ⟨m2, em2⟩ : ∃ x, (sMth m9 (nI 0)) = x := ⟨_, rfl⟩
  rw [em2] at hP hD S1
  refine W.widen (k := cells + 3) (n := slots + 18) (by omega) (by omega) ?_
  refine lv_icmp_eq (tgt := 1546) hx hb dL_law_1276 (by decide) (fun _ => ?_) (fun h9 => absurd rfl h9)
  exact kk H locs ls f cs m2 S1 hP hD hS hl
set_option maxHeartbeats 1000000 in
set_option maxRecDepth 100000 in
theorem st_disturbedAfter {p : Program} {l : Launch} {e : Env} {s : State} {m : MethodId} {below : List Frame} {meth : Method} {c : Code} {H : Heap} {locs : List Loc} {cells slots : Nat} {Q : State → Prop} {ls : Array Slot} {g : kG} {sa : Nat → Nat} {b L i o u : Nat} {xs : Nat → Int32} {ah at9 a0 am : Nat → Nat} {ak : Nat → Nat → Nat} {f : Nat → Int64} {cs : CSt} {m9 : MSt} (LW : LwC p l s m c g sa b L xs) (hi : i + 4 ≤ L) (hcl : cells + 3 ≤ room_1.cells) (hsl : slots + 18 ≤ room_1.slots) (LI : LwI s g b o u ah at9 a0 ak am i H locs ls f cs m9) (kk : LwK p l e s m below meth c g b o u ah at9 a0 ak am i (cells + 3) (slots + 18) Q) : W p l e room_1 s m #[Value.ref b] below meth c H locs cells slots Q (F0 m 1281 ls []) := by
  obtain ⟨hF, hfl, hE, hSt, hZ, hX, hbl, hLL⟩ := LW
  obtain ⟨hx, hb, hml, hown, hts⟩ := id hF
  obtain ⟨S, hP, hD, hS, hl⟩ := LI
  have hA : ∀ q : Nat, s.heap.size ≤ q → (fun q : Nat => s.heap.size ≤ q) q := fun _ h => h
  have hbA : ¬ (fun q : Nat => s.heap.size ≤ q) b := Nat.not_le.mpr hbl
  obtain ⟨-, -, hbo, hod, hsz, hjm, hbs, -, hn, hln, hch, -⟩ := id S
  have hbf := (sim_bf S).1
  refine lv_aload_n hx hb dL_law_1281 rfl (lv_at hl 2 rfl) ?_
  refine k_arg (i := i) (k := 1) hx hb (by decide) (by omega) hLL hX hbl hbA hS (lv_at hl 1 rfl) (lv_at hl 0 rfl) dL_law_1282 dL_law_1283 dL_law_1285 dL_law_1286 dL_law_1287 ?_
  refine k_arg (i := i) (k := 2) hx hb (by decide) (by omega) hLL hX hbl hbA hS (lv_at hl 1 rfl) (lv_at hl 0 rfl) dL_law_1288 dL_law_1289 dL_law_1291 dL_law_1292 dL_law_1293 ?_
  refine lv_aload_n hx hb dL_law_1294 rfl (lv_at hl 4 rfl) ?_
  obtain ⟨qt, q2, q3⟩ := q_disturbedAfter S (xs (i + 1)) (xs (i + 2))
  obtain ⟨f1, c1, eW, ef, S1⟩ := law_pick (g := g) (o := o) (u := u) (ah := ah) (at9 := at9) (a0 := a0) (ak := ak) (f := f) q2 q3
  refine k_SWi (As := [.ref u, .int (xs (i + 1)), .int (xs (i + 2)), .ref o]) (r := nI (cdDist (xs (i + 1)) (xs (i + 2)))) (w0 := (wOC g o u ah at9 a0 ak f cs)) (w1 := (if (cdDist (xs (i + 1)) (xs (i + 2))) = 0 then (wOC g o u ah at9 a0 ak (vp_updL f 0 (Int32.toInt64 (nI (Hdist (ch cs) (xs (i + 1)).toNatClampNeg (xs (i + 2)).toNatClampNeg 8)))) cs) else (wOC g o u ah at9 a0 ak f cs))) (wr := (wM g am m9)) (ws1 := (wM g am m9) ++ (if (cdDist (xs (i + 1)) (xs (i + 2))) = 0 then (wOC g o u ah at9 a0 ak (vp_updL f 0 (Int32.toInt64 (nI (Hdist (ch cs) (xs (i + 1)).toNatClampNeg (xs (i + 2)).toNatClampNeg 8)))) cs) else (wOC g o u ah at9 a0 ak f cs))) hF (c_L_disturbedAfter l hfl g sa u ah at9 a0 ak (ch cs) (csg cs) (cn cs) hn hch (cod cs) (csz cs) hod hsz (chs cs) hbo hbs o f (xs (i + 1)) (xs (i + 2))) (vx_cwSW 4 hts gL_law_L_disturbedAfter rfl rfl rfl (by decide +kernel) ⟨Nat.le_of_ble_eq_true rfl, Nat.le_of_ble_eq_true rfl⟩) hE hSt hZ hP hD hS hA List.perm_append_comm List.perm_append_comm rfl hl.1 rfl (Nat.le_of_ble_eq_true rfl) dL_law_1295 ⟨by omega, by omega⟩ (fun H locs hP hD hS => ?_)
  rw [eW] at hP hD
  refine lv_istore (lv' := [(5, .int (nI (cdDist (xs (i + 1)) (xs (i + 2))))), (4, .int (nI i)), (0, .ref b), (1, .ref u), (2, .ref (am 0)), (3, .ref o)]) hx hb dL_law_1298 hl (by decide) rfl (fun ls hl => ?_)
  refine lv_aload_n hx hb dL_law_1300 rfl (lv_at hl 4 rfl) ?_
  refine k_arg (i := i) (k := 1) hx hb (by decide) (by omega) hLL hX hbl hbA hS (lv_at hl 2 rfl) (lv_at hl 1 rfl) dL_law_1301 dL_law_1302 dL_law_1304 dL_law_1305 dL_law_1306 ?_
  refine k_arg (i := i) (k := 2) hx hb (by decide) (by omega) hLL hX hbl hbA hS (lv_at hl 2 rfl) (lv_at hl 1 rfl) dL_law_1307 dL_law_1308 dL_law_1310 dL_law_1311 dL_law_1312 ?_
  refine k_Vi (As := [.int (xs (i + 1)), .int (xs (i + 2))]) (r := (MdistR (xs (i + 1)) (xs (i + 2)) m9)) (w0 := (wM g am m9)) (w1 := (wM g am (MdistS (xs (i + 1)) (xs (i + 2)) m9))) (wr := (wOC g o u ah at9 a0 ak f1 c1)) (ws1 := (wA g o u ah at9 a0 ak am f1 c1 (MdistS (xs (i + 1)) (xs (i + 2)) m9))) hF (c_X4_disturbedAfter l g am m9 (csz cs) hsz hjm (xs (i + 1)) (xs (i + 2))) (cwV 2 hts gL_law_X4_disturbedAfter rfl rfl rfl (by decide +kernel) ⟨Nat.le_of_ble_eq_true rfl, Nat.le_of_ble_eq_true rfl⟩) hE hP hD hS hA (List.Perm.refl _) (List.Perm.refl _) 0 rfl rfl rfl rfl hl.1 rfl (Nat.le_of_ble_eq_true rfl) dL_law_1313 ⟨by omega, by omega⟩ (fun H locs hP hD hS => ?_)
  obtain ⟨m2, em2⟩ : ∃ x, (MdistS (xs (i + 1)) (xs (i + 2)) m9) = x := ⟨_, rfl⟩
  rw [em2] at hP hD S1 qt
  obtain ⟨bv, ebv⟩ : ∃ x, (MdistR (xs (i + 1)) (xs (i + 2)) m9) = x := ⟨_, rfl⟩
  rw [ebv] at ef ⊢
  refine lv_istore (lv' := [(6, .int bv), (5, .int (nI (cdDist (xs (i + 1)) (xs (i + 2))))), (4, .int (nI i)), (0, .ref b), (1, .ref u), (2, .ref (am 0)), (3, .ref o)]) hx hb dL_law_1316 hl (by decide) rfl (fun ls hl => ?_)
  refine lv_aload_n hx hb dL_law_1318 rfl (lv_at hl 5 rfl) ?_
  refine k_Vi (As := []) (r := mth m2) (w0 := (wM g am m2)) (w1 := (wM g am m2)) (wr := (wOC g o u ah at9 a0 ak f1 c1)) (ws1 := (wA g o u ah at9 a0 ak am f1 c1 m2)) hF (c_X4_thrown l g am m2) (cwV 0 hts gL_law_X4_thrown rfl rfl rfl (by decide +kernel) ⟨Nat.le_of_ble_eq_true rfl, Nat.le_of_ble_eq_true rfl⟩) hE hP hD hS hA (List.Perm.refl _) (List.Perm.refl _) 0 rfl rfl rfl rfl hl.1 rfl (Nat.le_of_ble_eq_true rfl) dL_law_1319 ⟨by omega, by omega⟩ (fun H locs hP hD hS => ?_)
  refine W.widen (k := cells + 3) (n := slots + 18) (by omega) (by omega) ?_
  refine k_tail (o := o) (cd := (cdDist (xs (i + 1)) (xs (i + 2)))) (f1 := f1) (tgt := 1546) hx hb dL_law_1322 dL_law_1324 dL_law_1329 dL_law_1331 dL_law_1334 dL_law_1335 dL_law_1336 dL_law_1337 dL_law_1339 dL_law_1340 dL_law_1341 dL_law_1346 (by decide) hE hP rfl (lv_at hl 6 rfl) (lv_at hl 1 rfl) (lv_at hl 0 rfl) (Nat.lt_of_le_of_lt (le_L_disturbedAfter _ _) (by decide)) ef qt ?_
  exact kk H locs ls f1 c1 m2 S1 hP hD hS (lv_sub hl [2, 3, 4, 5, 6] rfl)
