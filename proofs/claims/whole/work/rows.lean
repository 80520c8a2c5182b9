section
-- ===== PART A: goes FIRST, ahead of the names: the tables' words, and 'selects' of the private methods out of them =====
/-- a private method of a class that the tables say can be made, by its rows of tables_1 -/
def lw_okq (q : MethodName × Nat) : Prop := (q.1.cls ≠ "java/lang/invoke/MethodHandle" ∧ q.1.cls ≠ "java/lang/invoke/VarHandle") ∧ Cond.instantiable q.1.cls q.2 ∈ tables_1 ∧ Cond.privateMethod q.1 ∈ tables_1 ∧ Cond.instanceMethod q.1 ∈ tables_1
theorem lw_p0 : lw_okq (⟨"ConcertUsher$Hall", "timeBetweenQuestions", "()I"⟩, 12) := ⟨⟨by decide +kernel, by decide +kernel⟩, List.mem_of_getElem? (i := 24) (by decide +kernel), List.mem_of_getElem? (i := 175) (by decide +kernel), List.mem_of_getElem? (i := 176) (by decide +kernel)⟩
theorem lw_p1 : lw_okq (⟨"ConcertUsher", "mixRow", "(JI)J"⟩, 3) := ⟨⟨by decide +kernel, by decide +kernel⟩, List.mem_of_getElem? (i := 16) (by decide +kernel), List.mem_of_getElem? (i := 242) (by decide +kernel), List.mem_of_getElem? (i := 243) (by decide +kernel)⟩
theorem lw_p2 : lw_okq (⟨"java/lang/Throwable", "fillInStackTrace", "(I)Ljava/lang/Throwable;"⟩, 6) := ⟨⟨by decide +kernel, by decide +kernel⟩, List.mem_of_getElem? (i := 306) (by decide +kernel), List.mem_of_getElem? (i := 304) (by decide +kernel), List.mem_of_getElem? (i := 305) (by decide +kernel)⟩
theorem lw_p3 : lw_okq (⟨"ConcertUsher$Hall", "hearCall", "(I)V"⟩, 12) := ⟨⟨by decide +kernel, by decide +kernel⟩, List.mem_of_getElem? (i := 24) (by decide +kernel), List.mem_of_getElem? (i := 364) (by decide +kernel), List.mem_of_getElem? (i := 365) (by decide +kernel)⟩
theorem lw_p4 : lw_okq (⟨"ConcertUsher$Hall", "hearFarewell", "(I)V"⟩, 12) := ⟨⟨by decide +kernel, by decide +kernel⟩, List.mem_of_getElem? (i := 24) (by decide +kernel), List.mem_of_getElem? (i := 381) (by decide +kernel), List.mem_of_getElem? (i := 382) (by decide +kernel)⟩
theorem lw_p5 : lw_okq (⟨"ConcertUsher$Hall", "askRow", "(I)V"⟩, 12) := ⟨⟨by decide +kernel, by decide +kernel⟩, List.mem_of_getElem? (i := 24) (by decide +kernel), List.mem_of_getElem? (i := 385) (by decide +kernel), List.mem_of_getElem? (i := 386) (by decide +kernel)⟩
theorem lw_p6 : lw_okq (⟨"ConcertUsher$Hall", "fadeEntries", "()V"⟩, 12) := ⟨⟨by decide +kernel, by decide +kernel⟩, List.mem_of_getElem? (i := 24) (by decide +kernel), List.mem_of_getElem? (i := 484) (by decide +kernel), List.mem_of_getElem? (i := 485) (by decide +kernel)⟩
theorem lw_p7 : lw_okq (⟨"ConcertUsher$Hall", "askAllRows", "()V"⟩, 12) := ⟨⟨by decide +kernel, by decide +kernel⟩, List.mem_of_getElem? (i := 24) (by decide +kernel), List.mem_of_getElem? (i := 488) (by decide +kernel), List.mem_of_getElem? (i := 489) (by decide +kernel)⟩
theorem lw_p8 : lw_okq (⟨"ConcertUsher", "doEvents", "()I"⟩, 3) := ⟨⟨by decide +kernel, by decide +kernel⟩, List.mem_of_getElem? (i := 16) (by decide +kernel), List.mem_of_getElem? (i := 563) (by decide +kernel), List.mem_of_getElem? (i := 564) (by decide +kernel)⟩
theorem lw_p9 : lw_okq (⟨"ConcertUsher", "doEvent", "(I)Z"⟩, 3) := ⟨⟨by decide +kernel, by decide +kernel⟩, List.mem_of_getElem? (i := 16) (by decide +kernel), List.mem_of_getElem? (i := 571) (by decide +kernel), List.mem_of_getElem? (i := 572) (by decide +kernel)⟩
theorem lw_p10 : lw_okq (⟨"ConcertUsher", "seatIfRoom", "(I)Z"⟩, 3) := ⟨⟨by decide +kernel, by decide +kernel⟩, List.mem_of_getElem? (i := 16) (by decide +kernel), List.mem_of_getElem? (i := 580) (by decide +kernel), List.mem_of_getElem? (i := 581) (by decide +kernel)⟩
theorem lw_p11 : lw_okq (⟨"ConcertUsher", "unseatIfWanted", "(IZ)Z"⟩, 3) := ⟨⟨by decide +kernel, by decide +kernel⟩, List.mem_of_getElem? (i := 16) (by decide +kernel), List.mem_of_getElem? (i := 584) (by decide +kernel), List.mem_of_getElem? (i := 585) (by decide +kernel)⟩
theorem lw_p12 : lw_okq (⟨"ConcertUsherModel", "fails", "(I)I"⟩, 12) := ⟨⟨by decide +kernel, by decide +kernel⟩, List.mem_of_getElem? (i := 605) (by decide +kernel), List.mem_of_getElem? (i := 662) (by decide +kernel), List.mem_of_getElem? (i := 663) (by decide +kernel)⟩
theorem lw_p13 : lw_okq (⟨"ConcertUsherModel", "saves", "()V"⟩, 12) := ⟨⟨by decide +kernel, by decide +kernel⟩, List.mem_of_getElem? (i := 605) (by decide +kernel), List.mem_of_getElem? (i := 669) (by decide +kernel), List.mem_of_getElem? (i := 670) (by decide +kernel)⟩
theorem lw_p14 : lw_okq (⟨"ConcertUsherModel", "comes", "(I)I"⟩, 12) := ⟨⟨by decide +kernel, by decide +kernel⟩, List.mem_of_getElem? (i := 605) (by decide +kernel), List.mem_of_getElem? (i := 673) (by decide +kernel), List.mem_of_getElem? (i := 674) (by decide +kernel)⟩
theorem lw_p15 : lw_okq (⟨"ConcertUsherModel", "calls", "(I)V"⟩, 12) := ⟨⟨by decide +kernel, by decide +kernel⟩, List.mem_of_getElem? (i := 605) (by decide +kernel), List.mem_of_getElem? (i := 677) (by decide +kernel), List.mem_of_getElem? (i := 678) (by decide +kernel)⟩
def lw_privs_1 : List (MethodName × Nat) := [(⟨"ConcertUsher$Hall", "timeBetweenQuestions", "()I"⟩, 12), (⟨"ConcertUsher", "mixRow", "(JI)J"⟩, 3), (⟨"java/lang/Throwable", "fillInStackTrace", "(I)Ljava/lang/Throwable;"⟩, 6), (⟨"ConcertUsher$Hall", "hearCall", "(I)V"⟩, 12), (⟨"ConcertUsher$Hall", "hearFarewell", "(I)V"⟩, 12), (⟨"ConcertUsher$Hall", "askRow", "(I)V"⟩, 12), (⟨"ConcertUsher$Hall", "fadeEntries", "()V"⟩, 12), (⟨"ConcertUsher$Hall", "askAllRows", "()V"⟩, 12), (⟨"ConcertUsher", "doEvents", "()I"⟩, 3), (⟨"ConcertUsher", "doEvent", "(I)Z"⟩, 3), (⟨"ConcertUsher", "seatIfRoom", "(I)Z"⟩, 3), (⟨"ConcertUsher", "unseatIfWanted", "(IZ)Z"⟩, 3), (⟨"ConcertUsherModel", "fails", "(I)I"⟩, 12), (⟨"ConcertUsherModel", "saves", "()V"⟩, 12), (⟨"ConcertUsherModel", "comes", "(I)I"⟩, 12), (⟨"ConcertUsherModel", "calls", "(I)V"⟩, 12)]
theorem lw_r1 : ∀ q ∈ lw_privs_1, lw_okq q := List.forall_mem_cons.mpr ⟨lw_p0, List.forall_mem_cons.mpr ⟨lw_p1, List.forall_mem_cons.mpr ⟨lw_p2, List.forall_mem_cons.mpr ⟨lw_p3, List.forall_mem_cons.mpr ⟨lw_p4, List.forall_mem_cons.mpr ⟨lw_p5, List.forall_mem_cons.mpr ⟨lw_p6, List.forall_mem_cons.mpr ⟨lw_p7, List.forall_mem_cons.mpr ⟨lw_p8, List.forall_mem_cons.mpr ⟨lw_p9, List.forall_mem_cons.mpr ⟨lw_p10, List.forall_mem_cons.mpr ⟨lw_p11, List.forall_mem_cons.mpr ⟨lw_p12, List.forall_mem_cons.mpr ⟨lw_p13, List.forall_mem_cons.mpr ⟨lw_p14, List.forall_mem_cons.mpr ⟨lw_p15, fun _ h => absurd h List.not_mem_nil⟩⟩⟩⟩⟩⟩⟩⟩⟩⟩⟩⟩⟩⟩⟩⟩
theorem lw_p16 : lw_okq (⟨"ConcertUsherModel", "leaves", "(IZ)I"⟩, 12) := ⟨⟨by decide +kernel, by decide +kernel⟩, List.mem_of_getElem? (i := 605) (by decide +kernel), List.mem_of_getElem? (i := 685) (by decide +kernel), List.mem_of_getElem? (i := 686) (by decide +kernel)⟩
theorem lw_p17 : lw_okq (⟨"ConcertUsherModel", "farewell", "(I)V"⟩, 12) := ⟨⟨by decide +kernel, by decide +kernel⟩, List.mem_of_getElem? (i := 605) (by decide +kernel), List.mem_of_getElem? (i := 689) (by decide +kernel), List.mem_of_getElem? (i := 690) (by decide +kernel)⟩
theorem lw_p18 : lw_okq (⟨"ConcertUsherModel", "chiefNow", "()I"⟩, 12) := ⟨⟨by decide +kernel, by decide +kernel⟩, List.mem_of_getElem? (i := 605) (by decide +kernel), List.mem_of_getElem? (i := 713) (by decide +kernel), List.mem_of_getElem? (i := 714) (by decide +kernel)⟩
theorem lw_p19 : lw_okq (⟨"ConcertUsherModel", "entriesNow", "()I"⟩, 12) := ⟨⟨by decide +kernel, by decide +kernel⟩, List.mem_of_getElem? (i := 605) (by decide +kernel), List.mem_of_getElem? (i := 729) (by decide +kernel), List.mem_of_getElem? (i := 730) (by decide +kernel)⟩
theorem lw_p20 : lw_okq (⟨"ConcertUsherModel", "rowsOf", "(I)I"⟩, 12) := ⟨⟨by decide +kernel, by decide +kernel⟩, List.mem_of_getElem? (i := 605) (by decide +kernel), List.mem_of_getElem? (i := 744) (by decide +kernel), List.mem_of_getElem? (i := 745) (by decide +kernel)⟩
theorem lw_p21 : lw_okq (⟨"ConcertUsherModel", "goes", "(II)Z"⟩, 12) := ⟨⟨by decide +kernel, by decide +kernel⟩, List.mem_of_getElem? (i := 605) (by decide +kernel), List.mem_of_getElem? (i := 748) (by decide +kernel), List.mem_of_getElem? (i := 749) (by decide +kernel)⟩
theorem lw_p22 : lw_okq (⟨"ConcertUsherModel", "wantedOf", "(I)I"⟩, 12) := ⟨⟨by decide +kernel, by decide +kernel⟩, List.mem_of_getElem? (i := 605) (by decide +kernel), List.mem_of_getElem? (i := 756) (by decide +kernel), List.mem_of_getElem? (i := 757) (by decide +kernel)⟩
theorem lw_p23 : lw_okq (⟨"ConcertUsherModel", "wants", "(II)Z"⟩, 12) := ⟨⟨by decide +kernel, by decide +kernel⟩, List.mem_of_getElem? (i := 605) (by decide +kernel), List.mem_of_getElem? (i := 760) (by decide +kernel), List.mem_of_getElem? (i := 761) (by decide +kernel)⟩
theorem lw_p24 : lw_okq (⟨"ConcertUsherModel", "passes", "(I)I"⟩, 12) := ⟨⟨by decide +kernel, by decide +kernel⟩, List.mem_of_getElem? (i := 605) (by decide +kernel), List.mem_of_getElem? (i := 768) (by decide +kernel), List.mem_of_getElem? (i := 769) (by decide +kernel)⟩
theorem lw_p25 : lw_okq (⟨"ConcertUsherModel", "goesBy", "()Z"⟩, 12) := ⟨⟨by decide +kernel, by decide +kernel⟩, List.mem_of_getElem? (i := 605) (by decide +kernel), List.mem_of_getElem? (i := 772) (by decide +kernel), List.mem_of_getElem? (i := 773) (by decide +kernel)⟩
theorem lw_p26 : lw_okq (⟨"ConcertUsherModel", "due", "()I"⟩, 12) := ⟨⟨by decide +kernel, by decide +kernel⟩, List.mem_of_getElem? (i := 605) (by decide +kernel), List.mem_of_getElem? (i := 776) (by decide +kernel), List.mem_of_getElem? (i := 777) (by decide +kernel)⟩
theorem lw_p27 : lw_okq (⟨"ConcertUsherModel", "plays", "(I)I"⟩, 12) := ⟨⟨by decide +kernel, by decide +kernel⟩, List.mem_of_getElem? (i := 605) (by decide +kernel), List.mem_of_getElem? (i := 784) (by decide +kernel), List.mem_of_getElem? (i := 785) (by decide +kernel)⟩
theorem lw_p28 : lw_okq (⟨"ConcertUsherModel", "fadesIn", "(I)I"⟩, 12) := ⟨⟨by decide +kernel, by decide +kernel⟩, List.mem_of_getElem? (i := 605) (by decide +kernel), List.mem_of_getElem? (i := 808) (by decide +kernel), List.mem_of_getElem? (i := 809) (by decide +kernel)⟩
theorem lw_p29 : lw_okq (⟨"ConcertUsherModel", "putAside", "()V"⟩, 12) := ⟨⟨by decide +kernel, by decide +kernel⟩, List.mem_of_getElem? (i := 605) (by decide +kernel), List.mem_of_getElem? (i := 812) (by decide +kernel), List.mem_of_getElem? (i := 813) (by decide +kernel)⟩
theorem lw_p30 : lw_okq (⟨"ConcertUsherModel", "takeBack", "()V"⟩, 12) := ⟨⟨by decide +kernel, by decide +kernel⟩, List.mem_of_getElem? (i := 605) (by decide +kernel), List.mem_of_getElem? (i := 816) (by decide +kernel), List.mem_of_getElem? (i := 817) (by decide +kernel)⟩
theorem lw_p31 : lw_okq (⟨"ConcertUsherModel", "asksIn", "()I"⟩, 12) := ⟨⟨by decide +kernel, by decide +kernel⟩, List.mem_of_getElem? (i := 605) (by decide +kernel), List.mem_of_getElem? (i := 824) (by decide +kernel), List.mem_of_getElem? (i := 825) (by decide +kernel)⟩
def lw_privs_2 : List (MethodName × Nat) := [(⟨"ConcertUsherModel", "leaves", "(IZ)I"⟩, 12), (⟨"ConcertUsherModel", "farewell", "(I)V"⟩, 12), (⟨"ConcertUsherModel", "chiefNow", "()I"⟩, 12), (⟨"ConcertUsherModel", "entriesNow", "()I"⟩, 12), (⟨"ConcertUsherModel", "rowsOf", "(I)I"⟩, 12), (⟨"ConcertUsherModel", "goes", "(II)Z"⟩, 12), (⟨"ConcertUsherModel", "wantedOf", "(I)I"⟩, 12), (⟨"ConcertUsherModel", "wants", "(II)Z"⟩, 12), (⟨"ConcertUsherModel", "passes", "(I)I"⟩, 12), (⟨"ConcertUsherModel", "goesBy", "()Z"⟩, 12), (⟨"ConcertUsherModel", "due", "()I"⟩, 12), (⟨"ConcertUsherModel", "plays", "(I)I"⟩, 12), (⟨"ConcertUsherModel", "fadesIn", "(I)I"⟩, 12), (⟨"ConcertUsherModel", "putAside", "()V"⟩, 12), (⟨"ConcertUsherModel", "takeBack", "()V"⟩, 12), (⟨"ConcertUsherModel", "asksIn", "()I"⟩, 12)]
theorem lw_r2 : ∀ q ∈ lw_privs_2, lw_okq q := List.forall_mem_cons.mpr ⟨lw_p16, List.forall_mem_cons.mpr ⟨lw_p17, List.forall_mem_cons.mpr ⟨lw_p18, List.forall_mem_cons.mpr ⟨lw_p19, List.forall_mem_cons.mpr ⟨lw_p20, List.forall_mem_cons.mpr ⟨lw_p21, List.forall_mem_cons.mpr ⟨lw_p22, List.forall_mem_cons.mpr ⟨lw_p23, List.forall_mem_cons.mpr ⟨lw_p24, List.forall_mem_cons.mpr ⟨lw_p25, List.forall_mem_cons.mpr ⟨lw_p26, List.forall_mem_cons.mpr ⟨lw_p27, List.forall_mem_cons.mpr ⟨lw_p28, List.forall_mem_cons.mpr ⟨lw_p29, List.forall_mem_cons.mpr ⟨lw_p30, List.forall_mem_cons.mpr ⟨lw_p31, fun _ h => absurd h List.not_mem_nil⟩⟩⟩⟩⟩⟩⟩⟩⟩⟩⟩⟩⟩⟩⟩⟩
theorem lw_p32 : lw_okq (⟨"ConcertUsherModel", "reads", "()Z"⟩, 12) := ⟨⟨by decide +kernel, by decide +kernel⟩, List.mem_of_getElem? (i := 605) (by decide +kernel), List.mem_of_getElem? (i := 844) (by decide +kernel), List.mem_of_getElem? (i := 845) (by decide +kernel)⟩
theorem lw_p33 : lw_okq (⟨"ConcertUsherModel", "readsEvent", "()V"⟩, 12) := ⟨⟨by decide +kernel, by decide +kernel⟩, List.mem_of_getElem? (i := 605) (by decide +kernel), List.mem_of_getElem? (i := 848) (by decide +kernel), List.mem_of_getElem? (i := 849) (by decide +kernel)⟩
theorem lw_p34 : lw_okq (⟨"ConcertUsherModel", "sign", "()I"⟩, 12) := ⟨⟨by decide +kernel, by decide +kernel⟩, List.mem_of_getElem? (i := 605) (by decide +kernel), List.mem_of_getElem? (i := 852) (by decide +kernel), List.mem_of_getElem? (i := 853) (by decide +kernel)⟩
theorem lw_p35 : lw_okq (⟨"ConcertUsherModel", "number", "()I"⟩, 12) := ⟨⟨by decide +kernel, by decide +kernel⟩, List.mem_of_getElem? (i := 605) (by decide +kernel), List.mem_of_getElem? (i := 856) (by decide +kernel), List.mem_of_getElem? (i := 857) (by decide +kernel)⟩
theorem lw_p36 : lw_okq (⟨"ConcertUsherModel", "figure", "(II)I"⟩, 12) := ⟨⟨by decide +kernel, by decide +kernel⟩, List.mem_of_getElem? (i := 605) (by decide +kernel), List.mem_of_getElem? (i := 860) (by decide +kernel), List.mem_of_getElem? (i := 861) (by decide +kernel)⟩
theorem lw_p37 : lw_okq (⟨"ConcertUsherModel", "does", "(I)Z"⟩, 12) := ⟨⟨by decide +kernel, by decide +kernel⟩, List.mem_of_getElem? (i := 605) (by decide +kernel), List.mem_of_getElem? (i := 868) (by decide +kernel), List.mem_of_getElem? (i := 869) (by decide +kernel)⟩
theorem lw_p38 : lw_okq (⟨"ConcertUsherModel", "hashes", "(I)V"⟩, 12) := ⟨⟨by decide +kernel, by decide +kernel⟩, List.mem_of_getElem? (i := 605) (by decide +kernel), List.mem_of_getElem? (i := 885) (by decide +kernel), List.mem_of_getElem? (i := 886) (by decide +kernel)⟩
def lw_privs_3 : List (MethodName × Nat) := [(⟨"ConcertUsherModel", "reads", "()Z"⟩, 12), (⟨"ConcertUsherModel", "readsEvent", "()V"⟩, 12), (⟨"ConcertUsherModel", "sign", "()I"⟩, 12), (⟨"ConcertUsherModel", "number", "()I"⟩, 12), (⟨"ConcertUsherModel", "figure", "(II)I"⟩, 12), (⟨"ConcertUsherModel", "does", "(I)Z"⟩, 12), (⟨"ConcertUsherModel", "hashes", "(I)V"⟩, 12)]
theorem lw_r3 : ∀ q ∈ lw_privs_3, lw_okq q := List.forall_mem_cons.mpr ⟨lw_p32, List.forall_mem_cons.mpr ⟨lw_p33, List.forall_mem_cons.mpr ⟨lw_p34, List.forall_mem_cons.mpr ⟨lw_p35, List.forall_mem_cons.mpr ⟨lw_p36, List.forall_mem_cons.mpr ⟨lw_p37, List.forall_mem_cons.mpr ⟨lw_p38, fun _ h => absurd h List.not_mem_nil⟩⟩⟩⟩⟩⟩⟩
def lw_privs : List (MethodName × Nat) := lw_privs_1 ++ (lw_privs_2 ++ (lw_privs_3))
def lw_tbl : List Cond := k2_sels lw_privs ++ tables_1
theorem lw_privs_ok : ∀ q ∈ lw_privs, lw_okq q := by
  show ∀ q ∈ lw_privs_1 ++ (lw_privs_2 ++ (lw_privs_3)), lw_okq q
  exact List.forall_mem_append.mpr ⟨lw_r1, List.forall_mem_append.mpr ⟨lw_r2, lw_r3⟩⟩
/-- the streams that the claim lets the run draw from -/
abbrev lw_cs : List Choice := [Jvm.Choice.named "NaN.bits"]
theorem lw_bits : nanBits ∈ lw_cs := by first | decide | exact List.mem_cons_self | simp [lw_cs, nanBits]
-- ===== end of PART A; then your names; then what follows =====
end
section
/-! ===== BEGIN words of one list among another's, by their places ===== -/
theorem goodIn_r {big : List Cond} (ws : List Cond) (ps : List Nat) (hp : ws = ps.filterMap (fun i => big[i]?)) (h : ws.all goodWord = true) : GoodIn big ws := by
  intro w hw
  have h1 := List.all_eq_true.mp h w hw
  rw [hp] at hw
  obtain ⟨i, -, hi⟩ := List.mem_filterMap.mp hw
  have hm : w ∈ big := by first | exact List.mem_of_getElem? hi | exact List.getElem?_mem hi
  exact ⟨hm, good_of_word h1⟩
theorem goodIn_app {big a b : List Cond} (ha : GoodIn big a) (hb : GoodIn big b) : GoodIn big (a ++ b) := fun w h => (List.mem_append.mp h).elim (ha w) (hb w)
theorem goodIn_ca {big a b : List Cond} {c : Cond} (ha : GoodIn big (c :: a)) (hb : GoodIn big b) : GoodIn big (c :: (a ++ b)) := fun w h => (List.mem_cons.mp h).elim (fun e => ha w (List.mem_cons.mpr (Or.inl e))) (fun h => (List.mem_append.mp h).elim (fun h => ha w (List.mem_cons.mpr (Or.inr h))) (hb w))
theorem goodIn_sub {big ws : List Cond} (hm : ∀ w ∈ ws, w ∈ big) (h : ws.all goodWord = true) : GoodIn big ws := fun w hw => ⟨hm w hw, good_of_word (List.all_eq_true.mp h w hw)⟩
/-! ===== END ===== -/

/-! ===== BEGIN exceptions that leave a method, and their catching by the caller (launches without stack traces) ===== -/
section VXA
/-! The laws vx_back, vx_callV, vx_callS, vx_callSW, vx_throw0, vx_throwS follow proofs of the library, with one case more: JvmDerived/Free/Laws.lean (Back.of_free), Shelf42/LK1.lean (callV, callS), Shelf/KitTraced.lean (throwNew0V, throwNewS). -/
/-- where a method has thrown q: the class by its name, the cell, what was written, the world -/
def vx_T (XC : String → State → State → Prop) (st : State) (q : Addr) (t : State) (mc ms : Nat) (free : Addr → Prop) : Prop :=
  ∃ (E : String) (ce : Cell) (L : List Loc), XC E st t ∧ t.heap[q]? = some ce ∧ ce.vm = .none ∧ st.vm.findClass E = some ce.cls ∧ st.WarmedH t.vm ∧ st.sameButNew ({ t with vm := st.vm } : State) L mc ms ∧ ∀ z ∈ L, free z.base
def vx_Q (Qc : Array Value → State → Outcome → State → Prop) (XC : String → State → State → Prop) (mc ms : Nat) (free : Addr → Prop) : Array Value → State → Outcome → State → Prop := fun a st o t =>
  (Qc a st o t ∧ ∃ L, FrameEnd st o t L mc ms ∧ ∀ q ∈ L, free q.base) ∨ ∃ q, o = .threw q ∧ vx_T XC st q t mc ms free
/-- a callee that returns or throws -/
def vx_Met (l : Launch) (y : MethodName) (ws : List Cond) (rm : Room) (Pc : Array Value → State → Prop) (Qc : Array Value → State → Outcome → State → Prop) (XC : String → State → State → Prop) (mc ms : Nat) (free : Addr → Prop) : Prop :=
  MetFree l y (headSpec ws rm) Pc (fun _ _ _ _ _ => True) (vx_Q Qc XC mc ms free)
def vx_Post (XC : String → State → State → Prop) (mc ms : Nat) (free : Addr → Prop) : Pt → Array Value → Addr → Pt → Prop := fun A a q B =>
  ∃ (g : JFrame) (mk : MethodId) (t : State) (L : List Loc) (E : String) (ce : Cell), B.U.heap = t.heap ∧ B.U.vm = t.vm ∧ XC E (A.U.calling g mk a) t ∧ t.heap[q]? = some ce ∧ ce.vm = .none ∧ A.U.vm.findClass E = some ce.cls ∧ B.locs = A.locs ++ L ∧ (∀ z ∈ L, free z.base) ∧ B.cells = A.cells + mc ∧ B.slots = A.slots + ms
def vx_Back (l : Launch) (R : Room) (p : Program) (e : Env) (below : List Frame) (s : State) (sargs : Array Value) (y : MethodName) (len W9 : Nat)
    (Pre : Pt → Array Value → Prop) (Post : Pt → Array Value → Option Value → Pt → Prop) (PostX : Pt → Array Value → Addr → Pt → Prop) : Prop :=
  ∀ (m : MethodId) (meth : Method) (c : Code) (A : Pt) (g : JFrame) (ig : Instr) (mk : MethodId) (a : Array Value),
    Stand p l e R s m sargs below meth c A.U A.locs A.cells A.slots → g.method = m → g.locals.size = c.maxLocals → decode c.code g.pc = .ok (ig, len) →
    2 * g.monitorRoom + (g.stack.map fun v => v.category).sum ≤ W9 → A.U.methodNamed? y = some mk → Pre A a →
    (∃ (v : Option Value) (B : Pt), Stand p l e R s m sargs below meth c B.U B.locs B.cells B.slots ∧ Post A a v B ∧
      Steps p.tables e below (doInvoke e (A.U.setTop g) [] mk a).1 (B.U.setTop { g with pc := g.pc + len, stack := v.toList ++ g.stack })) ∨
    (∃ (q : Addr) (B : Pt), Stand p l e R s m sargs below meth c B.U B.locs B.cells B.slots ∧ PostX A a q B ∧
      Steps p.tables e below (doInvoke e (A.U.setTop g) [] mk a).1 ((B.U.setTop g).pushFrame (.throwing q)))
section Payer
variable {l : Launch} {R : Room} {p : Program} {e : Env} {below : List Frame} {s : State} {sargs : Array Value} {y : MethodName} {len W9 : Nat}
theorem vx_back {ws : List Cond} {rm : Room} {Pc : Array Value → State → Prop} {Qc : Array Value → State → Outcome → State → Prop} {XC : String → State → State → Prop} {mc ms : Nat} {free : Addr → Prop} {bytes : ByteArray} {maxL : Nat} {ret : Option FieldType}
    (hM : vx_Met l y ws rm Pc Qc XC mc ms free) (hblind : FrameBlind Pc) (hrc : rm.cells = mc) (hrs : rm.slots = ms)
    (hframes : rm.frames + 1 ≤ R.frames) (hlocals : W9 + (maxL + 11) + rm.locals ≤ R.locals)
    (hws : ∀ w ∈ ws, ∀ a' U, s.WarmedH U.vm → w.before a' U = true) (hcode : Cond.code y bytes maxL ret ∈ ws) (hinit : ∀ a' U, s.WarmedH U.vm → (Cond.initialized y.cls).before a' U = true) :
    vx_Back l R p e below s sargs y len W9 (PreOf R mc ms Pc) (PostOf Qc mc ms free) (vx_Post XC mc ms free) := by
  intro m meth c A g ig mk a X hg hsize hdg hW hn hp
  have h1 : (headSpec ws rm).pre.before a A.U = true := atoms_intro fun w hw => hws w hw _ _ X.warmed
  have h2 : (Cond.code y bytes maxL ret).before a A.U = true := hws _ hcode _ _ X.warmed
  have h3 : (Cond.initialized y.cls).before a A.U = true := hinit _ _ X.warmed
  have h4 : A.cells + (headSpec ws rm).room.cells ≤ R.cells := by rw [show (headSpec ws rm).room.cells = mc from hrc]; exact hp.1
  have h5 : A.slots + (headSpec ws rm).room.slots ≤ R.slots := by rw [show (headSpec ws rm).room.slots = ms from hrs]; exact hp.2.1
  have hPc : Pc a (A.U.calling g mk a) := hblind _ _ _ _ hp.2.2
  obtain ⟨U, Ls, c0, s0⟩ := A
  dsimp only [Pt.U, Pt.locs, Pt.cells, Pt.slots] at h1 h2 h3 h4 h5 X hn hPc ⊢
  obtain ⟨methY, cY, hmY, hcY, -, hlY, -, -, -, -⟩ := Cond.code_spec hn h2
  obtain ⟨kY, hkY, -⟩ := className_of_methodNamed hn
  have hinitY : kY.init = .initialized := Cond.initialized_spec (findClass_of_methodNamed hn) hkY h3
  have h : At U g.method c below := by rw [hg]; exact X.here
  have hlocals9 : W9 + (maxL + 11) + (headSpec ws rm).room.locals ≤ R.locals := hlocals
  have happ : (headSpec ws rm).appliesLoose y e.platform (U.calling g mk a) = true :=
    Spec.appliesLoose_calling (g := g) h hdg hn hkY hinitY
      (X.room_calling (g := g) (R' := (headSpec ws rm).room) hsize hmY hcY hframes (by rw [hlY]; omega) h4 h5) h1
  obtain ⟨mid, hmid⟩ := h.above
  have hfr : (U.setTop g).frames = (.java g :: mid) ++ below := by rw [State.frames_setTop' g h.top, hmid]; rfl
  obtain ⟨o, s₂, hsteps, -, hend, hq⟩ := Steps.callFree hM p X.admits X.cas X.clock (acts := []) hfr happ hPc trivial
  have hq' : vx_Q Qc XC mc ms free a (U.calling g mk a) o s₂ := hq
  rw [State.frames_setTop' g h.top] at hend
  obtain ⟨g₀, hg0⟩ := Option.isSome_iff_exists.mp h.top
  obtain ⟨r, hr⟩ := State.topJava?_eq_some.mp hg0
  have hr' : (({ U with heap := s₂.heap, slotsUsed := s₂.slotsUsed } : State).setVm s₂.vm).frames = .java g₀ :: r := hr
  rcases hq' with ⟨hqc, L, hfe, hL⟩ | ⟨q, rfl, E, ce, L, hx, hce, hcv, hcl, hW₂, hsm, hL⟩
  · obtain ⟨⟨v, rfl⟩, hW₂, e2, q2, q3, q4, q5, q6⟩ := id hfe
    have e3 : s₂ = ({ (U.calling g mk a).setFrames s₂.frames with heap := s₂.heap, slotsUsed := s₂.slotsUsed } : State).setVm s₂.vm := by
      have : s₂ = ({ s₂ with vm := (U.calling g mk a).vm } : State).setVm s₂.vm := rfl
      rw [e2] at this
      exact this
    obtain ⟨c₂, i₂, len₂, hc₂, hd₂, hf₂⟩ := hend
    have hW' : U.WarmedH s₂.vm := hW₂
    have hcc : c₂ = c := by
      have h1 : s₂.code? g.method = U.code? g.method := by
        rw [State.code?_eq, State.code?_eq, hW'.alike.method?]
      exact Option.some.inj (hc₂.symm.trans (h1.trans h.code))
    subst hcc
    have hlen : len₂ = len := by rw [hdg] at hd₂; cases hd₂; rfl
    subst hlen
    have hs₂ : s₂ = (({ U with heap := s₂.heap, slotsUsed := s₂.slotsUsed } : State).setVm s₂.vm).setTop { g with pc := g.pc + len₂, stack := v.toList ++ g.stack } := by
      refine e3.trans ?_
      rw [hf₂, State.calling_eq h.top, State.setFrames_setFrames, State.setTop_of_frames _ hr', hr]
      rfl
    have hsame : U.sameButNew ({ U with heap := s₂.heap, slotsUsed := s₂.slotsUsed } : State) L mc ms := by
      refine ⟨?_, q2, q3, q4, q5, q6⟩
      obtain ⟨t, ht, -⟩ := State.frames_cons hr
      show ({ U with heap := s₂.heap, slotsUsed := s₂.slotsUsed } : State) = { U.setFrames U.frames with heap := s₂.heap, slotsUsed := s₂.slotsUsed }
      rw [State.setFrames_self ht]
    subst hg
    refine Or.inl ⟨v, ⟨(({ U with heap := s₂.heap, slotsUsed := s₂.slotsUsed } : State).setVm s₂.vm), Ls ++ L, c0 + mc, s0 + ms⟩,
      ⟨X.admits, X.cas, X.clock, X.frames, X.room, X.hears, X.method, X.code, (X.here.setHeapUsed s₂.heap s₂.slotsUsed).setVm hW'.alike, X.tail, State.WarmedH.trans X.warmed hW', X.limits, X.bytes, X.same.trans (hsame.setVm s.vm)⟩,
      ⟨g, mk, s₂, L, rfl, rfl, hqc, rfl, hL, rfl, rfl⟩, ?_⟩
    show Steps p.tables e below _ ((({ U with heap := s₂.heap, slotsUsed := s₂.slotsUsed } : State).setVm s₂.vm).setTop { g with pc := g.pc + len₂, stack := v.toList ++ g.stack })
    rw [← hs₂]
    exact hsteps
  · obtain ⟨e2, q2, q3, q4, q5, q6⟩ := id hsm
    have e3 : s₂ = ({ (U.calling g mk a).setFrames s₂.frames with heap := s₂.heap, slotsUsed := s₂.slotsUsed } : State).setVm s₂.vm := by
      have : s₂ = ({ s₂ with vm := (U.calling g mk a).vm } : State).setVm s₂.vm := rfl
      rw [e2] at this
      exact this
    have hf₂ : s₂.frames = .throwing q :: .java g :: U.frames.tail := hend
    have hW' : U.WarmedH s₂.vm := hW₂
    have hs₂ : s₂ = ((({ U with heap := s₂.heap, slotsUsed := s₂.slotsUsed } : State).setVm s₂.vm).setTop g).pushFrame (.throwing q) := by
      refine e3.trans ?_
      rw [hf₂, State.calling_eq h.top, State.setFrames_setFrames, State.pushFrame, State.frames_setTop _ hr', State.setTop_of_frames _ hr', State.setFrames_setFrames, hr]
      rfl
    have hsame : U.sameButNew ({ U with heap := s₂.heap, slotsUsed := s₂.slotsUsed } : State) L mc ms := by
      refine ⟨?_, q2, q3, q4, q5, q6⟩
      obtain ⟨t, ht, -⟩ := State.frames_cons hr
      show ({ U with heap := s₂.heap, slotsUsed := s₂.slotsUsed } : State) = { U.setFrames U.frames with heap := s₂.heap, slotsUsed := s₂.slotsUsed }
      rw [State.setFrames_self ht]
    subst hg
    refine Or.inr ⟨q, ⟨(({ U with heap := s₂.heap, slotsUsed := s₂.slotsUsed } : State).setVm s₂.vm), Ls ++ L, c0 + mc, s0 + ms⟩,
      ⟨X.admits, X.cas, X.clock, X.frames, X.room, X.hears, X.method, X.code, (X.here.setHeapUsed s₂.heap s₂.slotsUsed).setVm hW'.alike, X.tail, State.WarmedH.trans X.warmed hW', X.limits, X.bytes, X.same.trans (hsame.setVm s.vm)⟩,
      ⟨g, mk, s₂, L, E, ce, rfl, rfl, hx, hce, hcv, hcl, rfl, hL, rfl, rfl⟩, ?_⟩
    show Steps p.tables e below _ (((({ U with heap := s₂.heap, slotsUsed := s₂.slotsUsed } : State).setVm s₂.vm).setTop g).pushFrame (.throwing q))
    rw [← hs₂]
    exact hsteps
end Payer
section Calls
variable {p : Program} {l : Launch} {e : Env} {R : Room} {s : State} {m : MethodId} {args : Array Value} {below : List Frame} {meth : Method} {c : Code} {T : State} {locs : List Loc} {cells slots : Nat}
theorem vx_callV (X : Stand p l e R s m args below meth c T locs cells slots) (hexec : p.tables.exec = Jvm.exec) {own C : String} {index : Nat} {y : MethodName} {bytes : ByteArray} {maxL : Nat} {ret : Option FieldType}
    (hown : s.vm.findClass own = some m.cls) (hlink : (Cond.methodLink own index y).before args s = true) (hinst : (Cond.instanceMethod y).before args s = true) (hsel : (Cond.selects C y y).before args s = true)
    (hcode : (Cond.code y bytes maxL ret).before args s = true) (hy : y.cls ≠ "java/lang/invoke/MethodHandle" ∧ y.cls ≠ "java/lang/invoke/VarHandle")
    {W9 : Nat} {Pre : Pt → Array Value → Prop} {Post : Pt → Array Value → Option Value → Pt → Prop} {PostX : Pt → Array Value → Addr → Pt → Prop} (hK : vx_Back l R p e below s args y 3 W9 Pre Post PostX)
    {b : Addr} {cellB : Cell} (hcell : T.heap[b]? = some cellB) (hobj : cellB.vm.isStatics = false) (hcls : s.vm.findClass C = some cellB.cls)
    {g : JFrame} (hg : g.method = m) (hsize : g.locals.size = c.maxLocals) {argsL rest : List Value} (hlen : ∀ sig, parseMethodDescriptor y.desc = some sig → argsL.length = sig.parameters.length)
    (hstack : g.stack = argsL.reverse ++ .ref b :: rest) (hW : 2 * g.monitorRoom + (rest.map fun v => v.category).sum ≤ W9) (hdg : decode c.code g.pc = .ok (.invokevirtual index, 3))
    (hpre : ∀ vm₁, s.WarmedH vm₁ → Pre ⟨T.setVm vm₁, locs, cells, slots⟩ (Value.ref b :: argsL).toArray) :
    (∃ (v : Option Value) (vm₁ : Vm) (B : Pt), s.WarmedH vm₁ ∧ Stand p l e R s m args below meth c B.U B.locs B.cells B.slots ∧ Post ⟨T.setVm vm₁, locs, cells, slots⟩ (Value.ref b :: argsL).toArray v B ∧
      ∀ target, Steps p.tables e below (B.U.setTop { g with pc := g.pc + 3, stack := v.toList ++ rest }) target → Steps p.tables e below (T.setTop g) target) ∨
    (∃ (q : Addr) (vm₁ : Vm) (B : Pt), s.WarmedH vm₁ ∧ Stand p l e R s m args below meth c B.U B.locs B.cells B.slots ∧ PostX ⟨T.setVm vm₁, locs, cells, slots⟩ (Value.ref b :: argsL).toArray q B ∧
      Steps p.tables e below (T.setTop g) ((B.U.setTop { g with stack := rest }).pushFrame (.throwing q))) := by
  obtain ⟨mk, methM, hnamed, hmethM, hstM, habM⟩ := Cond.instanceMethod_spec hinst
  obtain ⟨methM', cM, hmethM', -, -, -, -, -, -, hsigM⟩ := Cond.code_spec hnamed hcode
  cases hmethM.symm.trans hmethM'
  obtain ⟨c2, r2, m2, q1, q2, q3, q4, kP, hkP, hkPi⟩ := Cond.selects_spec hsel
  cases hcls.symm.trans q1
  cases (State.methodFound?_of_named hnamed hy).symm.trans q2
  cases hnamed.symm.trans q3
  have hselP : selectMethod e.platform s.vm cellB.cls mk = .method mk := by rw [Launch.admits_selectMethod X.admits]; exact q4
  obtain ⟨vm₁, X₁, hstep₁⟩ := X.invokevirtual hexec hown hlink hnamed hmethM hstM hkP hkPi hy (a := b) (cell := cellB) hcell
    (fun z h => by rw [h] at hobj; cases hobj) hselP hmethM habM hkP hkPi (g := g) hg (argsL := argsL) (rest := rest) (hlen _ hsigM) hstack hdg
  rcases hK m meth c ⟨T.setVm vm₁, locs, cells, slots⟩ { g with stack := rest } (.invokevirtual index) mk (Value.ref b :: argsL).toArray X₁ hg hsize hdg hW (X₁.named hnamed) (hpre vm₁ X₁.warmed) with ⟨v, B, X', hpost, hsteps⟩ | ⟨q, B, X', hpost, hsteps⟩
  · exact Or.inl ⟨v, vm₁, B, X₁.warmed, X', hpost, fun target h => hstep₁ _ fun acts => by rw [doInvoke_state]; exact hsteps.trans h⟩
  · exact Or.inr ⟨q, vm₁, B, X₁.warmed, X', hpost, hstep₁ _ fun acts => by rw [doInvoke_state]; exact hsteps⟩
theorem vx_callS (X : Stand p l e R s m args below meth c T locs cells slots) (hexec : p.tables.exec = Jvm.exec) {own : String} {index : Nat} {y : MethodName} {bytes : ByteArray} {maxL : Nat} {ret : Option FieldType}
    (hown : s.vm.findClass own = some m.cls) (hlink : (Cond.methodLink own index y).before args s = true) (hstat : (Cond.static y).before args s = true) (hinit : (Cond.initialized y.cls).before args s = true)
    (hcode : (Cond.code y bytes maxL ret).before args s = true) (hy : y.cls ≠ "java/lang/invoke/MethodHandle" ∧ y.cls ≠ "java/lang/invoke/VarHandle")
    {W9 : Nat} {Pre : Pt → Array Value → Prop} {Post : Pt → Array Value → Option Value → Pt → Prop} {PostX : Pt → Array Value → Addr → Pt → Prop} (hK : vx_Back l R p e below s args y 3 W9 Pre Post PostX)
    {g : JFrame} (hg : g.method = m) (hsize : g.locals.size = c.maxLocals) {argsL rest : List Value} (hlen : ∀ sig, parseMethodDescriptor y.desc = some sig → argsL.length = sig.parameters.length)
    (hstack : g.stack = argsL.reverse ++ rest) (hW : 2 * g.monitorRoom + (rest.map fun v => v.category).sum ≤ W9) (hdg : decode c.code g.pc = .ok (.invokestatic index, 3))
    (hpre : ∀ vm₁, s.WarmedH vm₁ → Pre ⟨T.setVm vm₁, locs, cells, slots⟩ argsL.toArray) :
    (∃ (v : Option Value) (vm₁ : Vm) (B : Pt), s.WarmedH vm₁ ∧ Stand p l e R s m args below meth c B.U B.locs B.cells B.slots ∧ Post ⟨T.setVm vm₁, locs, cells, slots⟩ argsL.toArray v B ∧
      ∀ target, Steps p.tables e below (B.U.setTop { g with pc := g.pc + 3, stack := v.toList ++ rest }) target → Steps p.tables e below (T.setTop g) target) ∨
    (∃ (q : Addr) (vm₁ : Vm) (B : Pt), s.WarmedH vm₁ ∧ Stand p l e R s m args below meth c B.U B.locs B.cells B.slots ∧ PostX ⟨T.setVm vm₁, locs, cells, slots⟩ argsL.toArray q B ∧
      Steps p.tables e below (T.setTop g) ((B.U.setTop { g with stack := rest }).pushFrame (.throwing q))) := by
  obtain ⟨mk, hnamed⟩ := Cond.code_named hcode
  obtain ⟨methM, cM, hmethM, -, -, -, -, -, -, hsigM⟩ := Cond.code_spec hnamed hcode
  have hstatic : methM.isStatic = true := Cond.static_spec hnamed hmethM hstat
  obtain ⟨kP, hkP, -⟩ := className_of_methodNamed hnamed
  have hinitP : kP.init = .initialized := Cond.initialized_spec (findClass_of_methodNamed hnamed) hkP hinit
  obtain ⟨vm₁, X₁, hstep₁⟩ := X.invokestatic hexec hown hlink hnamed hmethM hstatic hkP hinitP hy (g := g) hg (argsL := argsL) (rest := rest) (hlen _ hsigM) hstack hdg
  rcases hK m meth c ⟨T.setVm vm₁, locs, cells, slots⟩ { g with stack := rest } (.invokestatic index) mk argsL.toArray X₁ hg hsize hdg hW (X₁.named hnamed) (hpre vm₁ X₁.warmed) with ⟨v, B, X', hpost, hsteps⟩ | ⟨q, B, X', hpost, hsteps⟩
  · exact Or.inl ⟨v, vm₁, B, X₁.warmed, X', hpost, fun target h => hstep₁ _ fun acts => by rw [doInvoke_state]; exact hsteps.trans h⟩
  · exact Or.inr ⟨q, vm₁, B, X₁.warmed, X', hpost, hstep₁ _ fun acts => by rw [doInvoke_state]; exact hsteps⟩
end Calls
theorem vx_cls {s : State} {T : State} {vm₁ : Vm} {E : String} {k : ClassId} (hW : s.WarmedH vm₁) (h : (T.setVm vm₁).vm.findClass E = some k) : s.vm.findClass E = some k := by
  have h1 : vm₁.findClass E = some k := h
  rw [hW.alike.findClass] at h1
  exact h1
/-- the method's frame g, with q thrown over it -/
def vx_W (p : Program) (l : Launch) (e : Env) (R : Room) (s : State) (m : MethodId) (args : Array Value) (below : List Frame) (meth : Method) (c : Code) (H : Heap) (locs : List Loc) (cells slots : Nat) (Q : State → Prop) (g : JFrame) (q : Addr) : Prop :=
  ∀ T : State, T.heap = H → Stand p l e R s m args below meth c T locs cells slots → ∃ t, Steps p.tables e below ((T.setTop g).pushFrame (.throwing q)) t ∧ Q t
def vx_Run (p : Program) (l : Launch) (e : Env) (R : Room) (s : State) (m : MethodId) (args : Array Value) (below : List Frame) (meth : Method) (c : Code) (H : Heap) (locs : List Loc) (cells slots mc ms : Nat) (g : JFrame) (rest : List Value) (Qa : State → Outcome → State → Prop) (XC : String → State → State → Prop) (free : Addr → Prop) : Prop :=
  ∀ T : State, T.heap = H → Stand p l e R s m args below meth c T locs cells slots →
    (∃ (v : Option Value) (st₀ t T' : State) (L : List Loc), st₀.heap = H ∧ Stand p l e R s m args below meth c T' (locs ++ L) (cells + mc) (slots + ms) ∧ (∀ q ∈ L, free q.base) ∧ T'.heap = t.heap ∧ T'.vm = t.vm ∧ Qa st₀ (.returned v) t ∧
      Goes p e below T g T' { g with pc := g.pc + 3, stack := v.toList ++ rest }) ∨
    (∃ (q : Addr) (st₀ t T' : State) (L : List Loc) (E : String) (ce : Cell), st₀.heap = H ∧ Stand p l e R s m args below meth c T' (locs ++ L) (cells + mc) (slots + ms) ∧ (∀ z ∈ L, free z.base) ∧ T'.heap = t.heap ∧ T'.vm = t.vm ∧ XC E st₀ t ∧ t.heap[q]? = some ce ∧ ce.vm = .none ∧ s.vm.findClass E = some ce.cls ∧
      Steps p.tables e below (T.setTop g) ((T'.setTop { g with stack := rest }).pushFrame (.throwing q)))
def vx_X {S : Type} (px : S → Prop) (B : String → S → State → Prop) (A : Nat → Prop) : String → State → State → Prop := fun E st t => ∃ u : S, px u ∧ B E u t ∧ va_F A st t
section Runs
variable {p : Program} {l : Launch} {e : Env} {R : Room} {s : State} {m : MethodId} {args : Array Value} {below : List Frame} {meth : Method} {c : Code} {H : Heap} {locs : List Loc} {cells slots : Nat}
variable {y : MethodName} {bytes cc : ByteArray} {maxL nL mc ms n index : Nat} {ret : Option FieldType} {ws : List Cond} {rm : Room} {Pc : Array Value → State → Prop} {Qc : Array Value → State → Outcome → State → Prop} {XC : String → State → State → Prop} {free : Addr → Prop} {Ts : List Cond} {own C : String} {b : Addr} {As rest : List Value} {g : JFrame}
theorem vx_callBack (cb : CallB R s args own index y bytes maxL ret ws rm mc ms n) (hM : vx_Met l y ws rm Pc Qc XC mc ms free) (hbl : FrameBlind Pc) : vx_Back l R p e below s args y 3 8 (PreOf R mc ms Pc) (PostOf Qc mc ms free) (vx_Post XC mc ms free) := by
  obtain ⟨hrc, hrs, hfr, hlo, hws, hcw, -, hini, -⟩ := cb
  exact vx_back (bytes := bytes) (maxL := maxL) (ret := ret) hM hbl hrc hrs hfr hlo hws hcw (fun a' U hW => word_at hW (Or.inl (by first | rfl | simp [Cond.onTables, Cond.keeps, Cond.steady])) hini)
theorem vx_runV (S : CallFix p m c cc nL s args Ts own) (hM : vx_Met l y ws rm Pc Qc XC mc ms free) (cw : CallW R s args own C index y bytes maxL ret ws rm mc ms n) (hp : PreV s H C b Pc As)
    (hg : g.method = m) (hn : As.length = n) (hsize : g.locals.size = nL) (hstack : g.stack = As.reverse ++ .ref b :: rest) (hW : 2 * g.monitorRoom + (rest.map fun v => v.category).sum ≤ 8) (hdg : decode cc g.pc = .ok (.invokevirtual index, 3)) (hf : cells + mc ≤ R.cells ∧ slots + ms ≤ R.slots) :
    vx_Run p l e R s m args below meth c H locs cells slots mc ms g rest (Qc (Value.ref b :: As).toArray) XC free := by
  have hK : vx_Back l R p e below s args y 3 8 (PreOf R mc ms Pc) (PostOf Qc mc ms free) (vx_Post XC mc ms free) := vx_callBack cw.1 hM hp.1
  obtain ⟨⟨-, -, -, -, -, -, hcode, -, hy, hlen, hl⟩, hin, hse⟩ := cw
  obtain ⟨hx, hb, hml, ho, -⟩ := S
  obtain ⟨-, ⟨cellB, hcB, hoB, hclB⟩, hPc⟩ := hp
  intro T hT X
  rcases vx_callV X hx (C := C) (bytes := bytes) (maxL := maxL) (ret := ret) ho hl hin hse hcode hy hK (by rw [hT]; exact hcB) hoB hclB hg (hsize.trans hml.symm) (argsL := As) (rest := rest) (fun sig h => hn.trans (hlen sig h)) hstack hW (by rw [hb]; exact hdg)
    (fun vm₁ hW₁ => ⟨hf.1, hf.2, hPc (T.setVm vm₁) hT hW₁⟩) with ⟨v, vm₁, ⟨U', l2, c2, s2⟩, hW₁, X', ⟨g', mk, t, L, e1, e2, hq, h1, hL, h2, h3⟩, st⟩ | ⟨q, vm₁, ⟨U', l2, c2, s2⟩, hW₁, X', ⟨g', mk, t, L, E, ce, e1, e2, hq, hce, hcv, hcl, h1, hL, h2, h3⟩, st⟩
  · dsimp only [Pt.U, Pt.locs, Pt.cells, Pt.slots] at X' e1 e2 h1 h2 h3 st
    subst h1; subst h2; subst h3
    exact Or.inl ⟨v, (T.setVm vm₁).calling g' mk (Value.ref b :: As).toArray, t, U', L, hT, X', hL, e1, e2, hq, st⟩
  · dsimp only [Pt.U, Pt.locs, Pt.cells, Pt.slots] at X' e1 e2 h1 h2 h3 st hcl
    subst h1; subst h2; subst h3
    exact Or.inr ⟨q, (T.setVm vm₁).calling g' mk (Value.ref b :: As).toArray, t, U', L, E, ce, hT, X', hL, e1, e2, hq, hce, hcv, vx_cls hW₁ hcl, st⟩
theorem vx_runS (S : CallFix p m c cc nL s args Ts own) (hM : vx_Met l y ws rm Pc Qc XC mc ms free) (cw : CallB R s args own index y bytes maxL ret ws rm mc ms n ∧ (Cond.static y).before args s = true) (hp : PreS s H Pc As)
    (hg : g.method = m) (hn : As.length = n) (hsize : g.locals.size = nL) (hstack : g.stack = As.reverse ++ rest) (hW : 2 * g.monitorRoom + (rest.map fun v => v.category).sum ≤ 8) (hdg : decode cc g.pc = .ok (.invokestatic index, 3)) (hf : cells + mc ≤ R.cells ∧ slots + ms ≤ R.slots) :
    vx_Run p l e R s m args below meth c H locs cells slots mc ms g rest (Qc As.toArray) XC free := by
  have hK : vx_Back l R p e below s args y 3 8 (PreOf R mc ms Pc) (PostOf Qc mc ms free) (vx_Post XC mc ms free) := vx_callBack cw.1 hM hp.1
  obtain ⟨⟨-, -, -, -, -, -, hcode, hini, hy, hlen, hl⟩, hstt⟩ := cw
  obtain ⟨hx, hb, hml, ho, -⟩ := S
  intro T hT X
  rcases vx_callS X hx (bytes := bytes) (maxL := maxL) (ret := ret) ho hl hstt hini hcode hy hK hg (hsize.trans hml.symm) (argsL := As) (rest := rest) (fun sig h => hn.trans (hlen sig h)) hstack hW (by rw [hb]; exact hdg)
    (fun vm₁ hW₁ => ⟨hf.1, hf.2, hp.2 (T.setVm vm₁) hT hW₁⟩) with ⟨v, vm₁, ⟨U', l2, c2, s2⟩, hW₁, X', ⟨g', mk, t, L, e1, e2, hq, h1, hL, h2, h3⟩, st⟩ | ⟨q, vm₁, ⟨U', l2, c2, s2⟩, hW₁, X', ⟨g', mk, t, L, E, ce, e1, e2, hq, hce, hcv, hcl, h1, hL, h2, h3⟩, st⟩
  · dsimp only [Pt.U, Pt.locs, Pt.cells, Pt.slots] at X' e1 e2 h1 h2 h3 st
    subst h1; subst h2; subst h3
    exact Or.inl ⟨v, (T.setVm vm₁).calling g' mk As.toArray, t, U', L, hT, X', hL, e1, e2, hq, st⟩
  · dsimp only [Pt.U, Pt.locs, Pt.cells, Pt.slots] at X' e1 e2 h1 h2 h3 st hcl
    subst h1; subst h2; subst h3
    exact Or.inr ⟨q, (T.setVm vm₁).calling g' mk As.toArray, t, U', L, E, ce, hT, X', hL, e1, e2, hq, hce, hcv, vx_cls hW₁ hcl, st⟩
end Runs
section Rows
variable {p : Program} {l : Launch} {e : Env} {R : Room} {s : State} {m : MethodId} {args : Array Value} {below : List Frame} {meth : Method} {c : Code} {H : Heap} {locs : List Loc} {cells slots : Nat} {Q : State → Prop}
variable {mc ms : Nat} {free : Addr → Prop} {A0 A1 : Nat → Prop} {H0 : Heap} {a : Array Value} {pc : Nat} {ls : Array Slot} {st0 rest : List Value}
theorem vx_keep {st₀ t T' : State} {L : List Loc} (h0 : st₀.heap = H) (e1 : T'.heap = t.heap) (hS : va_S A0 H0 H locs) (hA : ∀ q, q < H.size → A1 q → A0 q) (hf : ∀ q, free q → A0 q) (hL : ∀ q ∈ L, free q.base) (hF : va_F A1 st₀ t) :
    H.size ≤ T'.heap.size ∧ (∀ q : Nat, q < H.size → ¬ A1 q → T'.heap[q]? = H[q]?) ∧ va_S A0 H0 T'.heap (locs ++ L) := by
  obtain ⟨hz, hk⟩ := hF
  rw [h0] at hz hk
  exact ⟨by rw [e1]; exact hz, fun q h1 h2 => by rw [e1]; exact hk q h1 h2,
    ⟨Nat.le_trans hS.1 (by rw [e1]; exact hz), fun q h1 h2 => by rw [e1, hk q (Nat.lt_of_lt_of_le h1 hS.1) (fun z => h2 (hA q (Nat.lt_of_lt_of_le h1 hS.1) z))]; exact hS.2.1 q h1 h2, fun q hq => by
      rcases List.mem_append.mp hq with h | h
      · exact hS.2.2 q h
      · exact hf _ (hL q h)⟩⟩
theorem vx_calli {S SX : Type} {post : Int32 → S → Prop} {px : SX → Prop} {B : S → State → Prop} {BX : String → SX → State → Prop} {AX : Nat → Prop} (hr : vx_Run p l e R s m args below meth c H locs cells slots mc ms (F0 m pc ls st0) rest (va_Qi post B A1 a) (vx_X px BX AX) free) (hS : va_S A0 H0 H locs) (hA : ∀ q, q < H.size → A1 q → A0 q) (hf : ∀ q, free q → A0 q) (hAX : ∀ q, q < H.size → AX q → A0 q)
    (kx : ∀ (E : String) (ce : Cell) (q9 : Addr) (u : SX) (t : State) (H1 : Heap) (locs1 : List Loc), t.heap = H1 → s.vm.Alike t.vm → px u → BX E u t → H.size ≤ H1.size → (∀ q : Nat, q < H.size → ¬ AX q → H1[q]? = H[q]?) → va_S A0 H0 H1 locs1 → H1[q9]? = some ce → ce.vm = .none → s.vm.findClass E = some ce.cls → vx_W p l e R s m args below meth c H1 locs1 (cells + mc) (slots + ms) Q (F0 m pc ls rest) q9)
    (kk : ∀ (r : Int32) (u : S) (t : State) (H1 : Heap) (locs1 : List Loc), t.heap = H1 → s.vm.Alike t.vm → post r u → B u t → H.size ≤ H1.size → (∀ q : Nat, q < H.size → ¬ A1 q → H1[q]? = H[q]?) → va_S A0 H0 H1 locs1 → W p l e R s m args below meth c H1 locs1 (cells + mc) (slots + ms) Q (F0 m (pc + 3) ls (.int r :: rest))) : W p l e R s m args below meth c H locs cells slots Q (F0 m pc ls st0) := by
  intro T hT X
  rcases hr T hT X with ⟨v, st₀, t, T', L, h0, X', hL, e1, e2, ⟨⟨r, u, hv, hp, hb⟩, hF⟩, st⟩ | ⟨q, st₀, t, T', L, E, ce, h0, X', hL, e1, e2, ⟨u, hp, hb, hF⟩, hce, hcv, hcl, st⟩
  · cases hv
    obtain ⟨k1, k2, k3⟩ := vx_keep h0 e1 hS hA hf hL hF
    obtain ⟨t2, a1, b1⟩ := kk r u t T'.heap (locs ++ L) e1.symm (by rw [← e2]; exact X'.warmed.alike) hp hb k1 k2 k3 T' rfl X'
    exact ⟨t2, st t2 a1, b1⟩
  · obtain ⟨k1, k2, k3⟩ := vx_keep h0 e1 hS hAX hf hL hF
    obtain ⟨t2, a1, b1⟩ := kx E ce q u t T'.heap (locs ++ L) e1.symm (by rw [← e2]; exact X'.warmed.alike) hp hb k1 k2 k3 (by rw [e1]; exact hce) hcv hcl T' rfl X'
    exact ⟨t2, st.trans a1, b1⟩
theorem vx_calll {S SX : Type} {post : Int64 → S → Prop} {px : SX → Prop} {B : S → State → Prop} {BX : String → SX → State → Prop} {AX : Nat → Prop} (hr : vx_Run p l e R s m args below meth c H locs cells slots mc ms (F0 m pc ls st0) rest (va_Ql post B A1 a) (vx_X px BX AX) free) (hS : va_S A0 H0 H locs) (hA : ∀ q, q < H.size → A1 q → A0 q) (hf : ∀ q, free q → A0 q) (hAX : ∀ q, q < H.size → AX q → A0 q)
    (kx : ∀ (E : String) (ce : Cell) (q9 : Addr) (u : SX) (t : State) (H1 : Heap) (locs1 : List Loc), t.heap = H1 → s.vm.Alike t.vm → px u → BX E u t → H.size ≤ H1.size → (∀ q : Nat, q < H.size → ¬ AX q → H1[q]? = H[q]?) → va_S A0 H0 H1 locs1 → H1[q9]? = some ce → ce.vm = .none → s.vm.findClass E = some ce.cls → vx_W p l e R s m args below meth c H1 locs1 (cells + mc) (slots + ms) Q (F0 m pc ls rest) q9)
    (kk : ∀ (r : Int64) (u : S) (t : State) (H1 : Heap) (locs1 : List Loc), t.heap = H1 → s.vm.Alike t.vm → post r u → B u t → H.size ≤ H1.size → (∀ q : Nat, q < H.size → ¬ A1 q → H1[q]? = H[q]?) → va_S A0 H0 H1 locs1 → W p l e R s m args below meth c H1 locs1 (cells + mc) (slots + ms) Q (F0 m (pc + 3) ls (.long r :: rest))) : W p l e R s m args below meth c H locs cells slots Q (F0 m pc ls st0) := by
  intro T hT X
  rcases hr T hT X with ⟨v, st₀, t, T', L, h0, X', hL, e1, e2, ⟨⟨r, u, hv, hp, hb⟩, hF⟩, st⟩ | ⟨q, st₀, t, T', L, E, ce, h0, X', hL, e1, e2, ⟨u, hp, hb, hF⟩, hce, hcv, hcl, st⟩
  · cases hv
    obtain ⟨k1, k2, k3⟩ := vx_keep h0 e1 hS hA hf hL hF
    obtain ⟨t2, a1, b1⟩ := kk r u t T'.heap (locs ++ L) e1.symm (by rw [← e2]; exact X'.warmed.alike) hp hb k1 k2 k3 T' rfl X'
    exact ⟨t2, st t2 a1, b1⟩
  · obtain ⟨k1, k2, k3⟩ := vx_keep h0 e1 hS hAX hf hL hF
    obtain ⟨t2, a1, b1⟩ := kx E ce q u t T'.heap (locs ++ L) e1.symm (by rw [← e2]; exact X'.warmed.alike) hp hb k1 k2 k3 (by rw [e1]; exact hce) hcv hcl T' rfl X'
    exact ⟨t2, st.trans a1, b1⟩
theorem vx_callf {S SX : Type} {post : UInt32 → S → Prop} {px : SX → Prop} {B : S → State → Prop} {BX : String → SX → State → Prop} {AX : Nat → Prop} (hr : vx_Run p l e R s m args below meth c H locs cells slots mc ms (F0 m pc ls st0) rest (va_Qf post B A1 a) (vx_X px BX AX) free) (hS : va_S A0 H0 H locs) (hA : ∀ q, q < H.size → A1 q → A0 q) (hf : ∀ q, free q → A0 q) (hAX : ∀ q, q < H.size → AX q → A0 q)
    (kx : ∀ (E : String) (ce : Cell) (q9 : Addr) (u : SX) (t : State) (H1 : Heap) (locs1 : List Loc), t.heap = H1 → s.vm.Alike t.vm → px u → BX E u t → H.size ≤ H1.size → (∀ q : Nat, q < H.size → ¬ AX q → H1[q]? = H[q]?) → va_S A0 H0 H1 locs1 → H1[q9]? = some ce → ce.vm = .none → s.vm.findClass E = some ce.cls → vx_W p l e R s m args below meth c H1 locs1 (cells + mc) (slots + ms) Q (F0 m pc ls rest) q9)
    (kk : ∀ (r : UInt32) (u : S) (t : State) (H1 : Heap) (locs1 : List Loc), t.heap = H1 → s.vm.Alike t.vm → post r u → B u t → H.size ≤ H1.size → (∀ q : Nat, q < H.size → ¬ A1 q → H1[q]? = H[q]?) → va_S A0 H0 H1 locs1 → W p l e R s m args below meth c H1 locs1 (cells + mc) (slots + ms) Q (F0 m (pc + 3) ls (.float r :: rest))) : W p l e R s m args below meth c H locs cells slots Q (F0 m pc ls st0) := by
  intro T hT X
  rcases hr T hT X with ⟨v, st₀, t, T', L, h0, X', hL, e1, e2, ⟨⟨r, u, hv, hp, hb⟩, hF⟩, st⟩ | ⟨q, st₀, t, T', L, E, ce, h0, X', hL, e1, e2, ⟨u, hp, hb, hF⟩, hce, hcv, hcl, st⟩
  · cases hv
    obtain ⟨k1, k2, k3⟩ := vx_keep h0 e1 hS hA hf hL hF
    obtain ⟨t2, a1, b1⟩ := kk r u t T'.heap (locs ++ L) e1.symm (by rw [← e2]; exact X'.warmed.alike) hp hb k1 k2 k3 T' rfl X'
    exact ⟨t2, st t2 a1, b1⟩
  · obtain ⟨k1, k2, k3⟩ := vx_keep h0 e1 hS hAX hf hL hF
    obtain ⟨t2, a1, b1⟩ := kx E ce q u t T'.heap (locs ++ L) e1.symm (by rw [← e2]; exact X'.warmed.alike) hp hb k1 k2 k3 (by rw [e1]; exact hce) hcv hcl T' rfl X'
    exact ⟨t2, st.trans a1, b1⟩
theorem vx_calld {S SX : Type} {post : UInt64 → S → Prop} {px : SX → Prop} {B : S → State → Prop} {BX : String → SX → State → Prop} {AX : Nat → Prop} (hr : vx_Run p l e R s m args below meth c H locs cells slots mc ms (F0 m pc ls st0) rest (va_Qd post B A1 a) (vx_X px BX AX) free) (hS : va_S A0 H0 H locs) (hA : ∀ q, q < H.size → A1 q → A0 q) (hf : ∀ q, free q → A0 q) (hAX : ∀ q, q < H.size → AX q → A0 q)
    (kx : ∀ (E : String) (ce : Cell) (q9 : Addr) (u : SX) (t : State) (H1 : Heap) (locs1 : List Loc), t.heap = H1 → s.vm.Alike t.vm → px u → BX E u t → H.size ≤ H1.size → (∀ q : Nat, q < H.size → ¬ AX q → H1[q]? = H[q]?) → va_S A0 H0 H1 locs1 → H1[q9]? = some ce → ce.vm = .none → s.vm.findClass E = some ce.cls → vx_W p l e R s m args below meth c H1 locs1 (cells + mc) (slots + ms) Q (F0 m pc ls rest) q9)
    (kk : ∀ (r : UInt64) (u : S) (t : State) (H1 : Heap) (locs1 : List Loc), t.heap = H1 → s.vm.Alike t.vm → post r u → B u t → H.size ≤ H1.size → (∀ q : Nat, q < H.size → ¬ A1 q → H1[q]? = H[q]?) → va_S A0 H0 H1 locs1 → W p l e R s m args below meth c H1 locs1 (cells + mc) (slots + ms) Q (F0 m (pc + 3) ls (.double r :: rest))) : W p l e R s m args below meth c H locs cells slots Q (F0 m pc ls st0) := by
  intro T hT X
  rcases hr T hT X with ⟨v, st₀, t, T', L, h0, X', hL, e1, e2, ⟨⟨r, u, hv, hp, hb⟩, hF⟩, st⟩ | ⟨q, st₀, t, T', L, E, ce, h0, X', hL, e1, e2, ⟨u, hp, hb, hF⟩, hce, hcv, hcl, st⟩
  · cases hv
    obtain ⟨k1, k2, k3⟩ := vx_keep h0 e1 hS hA hf hL hF
    obtain ⟨t2, a1, b1⟩ := kk r u t T'.heap (locs ++ L) e1.symm (by rw [← e2]; exact X'.warmed.alike) hp hb k1 k2 k3 T' rfl X'
    exact ⟨t2, st t2 a1, b1⟩
  · obtain ⟨k1, k2, k3⟩ := vx_keep h0 e1 hS hAX hf hL hF
    obtain ⟨t2, a1, b1⟩ := kx E ce q u t T'.heap (locs ++ L) e1.symm (by rw [← e2]; exact X'.warmed.alike) hp hb k1 k2 k3 (by rw [e1]; exact hce) hcv hcl T' rfl X'
    exact ⟨t2, st.trans a1, b1⟩
theorem vx_callv {S SX : Type} {post : S → Prop} {px : SX → Prop} {B : S → State → Prop} {BX : String → SX → State → Prop} {AX : Nat → Prop} (hr : vx_Run p l e R s m args below meth c H locs cells slots mc ms (F0 m pc ls st0) rest (va_Qv post B A1 a) (vx_X px BX AX) free) (hS : va_S A0 H0 H locs) (hA : ∀ q, q < H.size → A1 q → A0 q) (hf : ∀ q, free q → A0 q) (hAX : ∀ q, q < H.size → AX q → A0 q)
    (kx : ∀ (E : String) (ce : Cell) (q9 : Addr) (u : SX) (t : State) (H1 : Heap) (locs1 : List Loc), t.heap = H1 → s.vm.Alike t.vm → px u → BX E u t → H.size ≤ H1.size → (∀ q : Nat, q < H.size → ¬ AX q → H1[q]? = H[q]?) → va_S A0 H0 H1 locs1 → H1[q9]? = some ce → ce.vm = .none → s.vm.findClass E = some ce.cls → vx_W p l e R s m args below meth c H1 locs1 (cells + mc) (slots + ms) Q (F0 m pc ls rest) q9)
    (kk : ∀ (u : S) (t : State) (H1 : Heap) (locs1 : List Loc), t.heap = H1 → s.vm.Alike t.vm → post u → B u t → H.size ≤ H1.size → (∀ q : Nat, q < H.size → ¬ A1 q → H1[q]? = H[q]?) → va_S A0 H0 H1 locs1 → W p l e R s m args below meth c H1 locs1 (cells + mc) (slots + ms) Q (F0 m (pc + 3) ls (rest))) : W p l e R s m args below meth c H locs cells slots Q (F0 m pc ls st0) := by
  intro T hT X
  rcases hr T hT X with ⟨v, st₀, t, T', L, h0, X', hL, e1, e2, ⟨⟨u, hv, hp, hb⟩, hF⟩, st⟩ | ⟨q, st₀, t, T', L, E, ce, h0, X', hL, e1, e2, ⟨u, hp, hb, hF⟩, hce, hcv, hcl, st⟩
  · cases hv
    obtain ⟨k1, k2, k3⟩ := vx_keep h0 e1 hS hA hf hL hF
    obtain ⟨t2, a1, b1⟩ := kk u t T'.heap (locs ++ L) e1.symm (by rw [← e2]; exact X'.warmed.alike) hp hb k1 k2 k3 T' rfl X'
    exact ⟨t2, st t2 a1, b1⟩
  · obtain ⟨k1, k2, k3⟩ := vx_keep h0 e1 hS hAX hf hL hF
    obtain ⟨t2, a1, b1⟩ := kx E ce q u t T'.heap (locs ++ L) e1.symm (by rw [← e2]; exact X'.warmed.alike) hp hb k1 k2 k3 (by rw [e1]; exact hce) hcv hcl T' rfl X'
    exact ⟨t2, st.trans a1, b1⟩
/-- caught by the row x of this method's table; the rows ahead don't take it -/
theorem vx_catch {own name : String} {E : String} {ce : Cell} {q : Addr} (hown : s.vm.findClass own = some m.cls) (pre : List ExceptionTableEntry) (x : ExceptionTableEntry) (suf : List ExceptionTableEntry) (hsplit : c.exceptionTable.toList = pre ++ x :: suf)
    (hpass : ∀ z ∈ pre, covers z pc = false ∨ (z.catchType ≠ 0 ∧ ∃ nm : String, (Cond.classLink own z.catchType nm).before args s = true ∧ va_Nc E nm s)) (hx : covers x pc = true) (h0 : x.catchType ≠ 0)
    (hlink : (Cond.classLink own x.catchType name).before args s = true) (hcast : (Cond.castable E name).before args s = true) (hcell : H[q]? = some ce) (hv : ce.vm = .none) (hcl : s.vm.findClass E = some ce.cls)
    (kk : W p l e R s m args below meth c H locs cells slots Q (F0 m x.handlerPc ls [.ref q])) : vx_W p l e R s m args below meth c H locs cells slots Q (F0 m pc ls rest) q := by
  intro T hT X
  have hpl : e.platform.magicAccessors = ({} : Platform).magicAccessors := by rw [X.admits.platform]
  obtain ⟨c3, c4, hc3, hc4, hasg⟩ := Cond.castable_spec hcast
  cases Option.some.inj (hc3.symm.trans hcl)
  obtain ⟨c5, hc5, hcl5⟩ := Cond.classLink_spec hown hlink e.platform hpl
  cases Option.some.inj (hc4.symm.trans hc5)
  obtain ⟨vm', X', st⟩ := X.thenCaughtThrough q (g := F0 m pc ls rest) rfl (Steps.refl _) (by rw [hT]; exact hcell) (by rw [hv]; rfl) (by obtain ⟨k9, h9, -⟩ := Vm.findClass_spec hcl; exact ⟨k9, h9⟩) pre x suf hsplit
    (fun z hz => by
      rcases hpass z hz with h | ⟨hz0, nm, hl1, hn1⟩
      · exact Or.inl h
      · obtain ⟨c6, hc6, hcl6⟩ := Cond.classLink_spec hown hl1 e.platform hpl
        obtain ⟨a8, b8, h1, h2, h3⟩ := hn1
        cases Option.some.inj (h1.symm.trans hcl)
        cases Option.some.inj (h2.symm.trans hc6)
        exact Or.inr ⟨hz0, _, hcl6, h3⟩) hx (Or.inr ⟨h0, c4, hcl5, hasg⟩)
  obtain ⟨t, a1, b1⟩ := kk (T.setVm vm') hT X'
  exact ⟨t, st.trans a1, b1⟩
end Rows
section Ends
variable {p : Program} {l : Launch} {e : Env} {R : Room} {s : State} {m : MethodId} {args : Array Value} {below : List Frame} {meth : Method} {c : Code} {H : Heap} {locs : List Loc} {cells slots : Nat} {Q : State → Prop}
variable {mc ms : Nat} {free : Addr → Prop} {A0 A1 : Nat → Prop} {H0 : Heap} {a : Array Value} {ls : Array Slot} {st0 rest : List Value}
variable {Qc : Array Value → State → Outcome → State → Prop} {XC : String → State → State → Prop}
/-- what a body that may throw owes at its end -/
def vx_MQ (below : List Frame) (Qc : Array Value → State → Outcome → State → Prop) (XC : String → State → State → Prop) (a : Array Value) (s : State) (mc ms : Nat) (free : Addr → Prop) : State → Prop := fun t =>
  ∃ o, t.status = .running ∧ Ended t below o ∧ vx_Q Qc XC mc ms free a s o t
theorem vx_ret {g : JFrame} {mc ms : Nat} (k : W p l e R s m args below meth c H locs cells slots (MQ below Qc args s mc ms free) g) : W p l e R s m args below meth c H locs cells slots (vx_MQ below Qc XC args s mc ms free) g := by
  intro T hT X
  obtain ⟨t, a1, o, b1, b2, b3, b4⟩ := k T hT X
  exact ⟨t, a1, o, b1, b2, Or.inl ⟨b3, b4⟩⟩
/-- not caught here: it goes on to the caller -/
theorem vx_widen {g : JFrame} {q : Addr} {k n : Nat} (h1 : cells ≤ k) (h2 : slots ≤ n) (kk : vx_W p l e R s m args below meth c H locs k n Q g q) : vx_W p l e R s m args below meth c H locs cells slots Q g q := fun T hT X => kk T hT (stand_widen X h1 h2)
theorem vx_out {pc : Nat} {E : String} {ce : Cell} {q : Addr} {mc ms : Nat} (hout : ∀ x ∈ c.exceptionTable.toList, covers x pc = false) (hlocks : meth.locks = false) (hcell : H[q]? = some ce) (hv : ce.vm = .none) (hcl : s.vm.findClass E = some ce.cls)
    (hx : ∀ t : State, t.heap = H → s.vm.Alike t.vm → XC E s t) (hf : ∀ z ∈ locs, free z.base) (hc : cells ≤ mc) (hs : slots ≤ ms) :
    vx_W p l e R s m args below meth c H locs cells slots (vx_MQ below Qc XC args s mc ms free) (F0 m pc ls rest) q := by
  intro T hT X
  obtain ⟨st1, hrun, hend, hW, hsm⟩ := X.leaveThrown q (g := F0 m pc ls rest) rfl rfl rfl hout hlocks
  have hcell9 : (T.setFrames (.throwing q :: below)).heap[q]? = some ce := by
    show T.heap[q]? = some ce
    rw [hT]; exact hcell
  exact ⟨_, st1, .threw q, hrun, hend, Or.inr ⟨q, rfl, E, ce, locs, hx _ hT hW.alike, hcell9, hv, hcl, hW, hsm.mono hc hs, hf⟩⟩
theorem vx_frame {U : State} {k n : Nat} (h : s.sameButNew ({ U with vm := s.vm } : State) locs k n) : s.heap.size ≤ U.heap.size ∧ ∀ q : Nat, q < s.heap.size → (∀ z ∈ locs, z.base ≠ q) → U.heap[q]? = s.heap[q]? := by
  obtain ⟨-, h2, -, -, -, h6⟩ := h
  refine ⟨h2, fun q hq hz => ?_⟩
  obtain ⟨c9, e1, e2, e3, e4⟩ := h6 q _ (Array.getElem?_eq_getElem hq)
  have hs : c9.slots = (s.heap[q]).slots := Array.ext_getElem? fun i => e4 i fun hm => hz _ hm rfl
  have h9 : c9 = s.heap[q] := by
    rw [hs] at e2
    exact e2
  have e5 : U.heap[q]? = some c9 := e1
  rw [e5, h9, Array.getElem?_eq_getElem hq]
/-- the words of a throw but the four that speak of the heap -/
def vx_no (w : Cond) : Bool := decide (w ≠ .isRef (.static Bundle.tN "UNASSIGNED_STACK" Bundle.steD)) && decide (w ≠ .isRef (.static Bundle.tN "SUPPRESSED_SENTINEL" Bundle.listD)) && decide (w ≠ .laysStatic Bundle.tN "UNASSIGNED_STACK" Bundle.steD) && decide (w ≠ .laysStatic Bundle.tN "SUPPRESSED_SENTINEL" Bundle.listD)
def vx_at0 (own : String) (ic : Nat) (X : String) (names : List String) : List Cond := (Bundle.ownAtoms0 own ic X names).filter vx_no
def vx_atS (own : String) (ic : Nat) (X : String) (names : List String) : List Cond := (Bundle.ownAtoms own ic X names).filter vx_no
/-- a word that the tables alone decide, or a good one -/
def vx_ot (w : Cond) : Bool := w.onTables || goodWord w
theorem vx_ot_at {args a' : Array Value} {s U : State} {w : Cond} (hW : s.WarmedH U.vm) (hvm : s.vm = U.vm) (hg : vx_ot w = true) (h : w.before args s = true) : w.before a' U = true := by
  simp only [vx_ot, Bool.or_eq_true] at hg
  rcases hg with hg | hg
  · exact va_tabs hg hvm h
  · exact word_at hW (good_of_word hg) h
/-- a list's words: the good ones out of the method's own list, the others by premises of their own -/
theorem vx_hat {args : Array Value} {s : State} {L B : List Cond} (h1 : ∀ w ∈ L.filter goodWord, w.before args s = true) (h2 : ∀ w ∈ L.filter (fun w => !goodWord w), w ∈ B) (h3 : ∀ w ∈ B, w.before args s = true) : ∀ w ∈ L, w.before args s = true := by
  intro w hw
  by_cases g : goodWord w = true
  · exact h1 w (List.mem_filter.mpr ⟨hw, g⟩)
  · refine h3 w (h2 w (List.mem_filter.mpr ⟨hw, ?_⟩))
    show (!goodWord w) = true
    cases hgw : goodWord w
    · rfl
    · exact absurd hgw g
theorem vx_c {args : Array Value} {s : State} {w : Cond} {B : List Cond} (h : w.before args s = true) (t : ∀ w ∈ B, w.before args s = true) : ∀ w' ∈ w :: B, w'.before args s = true := fun w' h' => (List.mem_cons.mp h').elim (fun e => by rw [e]; exact h) (t w')
theorem vx_n {args : Array Value} {s : State} : ∀ w ∈ ([] : List Cond), w.before args s = true := fun _ h => nomatch h
theorem vx_own {args : Array Value} {s : State} {L : List Cond} (h1 : ∀ w ∈ L.filter vx_no, w.before args s = true)
    (hU : (Cond.isRef (.static Bundle.tN "UNASSIGNED_STACK" Bundle.steD)).before args s = true) (hN : (Cond.isRef (.static Bundle.tN "SUPPRESSED_SENTINEL" Bundle.listD)).before args s = true)
    (lU : (Cond.laysStatic Bundle.tN "UNASSIGNED_STACK" Bundle.steD).before args s = true) (lN : (Cond.laysStatic Bundle.tN "SUPPRESSED_SENTINEL" Bundle.listD).before args s = true) : ∀ w ∈ L, w.before args s = true := by
  intro w hw
  by_cases e1 : w = .isRef (.static Bundle.tN "UNASSIGNED_STACK" Bundle.steD)
  · rw [e1]; exact hU
  · by_cases e2 : w = .isRef (.static Bundle.tN "SUPPRESSED_SENTINEL" Bundle.listD)
    · rw [e2]; exact hN
    · by_cases e3 : w = .laysStatic Bundle.tN "UNASSIGNED_STACK" Bundle.steD
      · rw [e3]; exact lU
      · by_cases e4 : w = .laysStatic Bundle.tN "SUPPRESSED_SENTINEL" Bundle.listD
        · rw [e4]; exact lN
        · exact h1 w (List.mem_filter.mpr ⟨hw, by unfold vx_no; rw [decide_eq_true e1, decide_eq_true e2, decide_eq_true e3, decide_eq_true e4]; rfl⟩)
/-- where a static field lies, its class's statics cell in H -/
def vx_L (C n d : String) (A : Nat → Prop) (U : State) (H : Heap) : Prop := ∃ (c : ClassId) (k : Class) (i : Nat) (f : Field) (a : Nat) (cell : Cell), U.vm.findClass C = some c ∧ U.fieldFound? C n d = some (c, k, i, f) ∧ f.isStatic = true ∧ k.statics = some a ∧ H[a]? = some cell ∧ cell.vm.isStatics = true ∧ cell.cls = c ∧ f.slot < cell.slots.size ∧ k.staticTypes[f.slot]? = some f.type ∧ ¬ A a
theorem vx_L.moved {C n d : String} {A : Nat → Prop} {u U : State} {H : Heap} (hvm : u.vm.Alike U.vm) (h : vx_L C n d A u H) : vx_L C n d A U H := by
  obtain ⟨c, k, i, f, a, cell, h1, h2, h3, h4, h5, h6, h7, h8, h9, h10⟩ := h
  obtain ⟨k', hi', he⟩ := State.fieldFound?_setVm hvm h2
  exact ⟨c, k', i, f, a, cell, by rw [hvm.findClass]; exact h1, hi', h3, by rw [he]; exact h4, h5, h6, h7, h8, by rw [he]; exact h9, h10⟩
theorem vx_L.kept {C n d : String} {A : Nat → Prop} {U : State} {H H1 : Heap} (h : vx_L C n d A U H) (hq : ∀ a : Nat, a < H.size → ¬ A a → H1[a]? = H[a]?) : vx_L C n d A U H1 := by
  obtain ⟨c, k, i, f, a, cell, h1, h2, h3, h4, h5, h6, h7, h8, h9, h10⟩ := h
  exact ⟨c, k, i, f, a, cell, h1, h2, h3, h4, by rw [hq a (Array.getElem?_eq_some_iff.mp h5).1 h10]; exact h5, h6, h7, h8, h9, h10⟩
theorem vx_L.narrow {C n d : String} {A B : Nat → Prop} {U : State} {H : Heap} (h : vx_L C n d A U H) (hAB : ∀ q, B q → A q) : vx_L C n d B U H := by
  obtain ⟨c, k, i, f, a, cell, h1, h2, h3, h4, h5, h6, h7, h8, h9, h10⟩ := h
  exact ⟨c, k, i, f, a, cell, h1, h2, h3, h4, h5, h6, h7, h8, h9, fun z => h10 (hAB _ z)⟩
theorem vx_L.word {C n d : String} {A : Nat → Prop} {s : State} {args : Array Value} (h : vx_L C n d A s s.heap) : (Cond.laysStatic C n d).before args s = true := by
  obtain ⟨c, k, i, f, a, cell, h1, h2, h3, h4, h5, h6, h7, h8, h9, -⟩ := h
  show (Cond.laysStatic C n d).holds args s none s [] = true
  exact Cond.laysStatic_of h1 h2 h3 h4 h5 h6 h7 h8 h9
/-- .. and what it holds: null or some reference -/
def vx_Zq (C n d : String) (A : Nat → Prop) (U : State) (H : Heap) : Prop := va_Zq C n d A U H ∧ vx_L C n d A U H
theorem vx_Zq.moved {C n d : String} {A : Nat → Prop} {u U : State} {H : Heap} (hvm : u.vm.Alike U.vm) (h : vx_Zq C n d A u H) : vx_Zq C n d A U H := ⟨va_Zq.moved hvm h.1, vx_L.moved hvm h.2⟩
theorem vx_Zq.kept {C n d : String} {A : Nat → Prop} {U : State} {H H1 : Heap} (h : vx_Zq C n d A U H) (hq : ∀ a : Nat, a < H.size → ¬ A a → H1[a]? = H[a]?) : vx_Zq C n d A U H1 := ⟨va_Zq.kept h.1 hq, vx_L.kept h.2 hq⟩
theorem vx_Zq.narrow {C n d : String} {A B : Nat → Prop} {U : State} {H : Heap} (h : vx_Zq C n d A U H) (hAB : ∀ q, B q → A q) : vx_Zq C n d B U H := ⟨va_Zq.narrow h.1 hAB, vx_L.narrow h.2 hAB⟩
theorem vx_Zqof {args : Array Value} {s : State} {C n d : String} {A : Nat → Prop} (hl : (Cond.laysStatic C n d).before args s = true) (hini : (Cond.initialized C).before args s = true) (h : (Cond.isRef (.static C n d)).before args s = true) (hA : ∀ a : Nat, a < s.heap.size → ¬ A a) : vx_Zq C n d A s s.heap := by
  refine ⟨va_Zqof hl hini h hA, ?_⟩
  obtain ⟨c, k, i, f, a, cell, h1, h2, h3, h4, h5, h6, h7, h8, h9⟩ := Cond.laysStatic_spec hl
  exact ⟨c, k, i, f, a, cell, h1, h2, h3, h4, h5, h6, h7, h8, h9, hA a (Array.getElem?_eq_some_iff.mp h5).1⟩
theorem vx_isRef {C n d : String} {v : Value} {A : Nat → Prop} {s : State} {args : Array Value} (h : va_Z C n d v A s s.heap) (hv : v.isRef = true) : (Cond.isRef (.static C n d)).before args s = true := by
  obtain ⟨cf, kf, fi, f, a, cell, h1, h2, h3, h4, h5, h6, h7, -⟩ := h
  have he : (Term.static C n d).eval args s none [] s = some v := by
    simp [Term.eval, State.fieldNamed?, h1, h2, h4, h5, h6, h7]
  simp only [Cond.before, Cond.holds, Cond.value, he]
  cases v <;> simp_all [Value.isRef]
theorem vx_isRefq {C n d : String} {A : Nat → Prop} {s : State} {args : Array Value} (h : va_Zq C n d A s s.heap) : (Cond.isRef (.static C n d)).before args s = true := by
  rcases h with h | ⟨t, h⟩
  · exact vx_isRef h rfl
  · exact vx_isRef h rfl
/-- the same frame, seen from here: as if the method were called anew in this heap -/
theorem vx_rebase {T : State} (X : Stand p l e R s m args below meth c T locs cells slots) {R' : Room} (hf : R'.frames ≤ R.frames) (hl : R'.locals ≤ R.locals) (hc : cells + R'.cells ≤ R.cells) (hs : slots + R'.slots ≤ R.slots) :
    Stand p l e R' ((T.setVm s.vm).setFrames (.invoking m args :: below)) m args below meth c T [] 0 0 := by
  have htop : (T.setVm s.vm).topJava?.isSome := X.here.top
  have hF : ((T.setVm s.vm).setFrames (.invoking m args :: below)).frames = .invoking m args :: below := State.frames_setFrames _ (State.cur_lt_of_top htop)
  obtain ⟨g₀, hg0⟩ := Option.isSome_iff_exists.mp htop
  obtain ⟨r, hr⟩ := State.topJava?_eq_some.mp hg0
  have hl9 : e.platform.stackLimits (T.setVm s.vm).me = e.platform.stackLimits s.me := X.limits
  have hb9 : (T.setVm s.vm).me.stackBytes = s.me.stackBytes := X.bytes
  refine ⟨X.admits, X.cas, X.clock, hF, ?_, X.hears, X.method, X.code, X.here, X.tail, X.warmed, ?_, ?_, ?_⟩
  · have h := X.room
    have hU : ((T.setVm s.vm).setFrames (.invoking m args :: below)).localsInUse = s.localsInUse := by
      rw [State.localsInUse_invoking hF (meth := meth) (c := c) X.method X.code, State.localsInUse_invoking X.frames X.method X.code]
    simp only [State.hasRoom, Bool.and_eq_true, decide_eq_true_eq] at h ⊢
    obtain ⟨⟨⟨⟨h1, h2, h3, h4, h5, h6⟩, h7⟩, h8⟩, h9⟩ := h
    rw [X.frames, List.length_cons] at h2 h3
    have q1 := X.heapSize
    have q2 := X.used
    simp only [hF, hU, List.length_cons, State.stackLimits_setFrames, State.stackBytes_setFrames, hl9, hb9]
    refine ⟨⟨⟨⟨by omega, by omega, by omega, by omega, by omega, h6⟩, ?_⟩, ?_⟩, X.book⟩
    · show T.heap.size + R'.cells ≤ e.platform.maxCells
      omega
    · show T.slotsUsed + R'.slots ≤ e.platform.maxSlots
      omega
  · rw [State.stackLimits_setFrames]; rfl
  · rw [State.stackBytes_setFrames]; rfl
  · refine ⟨?_, Nat.le_refl _, Nat.le_refl _, ?_, ?_, fun a c9 h9 => ⟨c9, h9, rfl, rfl, fun _ _ => rfl⟩⟩
    · obtain ⟨t, ht, -⟩ := State.frames_cons hr
      show T.setVm s.vm = { ((T.setVm s.vm).setFrames (.invoking m args :: below)).setFrames (T.setVm s.vm).frames with heap := T.heap, slotsUsed := T.slotsUsed }
      rw [State.setFrames_setFrames, State.setFrames_self ht]
      rfl
    · show T.slotsUsed = T.slotsUsed + ((T.heap.toList.drop T.heap.size).map (·.slots.size)).sum
      rw [List.drop_eq_nil_of_le (Nat.le_of_eq Array.length_toList)]
      rfl
    · show ((T.heap.toList.drop T.heap.size).map (·.slots.size)).sum ≤ 0
      rw [List.drop_eq_nil_of_le (Nat.le_of_eq Array.length_toList)]
      exact Nat.le_refl _
/-- 'throw new E()': new; dup; invokespecial; athrow -/
theorem vx_throw0 {cc : ByteArray} {pc : Nat} (hexec : p.tables.exec = Jvm.exec) (hb : c.code = cc) (hl : l.stackTraces = false) {own cls : String} {names : List String} {ik ic mc ms : Nat} {A : Nat → Prop}
    (hown : s.vm.findClass own = some m.cls) (hcls : Bundle.fit cls = true) (hnames : ∀ n ∈ names, Bundle.fit n = true)
    (hk : (Cond.classLink own ik cls).before args s = true) (hini : (Cond.initialized cls).before args s = true) (hat : ∀ w ∈ vx_at0 own ic cls names, w.before args s = true)
    (hgood : ∀ w ∈ Cond.classLink own ik cls :: Cond.initialized cls :: vx_at0 own ic cls names, vx_ot w = true)
    (hU : vx_Zq Bundle.tN "UNASSIGNED_STACK" Bundle.steD A s s.heap) (hN : vx_Zq Bundle.tN "SUPPRESSED_SENTINEL" Bundle.listD A s s.heap) (hS : va_S A s.heap H locs) (hsize : ls.size = c.maxLocals)
    (d0 : decode cc pc = .ok (.new ik, 3)) (d3 : decode cc (pc + 3) = .ok (.dup, 1)) (d4 : decode cc (pc + 4) = .ok (.invokespecial ic, 3)) (d7 : decode cc (pc + 7) = .ok (.athrow, 1))
    (hout : ∀ x ∈ c.exceptionTable.toList, covers x (pc + 7) = false)
    (hRframes : names.length + 3 < R.frames) (hRlocals : (rest.map fun v => v.category).sum + (13 * (names.length + 1) + 42) ≤ R.locals) (hRcells : cells + 1 ≤ R.cells) (hRslots : slots + 6 ≤ R.slots) (hlocks : meth.locks = false)
    (hx : ∀ t : State, s.vm.Alike t.vm → H.size ≤ t.heap.size → (∀ q : Nat, q < H.size → t.heap[q]? = H[q]?) → XC cls s t)
    (hf : ∀ z ∈ locs, free z.base) (hc : cells + 1 ≤ mc) (hs : slots + 6 ≤ ms) :
    W p l e R s m args below meth c H locs cells slots (vx_MQ below Qc XC args s mc ms free) (F0 m pc ls rest) := by
  intro T hT X
  have htr : e.platform.stackTraces = false := (show e.platform.stackTraces = l.stackTraces by rw [X.admits.platform]).trans hl
  have Y := vx_rebase X (R' := { frames := R.frames, locals := R.locals, cells := 1, slots := 6 }) (Nat.le_refl _) (Nat.le_refl _) hRcells hRslots
  obtain ⟨s', hA⟩ : ∃ z, z = (T.setVm s.vm).setFrames (.invoking m args :: below) := ⟨_, rfl⟩
  rw [← hA] at Y
  have hvm : s'.vm = s.vm := by rw [hA]; rfl
  have hhp : s'.heap = H := by rw [hA]; exact hT
  have hW0 : s.WarmedH s'.vm := by rw [hvm]; exact State.WarmedH.refl s
  have hat' : ∀ w ∈ vx_at0 own ic cls names, w.before args s' = true := fun w hw => vx_ot_at hW0 hvm.symm (hgood w (List.mem_cons_of_mem _ (List.mem_cons_of_mem _ hw))) (hat w hw)
  have hk' : (Cond.classLink own ik cls).before args s' = true := vx_ot_at hW0 hvm.symm (hgood _ List.mem_cons_self) hk
  have hini' : (Cond.initialized cls).before args s' = true := vx_ot_at hW0 hvm.symm (hgood _ (List.mem_cons_of_mem _ List.mem_cons_self)) hini
  have hU' : vx_Zq Bundle.tN "UNASSIGNED_STACK" Bundle.steD A s' s'.heap := by rw [hhp]; exact vx_Zq.moved hW0.alike (hU.kept hS.2.1)
  have hN' : vx_Zq Bundle.tN "SUPPRESSED_SENTINEL" Bundle.listD A s' s'.heap := by rw [hhp]; exact vx_Zq.moved hW0.alike (hN.kept hS.2.1)
  have h : ∀ w ∈ Bundle.ownAtoms0 own ic cls names, w.before args s' = true := vx_own hat' (vx_isRefq hU'.1) (vx_isRefq hN'.1) hU'.2.word hN'.2.word
  have hown' : s'.vm.findClass own = some m.cls := by rw [hvm]; exact hown
  have hins : (Cond.instantiable cls 6).before args s' = true := h _ (by simp [Bundle.ownAtoms0])
  obtain ⟨vm₁, cX, kX, hfX, hkX, -, -, X₁, st1⟩ := Y.newCold hexec (own := own) (C := cls) (index := ik) (n := 6) hown' hk' hins hini'
    (g := F0 m pc ls rest) rfl (by rw [hb]; exact d0) (Nat.le_refl _) (Nat.le_refl _)
  generalize hT1 : (T.setVm vm₁).pushCell { cls := cX, slots := kX.instanceTypes.map defaultValue, vm := .none } = T1 at X₁ st1
  have hcat : (Value.ref T.heap.size).category = 1 := rfl
  have hcellA : T1.heap[T.heap.size]? = some (freshCell cX kX) := by rw [← hT1]; exact State.heap_pushCell_size _ _
  have d3' : decode c.code (pc + 3) = .ok (.dup, 1) := by rw [hb]; exact d3
  obtain ⟨U, hsteps, hrun, hend, hW, hsame, ce, hce, hO⟩ := X₁.ctorThrow0 hexec htr (own := own) (cls := cls) (names := names) (ic := ic) hown' hcls hnames h (fun x hx => nomatch hx) hfX hkX hcellA (by rw [hhp, hT]; exact Nat.le_refl _)
    (g := { method := m, pc := pc + 4, locals := ls, stack := .ref T.heap.size :: .ref T.heap.size :: rest, locked := none }) rfl hsize rfl rfl (rest := rest) rfl
    (by rw [hb]; exact d4) (by rw [hb]; exact d7) hout hRframes (by simp only [List.map_cons, List.sum_cons, hcat]; omega) hlocks
  obtain ⟨f1, f2⟩ := vx_frame hsame
  rw [hhp] at f1 f2
  have hWs : s.WarmedH U.vm := State.WarmedH.trans hW0 hW
  have hcl : s.vm.findClass cls = some ce.cls := by
    have h9 := hO.cls
    rw [hvm] at h9
    exact h9
  have hall : s.sameButNew ({ U with vm := s.vm } : State) locs mc ms := by
    subst hA
    obtain ⟨e1, e2⟩ := hsame
    rw [State.setFrames_setFrames] at e1
    have h2 : (T.setVm s.vm).sameButNew ({ U with vm := s.vm } : State) [] (0 + 1) (0 + 6) := ⟨e1, e2⟩
    have h3 := X.same.trans h2
    rw [List.append_nil] at h3
    exact h3.mono hc hs
  refine ⟨U, ?_, .threw T.heap.size, hrun, hend, Or.inr ⟨T.heap.size, rfl, cls, ce, locs, hx U hWs.alike f1 (fun q hq => f2 q hq (fun z hz => nomatch hz)), hce, hO.vm, hcl, hWs, hall, hf⟩⟩
  refine st1 _ ?_
  show Steps p.tables e below (T1.setTop { method := m, pc := pc + 3, locals := ls, stack := .ref T.heap.size :: rest, locked := none }) _
  jvm_step X₁.here [X₁.here.top, hexec, d3', Value.category]
  exact hsteps
/-- 'throw new E("text")': new; dup; ldc; invokespecial; athrow -/
theorem vx_throwS {cc : ByteArray} {pc : Nat} (hexec : p.tables.exec = Jvm.exec) (hb : c.code = cc) (hl : l.stackTraces = false) {own cls text : String} {names : List String} {ik is ic mc ms sa : Nat} {A : Nat → Prop}
    (hown : s.vm.findClass own = some m.cls) (hcls : Bundle.fit cls = true) (hnames : ∀ n ∈ names, Bundle.fit n = true)
    (hk : (Cond.classLink own ik cls).before args s = true) (hini : (Cond.initialized cls).before args s = true) (hstr : vk_R own is text sa s) (hat : ∀ w ∈ vx_atS own ic cls names, w.before args s = true)
    (hgood : ∀ w ∈ Cond.classLink own ik cls :: Cond.initialized cls :: vx_atS own ic cls names, vx_ot w = true)
    (hU : vx_Zq Bundle.tN "UNASSIGNED_STACK" Bundle.steD A s s.heap) (hN : vx_Zq Bundle.tN "SUPPRESSED_SENTINEL" Bundle.listD A s s.heap) (hS : va_S A s.heap H locs) (hsize : ls.size = c.maxLocals)
    (d0 : decode cc pc = .ok (.new ik, 3)) (d3 : decode cc (pc + 3) = .ok (.dup, 1)) (d4 : decode cc (pc + 4) = .ok (.ldc is, 2)) (d6 : decode cc (pc + 6) = .ok (.invokespecial ic, 3)) (d9 : decode cc (pc + 9) = .ok (.athrow, 1))
    (hout : ∀ x ∈ c.exceptionTable.toList, covers x (pc + 9) = false)
    (hRframes : names.length + 3 < R.frames) (hRlocals : (rest.map fun v => v.category).sum + (13 * (names.length + 1) + 43) ≤ R.locals) (hRcells : cells + 1 ≤ R.cells) (hRslots : slots + 6 ≤ R.slots) (hlocks : meth.locks = false)
    (hx : ∀ t : State, s.vm.Alike t.vm → H.size ≤ t.heap.size → (∀ q : Nat, q < H.size → t.heap[q]? = H[q]?) → XC cls s t)
    (hf : ∀ z ∈ locs, free z.base) (hc : cells + 1 ≤ mc) (hs : slots + 6 ≤ ms) :
    W p l e R s m args below meth c H locs cells slots (vx_MQ below Qc XC args s mc ms free) (F0 m pc ls rest) := by
  intro T hT X
  have htr : e.platform.stackTraces = false := (show e.platform.stackTraces = l.stackTraces by rw [X.admits.platform]).trans hl
  have Y := vx_rebase X (R' := { frames := R.frames, locals := R.locals, cells := 1, slots := 6 }) (Nat.le_refl _) (Nat.le_refl _) hRcells hRslots
  obtain ⟨s', hA⟩ : ∃ z, z = (T.setVm s.vm).setFrames (.invoking m args :: below) := ⟨_, rfl⟩
  rw [← hA] at Y
  have hvm : s'.vm = s.vm := by rw [hA]; rfl
  have hhp : s'.heap = H := by rw [hA]; exact hT
  have hW0 : s.WarmedH s'.vm := by rw [hvm]; exact State.WarmedH.refl s
  have hat' : ∀ w ∈ vx_atS own ic cls names, w.before args s' = true := fun w hw => vx_ot_at hW0 hvm.symm (hgood w (List.mem_cons_of_mem _ (List.mem_cons_of_mem _ hw))) (hat w hw)
  have hk' : (Cond.classLink own ik cls).before args s' = true := vx_ot_at hW0 hvm.symm (hgood _ List.mem_cons_self) hk
  have hini' : (Cond.initialized cls).before args s' = true := vx_ot_at hW0 hvm.symm (hgood _ (List.mem_cons_of_mem _ List.mem_cons_self)) hini
  have hU' : vx_Zq Bundle.tN "UNASSIGNED_STACK" Bundle.steD A s' s'.heap := by rw [hhp]; exact vx_Zq.moved hW0.alike (hU.kept hS.2.1)
  have hN' : vx_Zq Bundle.tN "SUPPRESSED_SENTINEL" Bundle.listD A s' s'.heap := by rw [hhp]; exact vx_Zq.moved hW0.alike (hN.kept hS.2.1)
  have h : ∀ w ∈ Bundle.ownAtoms own ic cls names, w.before args s' = true := vx_own hat' (vx_isRefq hU'.1) (vx_isRefq hN'.1) hU'.2.word hN'.2.word
  have hown' : s'.vm.findClass own = some m.cls := by rw [hvm]; exact hown
  have hins : (Cond.instantiable cls 6).before args s' = true := h _ (by simp [Bundle.ownAtoms])
  obtain ⟨vm₁, cX, kX, hfX, hkX, -, -, X₁, st1⟩ := Y.newCold hexec (own := own) (C := cls) (index := ik) (n := 6) hown' hk' hins hini'
    (g := F0 m pc ls rest) rfl (by rw [hb]; exact d0) (Nat.le_refl _) (Nat.le_refl _)
  generalize hT1 : (T.setVm vm₁).pushCell { cls := cX, slots := kX.instanceTypes.map defaultValue, vm := .none } = T1 at X₁ st1
  have hcat : (Value.ref T.heap.size).category = 1 := rfl
  have hcellA : T1.heap[T.heap.size]? = some (freshCell cX kX) := by rw [← hT1]; exact State.heap_pushCell_size _ _
  have d3' : decode c.code (pc + 3) = .ok (.dup, 1) := by rw [hb]; exact d3
  have d4' : decode c.code (pc + 4) = .ok (.ldc is, 2) := by rw [hb]; exact d4
  have hstr' : vk_R own is text sa s' := vk_R.warm hW0 hstr
  obtain ⟨U, hsteps, hrun, hend, hW, hsame, ce, hce, hO⟩ := X₁.ctorThrowS hexec htr (own := own) (cls := cls) (names := names) (ic := ic) hown' hcls hnames h (fun x hx => nomatch hx) hfX hkX hcellA (by rw [hhp, hT]; exact Nat.le_refl _) (msg := .ref sa) rfl
    (g := { method := m, pc := pc + 6, locals := ls, stack := .ref sa :: .ref T.heap.size :: .ref T.heap.size :: rest, locked := none }) rfl hsize rfl rfl (rest := rest) rfl
    (by rw [hb]; exact d6) (by rw [hb]; exact d9) hout hRframes (by simp only [List.map_cons, List.sum_cons, hcat]; omega) hlocks
  obtain ⟨f1, f2⟩ := vx_frame hsame
  rw [hhp] at f1 f2
  have hWs : s.WarmedH U.vm := State.WarmedH.trans hW0 hW
  have hcl : s.vm.findClass cls = some ce.cls := by
    have h9 := hO.cls
    rw [hvm] at h9
    exact h9
  have hall : s.sameButNew ({ U with vm := s.vm } : State) locs mc ms := by
    subst hA
    obtain ⟨e1, e2⟩ := hsame
    rw [State.setFrames_setFrames] at e1
    have h2 : (T.setVm s.vm).sameButNew ({ U with vm := s.vm } : State) [] (0 + 1) (0 + 6) := ⟨e1, e2⟩
    have h3 := X.same.trans h2
    rw [List.append_nil] at h3
    exact h3.mono hc hs
  refine ⟨U, ?_, .threw T.heap.size, hrun, hend, Or.inr ⟨T.heap.size, rfl, cls, ce, locs, hx U hWs.alike f1 (fun q hq => f2 q hq (fun z hz => nomatch hz)), hce, hO.vm, hcl, hWs, hall, hf⟩⟩
  refine st1 _ ?_
  show Steps p.tables e below (T1.setTop { method := m, pc := pc + 3, locals := ls, stack := .ref T.heap.size :: rest, locked := none }) _
  jvm_step X₁.here [X₁.here.top, hexec, d3', Value.category]
  exact X₁.ldcString hexec (own := own) (text := text) (index := is) (a := sa) hown' hstr'.1 hstr'.2
    (g := { method := m, pc := pc + 4, locals := ls, stack := .ref T.heap.size :: .ref T.heap.size :: rest, locked := none }) rfl d4' _ hsteps
/-- 'throw new E("text")', the text by a wide index -/
theorem vx_throwSW {cc : ByteArray} {pc : Nat} (hexec : p.tables.exec = Jvm.exec) (hb : c.code = cc) (hl : l.stackTraces = false) {own cls text : String} {names : List String} {ik is ic mc ms sa : Nat} {A : Nat → Prop}
    (hown : s.vm.findClass own = some m.cls) (hcls : Bundle.fit cls = true) (hnames : ∀ n ∈ names, Bundle.fit n = true)
    (hk : (Cond.classLink own ik cls).before args s = true) (hini : (Cond.initialized cls).before args s = true) (hstr : vk_R own is text sa s) (hat : ∀ w ∈ vx_atS own ic cls names, w.before args s = true)
    (hgood : ∀ w ∈ Cond.classLink own ik cls :: Cond.initialized cls :: vx_atS own ic cls names, vx_ot w = true)
    (hU : vx_Zq Bundle.tN "UNASSIGNED_STACK" Bundle.steD A s s.heap) (hN : vx_Zq Bundle.tN "SUPPRESSED_SENTINEL" Bundle.listD A s s.heap) (hS : va_S A s.heap H locs) (hsize : ls.size = c.maxLocals)
    (d0 : decode cc pc = .ok (.new ik, 3)) (d3 : decode cc (pc + 3) = .ok (.dup, 1)) (d4 : decode cc (pc + 4) = .ok (.ldc_w is, 3)) (d7 : decode cc (pc + 7) = .ok (.invokespecial ic, 3)) (d10 : decode cc (pc + 10) = .ok (.athrow, 1))
    (hout : ∀ x ∈ c.exceptionTable.toList, covers x (pc + 10) = false)
    (hRframes : names.length + 3 < R.frames) (hRlocals : (rest.map fun v => v.category).sum + (13 * (names.length + 1) + 43) ≤ R.locals) (hRcells : cells + 1 ≤ R.cells) (hRslots : slots + 6 ≤ R.slots) (hlocks : meth.locks = false)
    (hx : ∀ t : State, s.vm.Alike t.vm → H.size ≤ t.heap.size → (∀ q : Nat, q < H.size → t.heap[q]? = H[q]?) → XC cls s t)
    (hf : ∀ z ∈ locs, free z.base) (hc : cells + 1 ≤ mc) (hs : slots + 6 ≤ ms) :
    W p l e R s m args below meth c H locs cells slots (vx_MQ below Qc XC args s mc ms free) (F0 m pc ls rest) := by
  intro T hT X
  have htr : e.platform.stackTraces = false := (show e.platform.stackTraces = l.stackTraces by rw [X.admits.platform]).trans hl
  have Y := vx_rebase X (R' := { frames := R.frames, locals := R.locals, cells := 1, slots := 6 }) (Nat.le_refl _) (Nat.le_refl _) hRcells hRslots
  obtain ⟨s', hA⟩ : ∃ z, z = (T.setVm s.vm).setFrames (.invoking m args :: below) := ⟨_, rfl⟩
  rw [← hA] at Y
  have hvm : s'.vm = s.vm := by rw [hA]; rfl
  have hhp : s'.heap = H := by rw [hA]; exact hT
  have hW0 : s.WarmedH s'.vm := by rw [hvm]; exact State.WarmedH.refl s
  have hat' : ∀ w ∈ vx_atS own ic cls names, w.before args s' = true := fun w hw => vx_ot_at hW0 hvm.symm (hgood w (List.mem_cons_of_mem _ (List.mem_cons_of_mem _ hw))) (hat w hw)
  have hk' : (Cond.classLink own ik cls).before args s' = true := vx_ot_at hW0 hvm.symm (hgood _ List.mem_cons_self) hk
  have hini' : (Cond.initialized cls).before args s' = true := vx_ot_at hW0 hvm.symm (hgood _ (List.mem_cons_of_mem _ List.mem_cons_self)) hini
  have hU' : vx_Zq Bundle.tN "UNASSIGNED_STACK" Bundle.steD A s' s'.heap := by rw [hhp]; exact vx_Zq.moved hW0.alike (hU.kept hS.2.1)
  have hN' : vx_Zq Bundle.tN "SUPPRESSED_SENTINEL" Bundle.listD A s' s'.heap := by rw [hhp]; exact vx_Zq.moved hW0.alike (hN.kept hS.2.1)
  have h : ∀ w ∈ Bundle.ownAtoms own ic cls names, w.before args s' = true := vx_own hat' (vx_isRefq hU'.1) (vx_isRefq hN'.1) hU'.2.word hN'.2.word
  have hown' : s'.vm.findClass own = some m.cls := by rw [hvm]; exact hown
  have hins : (Cond.instantiable cls 6).before args s' = true := h _ (by simp [Bundle.ownAtoms])
  obtain ⟨vm₁, cX, kX, hfX, hkX, -, -, X₁, st1⟩ := Y.newCold hexec (own := own) (C := cls) (index := ik) (n := 6) hown' hk' hins hini'
    (g := F0 m pc ls rest) rfl (by rw [hb]; exact d0) (Nat.le_refl _) (Nat.le_refl _)
  generalize hT1 : (T.setVm vm₁).pushCell { cls := cX, slots := kX.instanceTypes.map defaultValue, vm := .none } = T1 at X₁ st1
  have hcat : (Value.ref T.heap.size).category = 1 := rfl
  have hcellA : T1.heap[T.heap.size]? = some (freshCell cX kX) := by rw [← hT1]; exact State.heap_pushCell_size _ _
  have d3' : decode c.code (pc + 3) = .ok (.dup, 1) := by rw [hb]; exact d3
  have d4' : decode c.code (pc + 4) = .ok (.ldc_w is, 3) := by rw [hb]; exact d4
  have hstr' : vk_R own is text sa s' := vk_R.warm hW0 hstr
  obtain ⟨U, hsteps, hrun, hend, hW, hsame, ce, hce, hO⟩ := X₁.ctorThrowS hexec htr (own := own) (cls := cls) (names := names) (ic := ic) hown' hcls hnames h (fun x hx => nomatch hx) hfX hkX hcellA (by rw [hhp, hT]; exact Nat.le_refl _) (msg := .ref sa) rfl
    (g := { method := m, pc := pc + 7, locals := ls, stack := .ref sa :: .ref T.heap.size :: .ref T.heap.size :: rest, locked := none }) rfl hsize rfl rfl (rest := rest) rfl
    (by rw [hb]; exact d7) (by rw [hb]; exact d10) hout hRframes (by simp only [List.map_cons, List.sum_cons, hcat]; omega) hlocks
  obtain ⟨f1, f2⟩ := vx_frame hsame
  rw [hhp] at f1 f2
  have hWs : s.WarmedH U.vm := State.WarmedH.trans hW0 hW
  have hcl : s.vm.findClass cls = some ce.cls := by
    have h9 := hO.cls
    rw [hvm] at h9
    exact h9
  have hall : s.sameButNew ({ U with vm := s.vm } : State) locs mc ms := by
    subst hA
    obtain ⟨e1, e2⟩ := hsame
    rw [State.setFrames_setFrames] at e1
    have h2 : (T.setVm s.vm).sameButNew ({ U with vm := s.vm } : State) [] (0 + 1) (0 + 6) := ⟨e1, e2⟩
    have h3 := X.same.trans h2
    rw [List.append_nil] at h3
    exact h3.mono hc hs
  refine ⟨U, ?_, .threw T.heap.size, hrun, hend, Or.inr ⟨T.heap.size, rfl, cls, ce, locs, hx U hWs.alike f1 (fun q hq => f2 q hq (fun z hz => nomatch hz)), hce, hO.vm, hcl, hWs, hall, hf⟩⟩
  refine st1 _ ?_
  show Steps p.tables e below (T1.setTop { method := m, pc := pc + 3, locals := ls, stack := .ref T.heap.size :: rest, locked := none }) _
  jvm_step X₁.here [X₁.here.top, hexec, d3', Value.category]
  exact X₁.ldcStringW hexec (own := own) (text := text) (index := is) (a := sa) hown' hstr'.1 hstr'.2
    (g := { method := m, pc := pc + 4, locals := ls, stack := .ref T.heap.size :: .ref T.heap.size :: rest, locked := none }) rfl d4' _ hsteps
end Ends
section Bodies
variable {l : Launch}
theorem vx_ofW {y : MethodName} {ws ws' : List Cond} {rm : Room} {Pc : Array Value → State → Prop} {Qc : Array Value → State → Outcome → State → Prop} {XC : String → State → State → Prop} {mc ms : Nat} {free : Addr → Prop} {cc : ByteArray} {maxL : Nat} {ret : Option FieldType}
    (hy : plainName y.cls = true) (hw : ws = Cond.code y cc maxL ret :: ws')
    (body : ∀ p e s m args below meth c s₁, BodyLoose p l y (headSpec ws rm) cc maxL ret e s m args below meth c s₁ → c.maxLocals = maxL → (∀ x ∈ c.exceptionTable.toList, False) → Pc args s →
      W p l e (headSpec ws rm).room s m args below meth c s.heap [] 0 0 (vx_MQ below Qc XC args s mc ms free) (entryFrame m args maxL)) : vx_Met l y ws rm Pc Qc XC mc ms free := by
  refine MetFree.of_bodyS (code := cc) (maxLocals := maxL) (ret := ret) hy ?_ ?_
  · intro args s m h hn
    obtain ⟨meth, c, h1, h2, h3, h4, h5, h6, -, -⟩ := Cond.code_spec hn (atoms_spec (ws := ws) h _ (by rw [hw]; exact List.mem_cons_self))
    exact ⟨meth, c, h1, h2, h3, h4, h5, h6⟩
  · intro p e s m args below meth c s₁ B hml hP _
    have hh0 : s₁.heap = s.heap := by rw [B.state]; rfl
    have ht : ∀ x ∈ c.exceptionTable.toList, False := by
      obtain ⟨meth9, c9, h1, h2, -, -, -, -, h7, -⟩ := Cond.code_spec B.named (atoms_spec (ws := ws) B.pre _ (by rw [hw]; exact List.mem_cons_self))
      cases Option.some.inj (h1.symm.trans B.method)
      cases Option.some.inj (h2.symm.trans (Stand.of_body B).code)
      intro x hx
      rw [Array.isEmpty_iff.mp h7] at hx
      cases hx
    obtain ⟨t, a1, o, b1, b2, b3⟩ := body p e s m args below meth c s₁ B hml ht hP s₁ hh0 (Stand.of_body B)
    exact ⟨t, o, a1, b1, b2, b3⟩
/-- the table of a body with handlers -/
theorem vx_table {p : Program} {x y : MethodName} {S : Spec} {cc bytes : ByteArray} {maxL maxL' : Nat} {ret ret' : Option FieldType} {e : Env} {s s₁ : State} {m : MethodId} {args : Array Value} {below : List Frame} {meth : Method} {c : Code} {hh : List (Nat × Nat × Nat × Nat)}
    (B : BodyLoose p l y S cc maxL ret e s m args below meth c s₁) (h : (Cond.codeWith y bytes maxL' ret' hh).before args s = true) : c.exceptionTable.toList = tableOf hh := by
  obtain ⟨m9, meth9, c9, hn9, h1, h2, -, -, h6, -⟩ := Cond.codeWith_spec h
  cases Option.some.inj (hn9.symm.trans B.named)
  cases Option.some.inj (h1.symm.trans B.method)
  cases Option.some.inj (h2.symm.trans (Stand.of_body B).code)
  rw [← h6, table_eq]
end Bodies
end VXA
/-! ===== END ===== -/
/-! ===== BEGIN a static call of a method with an exception table ===== -/
section VXS
variable {p : Program} {l : Launch} {e : Env} {R : Room} {s : State} {m : MethodId} {args : Array Value} {below : List Frame} {meth : Method} {c : Code} {T : State} {H : Heap} {locs : List Loc} {cells slots : Nat}
abbrev vx_CSW (R : Room) (s : State) (args : Array Value) (own : String) (index : Nat) (y : MethodName) (bytes : ByteArray) (maxL : Nat) (ret : Option FieldType) (hh : List (Nat × Nat × Nat × Nat)) (ws : List Cond) (rm : Room) (mc ms n : Nat) : Prop :=
  (rm.cells = mc ∧ rm.slots = ms ∧ rm.frames + 1 ≤ R.frames ∧ 8 + (maxL + 11) + rm.locals ≤ R.locals ∧ (∀ w ∈ ws, ∀ (a' : Array Value) (U : State), s.WarmedH U.vm → w.before a' U = true) ∧ Cond.codeWith y bytes maxL ret hh ∈ ws) ∧
  (Cond.codeWith y bytes maxL ret hh).before args s = true ∧ (Cond.initialized y.cls).before args s = true ∧ (y.cls ≠ "java/lang/invoke/MethodHandle" ∧ y.cls ≠ "java/lang/invoke/VarHandle") ∧
  (∀ sig, parseMethodDescriptor y.desc = some sig → n = sig.parameters.length) ∧ (Cond.methodLink own index y).before args s = true ∧ (Cond.static y).before args s = true
theorem vx_cwSW {own : String} {index maxL mc ms : Nat} {y : MethodName} {bytes : ByteArray} {ret : Option FieldType} {hh : List (Nat × Nat × Nat × Nat)} {Ts ws ws' : List Cond} {rm : Room} (n : Nat) (ht : ∀ w ∈ Ts, w.before args s = true) (hT : GoodIn Ts (va_wsS own index y ws)) (hw : ws = Cond.codeWith y bytes maxL ret hh :: ws') (hrc : rm.cells = mc) (hrs : rm.slots = ms)
    (hd : y.cls ≠ "java/lang/invoke/MethodHandle" ∧ y.cls ≠ "java/lang/invoke/VarHandle" ∧ (parseMethodDescriptor y.desc).map (fun d => d.parameters.length) = some n) (hR : rm.frames + 1 ≤ R.frames ∧ 8 + (maxL + 11) + rm.locals ≤ R.locals) :
    vx_CSW R s args own index y bytes maxL ret hh ws rm mc ms n := by
  have ok : ∀ w ∈ va_wsS own index y ws, w.before args s = true := fun w h => ht w (hT w h).1
  have hG : GoodIn Ts ws := fun w h => hT w (by unfold va_wsS; exact List.mem_append_right _ h)
  have hc : Cond.codeWith y bytes maxL ret hh ∈ ws := by rw [hw]; exact List.mem_cons_self
  refine ⟨⟨hrc, hrs, hR.1, hR.2, pay_in ht hG, hc⟩, ht _ (hG _ hc).1, ok _ (by simp [va_wsS]), ⟨hd.1, hd.2.1⟩, fun sig h => ?_, ok _ (by simp [va_wsS]), ok _ (by simp [va_wsS])⟩
  have h2 := hd.2.2
  rw [h] at h2
  exact (Option.some.inj h2).symm
theorem vx_callSW (X : Stand p l e R s m args below meth c T locs cells slots) (hexec : p.tables.exec = Jvm.exec) {own : String} {index : Nat} {y : MethodName} {bytes : ByteArray} {maxL : Nat} {ret : Option FieldType} {hh : List (Nat × Nat × Nat × Nat)}
    (hown : s.vm.findClass own = some m.cls) (hlink : (Cond.methodLink own index y).before args s = true) (hstat : (Cond.static y).before args s = true) (hinit : (Cond.initialized y.cls).before args s = true)
    (hcode : (Cond.codeWith y bytes maxL ret hh).before args s = true) (hy : y.cls ≠ "java/lang/invoke/MethodHandle" ∧ y.cls ≠ "java/lang/invoke/VarHandle")
    {W9 : Nat} {Pre : Pt → Array Value → Prop} {Post : Pt → Array Value → Option Value → Pt → Prop} (hK : Back l R p e below s args y 3 W9 Pre Post)
    {g : JFrame} (hg : g.method = m) (hsize : g.locals.size = c.maxLocals) {argsL rest : List Value} (hlen : ∀ sig, parseMethodDescriptor y.desc = some sig → argsL.length = sig.parameters.length)
    (hstack : g.stack = argsL.reverse ++ rest) (hW : 2 * g.monitorRoom + (rest.map fun v => v.category).sum ≤ W9) (hdg : decode c.code g.pc = .ok (.invokestatic index, 3))
    (hpre : ∀ vm₁, s.WarmedH vm₁ → Pre ⟨T.setVm vm₁, locs, cells, slots⟩ argsL.toArray) :
    ∃ (v : Option Value) (vm₁ : Vm) (B : Pt), s.WarmedH vm₁ ∧ Stand p l e R s m args below meth c B.U B.locs B.cells B.slots ∧ Post ⟨T.setVm vm₁, locs, cells, slots⟩ argsL.toArray v B ∧
      ∀ target, Steps p.tables e below (B.U.setTop { g with pc := g.pc + 3, stack := v.toList ++ rest }) target → Steps p.tables e below (T.setTop g) target := by
  obtain ⟨mk, methM, cM, hnamed, hmethM, -, -, -, -, -, -, hsigM⟩ := Cond.codeWith_spec hcode
  have hstatic : methM.isStatic = true := Cond.static_spec hnamed hmethM hstat
  obtain ⟨kP, hkP, -⟩ := className_of_methodNamed hnamed
  have hinitP : kP.init = .initialized := Cond.initialized_spec (findClass_of_methodNamed hnamed) hkP hinit
  obtain ⟨vm₁, X₁, hstep₁⟩ := X.invokestatic hexec hown hlink hnamed hmethM hstatic hkP hinitP hy (g := g) hg (argsL := argsL) (rest := rest) (hlen _ hsigM) hstack hdg
  obtain ⟨v, B, X', hpost, hsteps⟩ := hK m meth c ⟨T.setVm vm₁, locs, cells, slots⟩ { g with stack := rest } (.invokestatic index) mk argsL.toArray X₁ hg hsize hdg hW (X₁.named hnamed) (hpre vm₁ X₁.warmed)
  exact ⟨v, vm₁, B, X₁.warmed, X', hpost, fun target h => hstep₁ _ fun acts => by rw [doInvoke_state]; exact hsteps.trans h⟩
theorem vx_runSW {y : MethodName} {bytes cc : ByteArray} {maxL nL mc ms n index : Nat} {ret : Option FieldType} {hh : List (Nat × Nat × Nat × Nat)} {ws : List Cond} {rm : Room} {Pc : Array Value → State → Prop} {Qc : Array Value → State → Outcome → State → Prop} {free : Addr → Prop} {Ts : List Cond} {own : String} {As rest : List Value} {g : JFrame}
    (S : CallFix p m c cc nL s args Ts own) (hM : Met l y ws rm Pc Qc mc ms free) (cw : vx_CSW R s args own index y bytes maxL ret hh ws rm mc ms n) (hp : PreS s H Pc As)
    (hg : g.method = m) (hn : As.length = n) (hsize : g.locals.size = nL) (hstack : g.stack = As.reverse ++ rest) (hW : 2 * g.monitorRoom + (rest.map fun v => v.category).sum ≤ 8) (hdg : decode cc g.pc = .ok (.invokestatic index, 3)) (hf : cells + mc ≤ R.cells ∧ slots + ms ≤ R.slots) :
    va_Run p l e R s m args below meth c H locs cells slots mc ms g rest (Qc As.toArray) (free) := by
  obtain ⟨⟨hrc, hrs, hfr, hlo, hws, hcw⟩, hcode, hini, hy, hlen, hl, hstt⟩ := cw
  have hK : Back l R p e below s args y 3 8 (PreOf R mc ms Pc) (PostOf Qc mc ms free) := va_backW (hh := hh) (bytes := bytes) (maxL := maxL) (ret := ret) hM hp.1 hrc hrs hfr hlo hws hcw (fun a' U hW => word_at hW (Or.inl (by first | rfl | simp [Cond.onTables, Cond.keeps, Cond.steady])) hini)
  obtain ⟨hx, hb, hml, ho, -⟩ := S
  intro T hT X
  obtain ⟨v, vm₁, ⟨U', l2, c2, s2⟩, hW₁, X', ⟨g', mk, t, L, e1, e2, hq, h1, hL, h2, h3⟩, st⟩ := vx_callSW X hx (hh := hh) (bytes := bytes) (maxL := maxL) (ret := ret) ho hl hstt hini hcode hy hK hg (hsize.trans hml.symm) (argsL := As) (rest := rest) (fun sig h => hn.trans (hlen sig h)) hstack hW (by rw [hb]; exact hdg)
    (fun vm₁ hW₁ => ⟨hf.1, hf.2, hp.2 (T.setVm vm₁) hT hW₁⟩)
  dsimp only [Pt.U, Pt.locs, Pt.cells, Pt.slots] at X' e1 e2 h1 h2 h3 st
  subst h1; subst h2; subst h3
  exact ⟨v, (T.setVm vm₁).calling g' mk As.toArray, t, U', L, hT, X', hL, e1, e2, hq, st⟩
/-- not caught here, past rows that name other classes: it goes on to the caller -/
theorem vx_outP {p : Program} {l : Launch} {e : Env} {R : Room} {s : State} {m : MethodId} {args : Array Value} {below : List Frame} {meth : Method} {c : Code} {H : Heap} {locs : List Loc} {cells slots : Nat} {free : Addr → Prop} {ls : Array Slot} {rest : List Value} {Qc : Array Value → State → Outcome → State → Prop} {XC : String → State → State → Prop}
    {pc : Nat} {own E : String} {ce : Cell} {q : Addr} {mc ms : Nat} (hown : s.vm.findClass own = some m.cls) (hlocks : meth.locks = false)
    (hpass : ∀ z ∈ c.exceptionTable.toList, covers z pc = false ∨ (z.catchType ≠ 0 ∧ ∃ nm : String, (Cond.classLink own z.catchType nm).before args s = true ∧ va_Nc E nm s)) (hcell : H[q]? = some ce) (hv : ce.vm = .none) (hcl : s.vm.findClass E = some ce.cls)
    (hx : ∀ t : State, t.heap = H → s.vm.Alike t.vm → XC E s t) (hf : ∀ z ∈ locs, free z.base) (hc : cells ≤ mc) (hs : slots ≤ ms) :
    vx_W p l e R s m args below meth c H locs cells slots (vx_MQ below Qc XC args s mc ms free) (F0 m pc ls rest) q := by
  intro T hT X
  have hpl : e.platform.magicAccessors = ({} : Platform).magicAccessors := by rw [X.admits.platform]
  obtain ⟨vm', hW', X', st⟩ := X.outThrough hlocks q (g := F0 m pc ls rest) rfl rfl rfl (cell := ce) (by rw [hT]; exact hcell) (by rw [hv]; rfl)
    (by obtain ⟨k9, h9, -⟩ := Vm.findClass_spec hcl; exact ⟨k9, h9⟩) (fun z hz => by
      rcases hpass z hz with h | ⟨hz0, nm, hl1, hn1⟩
      · exact Or.inl h
      · obtain ⟨c6, hc6, hcl6⟩ := Cond.classLink_spec hown hl1 e.platform hpl
        obtain ⟨a8, b8, h1, h2, h3⟩ := hn1
        cases Option.some.inj (h1.symm.trans hcl)
        cases Option.some.inj (h2.symm.trans hc6)
        exact Or.inr ⟨hz0, _, hcl6, h3⟩)
  obtain ⟨g₀, hfr⟩ := X'.frames_eq
  have hcell9 : ((T.setVm vm').setFrames (.throwing q :: below)).heap[q]? = some ce := by
    show T.heap[q]? = some ce
    rw [hT]; exact hcell
  have hend : Ended ((T.setVm vm').setFrames (.throwing q :: below)) below (.threw q) := State.frames_setFrames _ (State.cur_lt_of_frames hfr)
  refine ⟨(T.setVm vm').setFrames (.throwing q :: below), ?_, .threw q, X'.here.running, hend, Or.inr ⟨q, rfl, E, ce, locs, hx _ hT (X'.ends _).1.alike, hcell9, hv, hcl, (X'.ends _).1, (X'.ends _).2.mono hc hs, hf⟩⟩
  rw [X.pushThrowing_eq]
  exact st
/-- a thing of a world lies in the heap -/
theorem vx_lt {D : va_G} {cl : List vw_C} {ws : va_W} {H1 : Heap} (h : va_P D cl ws H1) {k : Nat} {q : Nat × va_E} (hk : ws[k]? = some q) : q.1 < H1.size := (h k q hk).lt
end VXS
/-! ===== END ===== -/
/-! ===== BEGIN methods with a table of their own: called by a name, returning or throwing ===== -/
section VXH
/-! vx_backW, vx_callVX, vx_callSX, vx_callVW, vx_runVW, vx_runVX, vx_runSX, vx_ofWH follow the same proofs as their sisters above (Free/Laws.lean, Shelf42/LK1.lean); vx_outP calls Shelf42/NT130.lean (outThrough). -/
section
variable {l : Launch} {R : Room} {p : Program} {e : Env} {below : List Frame} {s : State} {sargs : Array Value} {y : MethodName} {len W9 : Nat}
theorem vx_backW {ws : List Cond} {rm : Room} {Pc : Array Value → State → Prop} {Qc : Array Value → State → Outcome → State → Prop} {XC : String → State → State → Prop} {mc ms : Nat} {free : Addr → Prop} {bytes : ByteArray} {maxL : Nat} {ret : Option FieldType} {hh : List (Nat × Nat × Nat × Nat)}
    (hM : vx_Met l y ws rm Pc Qc XC mc ms free) (hblind : FrameBlind Pc) (hrc : rm.cells = mc) (hrs : rm.slots = ms)
    (hframes : rm.frames + 1 ≤ R.frames) (hlocals : W9 + (maxL + 11) + rm.locals ≤ R.locals)
    (hws : ∀ w ∈ ws, ∀ a' U, s.WarmedH U.vm → w.before a' U = true) (hcode : Cond.codeWith y bytes maxL ret hh ∈ ws) (hinit : ∀ a' U, s.WarmedH U.vm → (Cond.initialized y.cls).before a' U = true) :
    vx_Back l R p e below s sargs y len W9 (PreOf R mc ms Pc) (PostOf Qc mc ms free) (vx_Post XC mc ms free) := by
  intro m meth c A g ig mk a X hg hsize hdg hW hn hp
  have h1 : (headSpec ws rm).pre.before a A.U = true := atoms_intro fun w hw => hws w hw _ _ X.warmed
  have h2 : (Cond.codeWith y bytes maxL ret hh).before a A.U = true := hws _ hcode _ _ X.warmed
  have h3 : (Cond.initialized y.cls).before a A.U = true := hinit _ _ X.warmed
  have h4 : A.cells + (headSpec ws rm).room.cells ≤ R.cells := by rw [show (headSpec ws rm).room.cells = mc from hrc]; exact hp.1
  have h5 : A.slots + (headSpec ws rm).room.slots ≤ R.slots := by rw [show (headSpec ws rm).room.slots = ms from hrs]; exact hp.2.1
  have hPc : Pc a (A.U.calling g mk a) := hblind _ _ _ _ hp.2.2
  obtain ⟨U, Ls, c0, s0⟩ := A
  dsimp only [Pt.U, Pt.locs, Pt.cells, Pt.slots] at h1 h2 h3 h4 h5 X hn hPc ⊢
  obtain ⟨m9, methY, cY, hn9, hmY, hcY, -, hlY, -⟩ := Cond.codeWith_spec h2
  cases Option.some.inj (hn9.symm.trans hn)
  obtain ⟨kY, hkY, -⟩ := className_of_methodNamed hn
  have hinitY : kY.init = .initialized := Cond.initialized_spec (findClass_of_methodNamed hn) hkY h3
  have h : At U g.method c below := by rw [hg]; exact X.here
  have hlocals9 : W9 + (maxL + 11) + (headSpec ws rm).room.locals ≤ R.locals := hlocals
  have happ : (headSpec ws rm).appliesLoose y e.platform (U.calling g mk a) = true :=
    Spec.appliesLoose_calling (g := g) h hdg hn hkY hinitY
      (X.room_calling (g := g) (R' := (headSpec ws rm).room) hsize hmY hcY hframes (by rw [hlY]; omega) h4 h5) h1
  obtain ⟨mid, hmid⟩ := h.above
  have hfr : (U.setTop g).frames = (.java g :: mid) ++ below := by rw [State.frames_setTop' g h.top, hmid]; rfl
  obtain ⟨o, s₂, hsteps, -, hend, hq⟩ := Steps.callFree hM p X.admits X.cas X.clock (acts := []) hfr happ hPc trivial
  have hq' : vx_Q Qc XC mc ms free a (U.calling g mk a) o s₂ := hq
  rw [State.frames_setTop' g h.top] at hend
  obtain ⟨g₀, hg0⟩ := Option.isSome_iff_exists.mp h.top
  obtain ⟨r, hr⟩ := State.topJava?_eq_some.mp hg0
  have hr' : (({ U with heap := s₂.heap, slotsUsed := s₂.slotsUsed } : State).setVm s₂.vm).frames = .java g₀ :: r := hr
  rcases hq' with ⟨hqc, L, hfe, hL⟩ | ⟨q, rfl, E, ce, L, hx, hce, hcv, hcl, hW₂, hsm, hL⟩
  · obtain ⟨⟨v, rfl⟩, hW₂, e2, q2, q3, q4, q5, q6⟩ := id hfe
    have e3 : s₂ = ({ (U.calling g mk a).setFrames s₂.frames with heap := s₂.heap, slotsUsed := s₂.slotsUsed } : State).setVm s₂.vm := by
      have : s₂ = ({ s₂ with vm := (U.calling g mk a).vm } : State).setVm s₂.vm := rfl
      rw [e2] at this
      exact this
    obtain ⟨c₂, i₂, len₂, hc₂, hd₂, hf₂⟩ := hend
    have hW' : U.WarmedH s₂.vm := hW₂
    have hcc : c₂ = c := by
      have h1 : s₂.code? g.method = U.code? g.method := by
        rw [State.code?_eq, State.code?_eq, hW'.alike.method?]
      exact Option.some.inj (hc₂.symm.trans (h1.trans h.code))
    subst hcc
    have hlen : len₂ = len := by rw [hdg] at hd₂; cases hd₂; rfl
    subst hlen
    have hs₂ : s₂ = (({ U with heap := s₂.heap, slotsUsed := s₂.slotsUsed } : State).setVm s₂.vm).setTop { g with pc := g.pc + len₂, stack := v.toList ++ g.stack } := by
      refine e3.trans ?_
      rw [hf₂, State.calling_eq h.top, State.setFrames_setFrames, State.setTop_of_frames _ hr', hr]
      rfl
    have hsame : U.sameButNew ({ U with heap := s₂.heap, slotsUsed := s₂.slotsUsed } : State) L mc ms := by
      refine ⟨?_, q2, q3, q4, q5, q6⟩
      obtain ⟨t, ht, -⟩ := State.frames_cons hr
      show ({ U with heap := s₂.heap, slotsUsed := s₂.slotsUsed } : State) = { U.setFrames U.frames with heap := s₂.heap, slotsUsed := s₂.slotsUsed }
      rw [State.setFrames_self ht]
    subst hg
    refine Or.inl ⟨v, ⟨(({ U with heap := s₂.heap, slotsUsed := s₂.slotsUsed } : State).setVm s₂.vm), Ls ++ L, c0 + mc, s0 + ms⟩,
      ⟨X.admits, X.cas, X.clock, X.frames, X.room, X.hears, X.method, X.code, (X.here.setHeapUsed s₂.heap s₂.slotsUsed).setVm hW'.alike, X.tail, State.WarmedH.trans X.warmed hW', X.limits, X.bytes, X.same.trans (hsame.setVm s.vm)⟩,
      ⟨g, mk, s₂, L, rfl, rfl, hqc, rfl, hL, rfl, rfl⟩, ?_⟩
    show Steps p.tables e below _ ((({ U with heap := s₂.heap, slotsUsed := s₂.slotsUsed } : State).setVm s₂.vm).setTop { g with pc := g.pc + len₂, stack := v.toList ++ g.stack })
    rw [← hs₂]
    exact hsteps
  · obtain ⟨e2, q2, q3, q4, q5, q6⟩ := id hsm
    have e3 : s₂ = ({ (U.calling g mk a).setFrames s₂.frames with heap := s₂.heap, slotsUsed := s₂.slotsUsed } : State).setVm s₂.vm := by
      have : s₂ = ({ s₂ with vm := (U.calling g mk a).vm } : State).setVm s₂.vm := rfl
      rw [e2] at this
      exact this
    have hf₂ : s₂.frames = .throwing q :: .java g :: U.frames.tail := hend
    have hW' : U.WarmedH s₂.vm := hW₂
    have hs₂ : s₂ = ((({ U with heap := s₂.heap, slotsUsed := s₂.slotsUsed } : State).setVm s₂.vm).setTop g).pushFrame (.throwing q) := by
      refine e3.trans ?_
      rw [hf₂, State.calling_eq h.top, State.setFrames_setFrames, State.pushFrame, State.frames_setTop _ hr', State.setTop_of_frames _ hr', State.setFrames_setFrames, hr]
      rfl
    have hsame : U.sameButNew ({ U with heap := s₂.heap, slotsUsed := s₂.slotsUsed } : State) L mc ms := by
      refine ⟨?_, q2, q3, q4, q5, q6⟩
      obtain ⟨t, ht, -⟩ := State.frames_cons hr
      show ({ U with heap := s₂.heap, slotsUsed := s₂.slotsUsed } : State) = { U.setFrames U.frames with heap := s₂.heap, slotsUsed := s₂.slotsUsed }
      rw [State.setFrames_self ht]
    subst hg
    refine Or.inr ⟨q, ⟨(({ U with heap := s₂.heap, slotsUsed := s₂.slotsUsed } : State).setVm s₂.vm), Ls ++ L, c0 + mc, s0 + ms⟩,
      ⟨X.admits, X.cas, X.clock, X.frames, X.room, X.hears, X.method, X.code, (X.here.setHeapUsed s₂.heap s₂.slotsUsed).setVm hW'.alike, X.tail, State.WarmedH.trans X.warmed hW', X.limits, X.bytes, X.same.trans (hsame.setVm s.vm)⟩,
      ⟨g, mk, s₂, L, E, ce, rfl, rfl, hx, hce, hcv, hcl, rfl, hL, rfl, rfl⟩, ?_⟩
    show Steps p.tables e below _ (((({ U with heap := s₂.heap, slotsUsed := s₂.slotsUsed } : State).setVm s₂.vm).setTop g).pushFrame (.throwing q))
    rw [← hs₂]
    exact hsteps
end
variable {p : Program} {l : Launch} {e : Env} {R : Room} {s : State} {m : MethodId} {args : Array Value} {below : List Frame} {meth : Method} {c : Code} {T : State} {H : Heap} {locs : List Loc} {cells slots : Nat}
theorem vx_callVX (X : Stand p l e R s m args below meth c T locs cells slots) (hexec : p.tables.exec = Jvm.exec) {own C : String} {index : Nat} {y : MethodName} {bytes : ByteArray} {maxL : Nat} {ret : Option FieldType} {hh : List (Nat × Nat × Nat × Nat)}
    (hown : s.vm.findClass own = some m.cls) (hlink : (Cond.methodLink own index y).before args s = true) (hinst : (Cond.instanceMethod y).before args s = true) (hsel : (Cond.selects C y y).before args s = true)
    (hcode : (Cond.codeWith y bytes maxL ret hh).before args s = true) (hy : y.cls ≠ "java/lang/invoke/MethodHandle" ∧ y.cls ≠ "java/lang/invoke/VarHandle")
    {W9 : Nat} {Pre : Pt → Array Value → Prop} {Post : Pt → Array Value → Option Value → Pt → Prop} {PostX : Pt → Array Value → Addr → Pt → Prop} (hK : vx_Back l R p e below s args y 3 W9 Pre Post PostX)
    {b : Addr} {cellB : Cell} (hcell : T.heap[b]? = some cellB) (hobj : cellB.vm.isStatics = false) (hcls : s.vm.findClass C = some cellB.cls)
    {g : JFrame} (hg : g.method = m) (hsize : g.locals.size = c.maxLocals) {argsL rest : List Value} (hlen : ∀ sig, parseMethodDescriptor y.desc = some sig → argsL.length = sig.parameters.length)
    (hstack : g.stack = argsL.reverse ++ .ref b :: rest) (hW : 2 * g.monitorRoom + (rest.map fun v => v.category).sum ≤ W9) (hdg : decode c.code g.pc = .ok (.invokevirtual index, 3))
    (hpre : ∀ vm₁, s.WarmedH vm₁ → Pre ⟨T.setVm vm₁, locs, cells, slots⟩ (Value.ref b :: argsL).toArray) :
    (∃ (v : Option Value) (vm₁ : Vm) (B : Pt), s.WarmedH vm₁ ∧ Stand p l e R s m args below meth c B.U B.locs B.cells B.slots ∧ Post ⟨T.setVm vm₁, locs, cells, slots⟩ (Value.ref b :: argsL).toArray v B ∧
      ∀ target, Steps p.tables e below (B.U.setTop { g with pc := g.pc + 3, stack := v.toList ++ rest }) target → Steps p.tables e below (T.setTop g) target) ∨
    (∃ (q : Addr) (vm₁ : Vm) (B : Pt), s.WarmedH vm₁ ∧ Stand p l e R s m args below meth c B.U B.locs B.cells B.slots ∧ PostX ⟨T.setVm vm₁, locs, cells, slots⟩ (Value.ref b :: argsL).toArray q B ∧
      Steps p.tables e below (T.setTop g) ((B.U.setTop { g with stack := rest }).pushFrame (.throwing q))) := by
  obtain ⟨mk, methM, hnamed, hmethM, hstM, habM⟩ := Cond.instanceMethod_spec hinst
  obtain ⟨m8, methM', cM, hn8, hmethM', -, -, -, -, -, -, hsigM⟩ := Cond.codeWith_spec hcode
  cases Option.some.inj (hn8.symm.trans hnamed)
  cases hmethM.symm.trans hmethM'
  obtain ⟨c2, r2, m2, q1, q2, q3, q4, kP, hkP, hkPi⟩ := Cond.selects_spec hsel
  cases hcls.symm.trans q1
  cases (State.methodFound?_of_named hnamed hy).symm.trans q2
  cases hnamed.symm.trans q3
  have hselP : selectMethod e.platform s.vm cellB.cls mk = .method mk := by rw [Launch.admits_selectMethod X.admits]; exact q4
  obtain ⟨vm₁, X₁, hstep₁⟩ := X.invokevirtual hexec hown hlink hnamed hmethM hstM hkP hkPi hy (a := b) (cell := cellB) hcell
    (fun z h => by rw [h] at hobj; cases hobj) hselP hmethM habM hkP hkPi (g := g) hg (argsL := argsL) (rest := rest) (hlen _ hsigM) hstack hdg
  rcases hK m meth c ⟨T.setVm vm₁, locs, cells, slots⟩ { g with stack := rest } (.invokevirtual index) mk (Value.ref b :: argsL).toArray X₁ hg hsize hdg hW (X₁.named hnamed) (hpre vm₁ X₁.warmed) with ⟨v, B, X', hpost, hsteps⟩ | ⟨q, B, X', hpost, hsteps⟩
  · exact Or.inl ⟨v, vm₁, B, X₁.warmed, X', hpost, fun target h => hstep₁ _ fun acts => by rw [doInvoke_state]; exact hsteps.trans h⟩
  · exact Or.inr ⟨q, vm₁, B, X₁.warmed, X', hpost, hstep₁ _ fun acts => by rw [doInvoke_state]; exact hsteps⟩
theorem vx_callSX (X : Stand p l e R s m args below meth c T locs cells slots) (hexec : p.tables.exec = Jvm.exec) {own : String} {index : Nat} {y : MethodName} {bytes : ByteArray} {maxL : Nat} {ret : Option FieldType} {hh : List (Nat × Nat × Nat × Nat)}
    (hown : s.vm.findClass own = some m.cls) (hlink : (Cond.methodLink own index y).before args s = true) (hstat : (Cond.static y).before args s = true) (hinit : (Cond.initialized y.cls).before args s = true)
    (hcode : (Cond.codeWith y bytes maxL ret hh).before args s = true) (hy : y.cls ≠ "java/lang/invoke/MethodHandle" ∧ y.cls ≠ "java/lang/invoke/VarHandle")
    {W9 : Nat} {Pre : Pt → Array Value → Prop} {Post : Pt → Array Value → Option Value → Pt → Prop} {PostX : Pt → Array Value → Addr → Pt → Prop} (hK : vx_Back l R p e below s args y 3 W9 Pre Post PostX)
    {g : JFrame} (hg : g.method = m) (hsize : g.locals.size = c.maxLocals) {argsL rest : List Value} (hlen : ∀ sig, parseMethodDescriptor y.desc = some sig → argsL.length = sig.parameters.length)
    (hstack : g.stack = argsL.reverse ++ rest) (hW : 2 * g.monitorRoom + (rest.map fun v => v.category).sum ≤ W9) (hdg : decode c.code g.pc = .ok (.invokestatic index, 3))
    (hpre : ∀ vm₁, s.WarmedH vm₁ → Pre ⟨T.setVm vm₁, locs, cells, slots⟩ argsL.toArray) :
    (∃ (v : Option Value) (vm₁ : Vm) (B : Pt), s.WarmedH vm₁ ∧ Stand p l e R s m args below meth c B.U B.locs B.cells B.slots ∧ Post ⟨T.setVm vm₁, locs, cells, slots⟩ argsL.toArray v B ∧
      ∀ target, Steps p.tables e below (B.U.setTop { g with pc := g.pc + 3, stack := v.toList ++ rest }) target → Steps p.tables e below (T.setTop g) target) ∨
    (∃ (q : Addr) (vm₁ : Vm) (B : Pt), s.WarmedH vm₁ ∧ Stand p l e R s m args below meth c B.U B.locs B.cells B.slots ∧ PostX ⟨T.setVm vm₁, locs, cells, slots⟩ argsL.toArray q B ∧
      Steps p.tables e below (T.setTop g) ((B.U.setTop { g with stack := rest }).pushFrame (.throwing q))) := by
  obtain ⟨mk, methM, cM, hnamed, hmethM, -, -, -, -, -, -, hsigM⟩ := Cond.codeWith_spec hcode
  have hstatic : methM.isStatic = true := Cond.static_spec hnamed hmethM hstat
  obtain ⟨kP, hkP, -⟩ := className_of_methodNamed hnamed
  have hinitP : kP.init = .initialized := Cond.initialized_spec (findClass_of_methodNamed hnamed) hkP hinit
  obtain ⟨vm₁, X₁, hstep₁⟩ := X.invokestatic hexec hown hlink hnamed hmethM hstatic hkP hinitP hy (g := g) hg (argsL := argsL) (rest := rest) (hlen _ hsigM) hstack hdg
  rcases hK m meth c ⟨T.setVm vm₁, locs, cells, slots⟩ { g with stack := rest } (.invokestatic index) mk argsL.toArray X₁ hg hsize hdg hW (X₁.named hnamed) (hpre vm₁ X₁.warmed) with ⟨v, B, X', hpost, hsteps⟩ | ⟨q, B, X', hpost, hsteps⟩
  · exact Or.inl ⟨v, vm₁, B, X₁.warmed, X', hpost, fun target h => hstep₁ _ fun acts => by rw [doInvoke_state]; exact hsteps.trans h⟩
  · exact Or.inr ⟨q, vm₁, B, X₁.warmed, X', hpost, hstep₁ _ fun acts => by rw [doInvoke_state]; exact hsteps⟩
theorem vx_callVW (X : Stand p l e R s m args below meth c T locs cells slots) (hexec : p.tables.exec = Jvm.exec) {own C : String} {index : Nat} {y : MethodName} {bytes : ByteArray} {maxL : Nat} {ret : Option FieldType} {hh : List (Nat × Nat × Nat × Nat)}
    (hown : s.vm.findClass own = some m.cls) (hlink : (Cond.methodLink own index y).before args s = true) (hinst : (Cond.instanceMethod y).before args s = true) (hsel : (Cond.selects C y y).before args s = true)
    (hcode : (Cond.codeWith y bytes maxL ret hh).before args s = true) (hy : y.cls ≠ "java/lang/invoke/MethodHandle" ∧ y.cls ≠ "java/lang/invoke/VarHandle")
    {W9 : Nat} {Pre : Pt → Array Value → Prop} {Post : Pt → Array Value → Option Value → Pt → Prop} (hK : Back l R p e below s args y 3 W9 Pre Post)
    {b : Addr} {cellB : Cell} (hcell : T.heap[b]? = some cellB) (hobj : cellB.vm.isStatics = false) (hcls : s.vm.findClass C = some cellB.cls)
    {g : JFrame} (hg : g.method = m) (hsize : g.locals.size = c.maxLocals) {argsL rest : List Value} (hlen : ∀ sig, parseMethodDescriptor y.desc = some sig → argsL.length = sig.parameters.length)
    (hstack : g.stack = argsL.reverse ++ .ref b :: rest) (hW : 2 * g.monitorRoom + (rest.map fun v => v.category).sum ≤ W9) (hdg : decode c.code g.pc = .ok (.invokevirtual index, 3))
    (hpre : ∀ vm₁, s.WarmedH vm₁ → Pre ⟨T.setVm vm₁, locs, cells, slots⟩ (Value.ref b :: argsL).toArray) :
    ∃ (v : Option Value) (vm₁ : Vm) (B : Pt), s.WarmedH vm₁ ∧ Stand p l e R s m args below meth c B.U B.locs B.cells B.slots ∧ Post ⟨T.setVm vm₁, locs, cells, slots⟩ (Value.ref b :: argsL).toArray v B ∧
      ∀ target, Steps p.tables e below (B.U.setTop { g with pc := g.pc + 3, stack := v.toList ++ rest }) target → Steps p.tables e below (T.setTop g) target := by
  obtain ⟨mk, methM, hnamed, hmethM, hstM, habM⟩ := Cond.instanceMethod_spec hinst
  obtain ⟨m8, methM', cM, hn8, hmethM', -, -, -, -, -, -, hsigM⟩ := Cond.codeWith_spec hcode
  cases Option.some.inj (hn8.symm.trans hnamed)
  cases hmethM.symm.trans hmethM'
  obtain ⟨c2, r2, m2, q1, q2, q3, q4, kP, hkP, hkPi⟩ := Cond.selects_spec hsel
  cases hcls.symm.trans q1
  cases (State.methodFound?_of_named hnamed hy).symm.trans q2
  cases hnamed.symm.trans q3
  have hselP : selectMethod e.platform s.vm cellB.cls mk = .method mk := by rw [Launch.admits_selectMethod X.admits]; exact q4
  obtain ⟨vm₁, X₁, hstep₁⟩ := X.invokevirtual hexec hown hlink hnamed hmethM hstM hkP hkPi hy (a := b) (cell := cellB) hcell
    (fun z h => by rw [h] at hobj; cases hobj) hselP hmethM habM hkP hkPi (g := g) hg (argsL := argsL) (rest := rest) (hlen _ hsigM) hstack hdg
  obtain ⟨v, B, X', hpost, hsteps⟩ := hK m meth c ⟨T.setVm vm₁, locs, cells, slots⟩ { g with stack := rest } (.invokevirtual index) mk (Value.ref b :: argsL).toArray X₁ hg hsize hdg hW (X₁.named hnamed) (hpre vm₁ X₁.warmed)
  exact ⟨v, vm₁, B, X₁.warmed, X', hpost, fun target h => hstep₁ _ fun acts => by rw [doInvoke_state]; exact hsteps.trans h⟩
abbrev vx_CVW (R : Room) (s : State) (args : Array Value) (own C : String) (index : Nat) (y : MethodName) (bytes : ByteArray) (maxL : Nat) (ret : Option FieldType) (hh : List (Nat × Nat × Nat × Nat)) (ws : List Cond) (rm : Room) (mc ms n : Nat) : Prop :=
  (rm.cells = mc ∧ rm.slots = ms ∧ rm.frames + 1 ≤ R.frames ∧ 8 + (maxL + 11) + rm.locals ≤ R.locals ∧ (∀ w ∈ ws, ∀ (a' : Array Value) (U : State), s.WarmedH U.vm → w.before a' U = true) ∧ Cond.codeWith y bytes maxL ret hh ∈ ws) ∧
  (Cond.codeWith y bytes maxL ret hh).before args s = true ∧ (Cond.initialized y.cls).before args s = true ∧ (y.cls ≠ "java/lang/invoke/MethodHandle" ∧ y.cls ≠ "java/lang/invoke/VarHandle") ∧
  (∀ sig, parseMethodDescriptor y.desc = some sig → n = sig.parameters.length) ∧ (Cond.methodLink own index y).before args s = true ∧ (Cond.instanceMethod y).before args s = true ∧ (Cond.selects C y y).before args s = true
theorem vx_cwVW {own C : String} {index maxL mc ms : Nat} {y : MethodName} {bytes : ByteArray} {ret : Option FieldType} {hh : List (Nat × Nat × Nat × Nat)} {Ts ws ws' : List Cond} {rm : Room} (n : Nat) (ht : ∀ w ∈ Ts, w.before args s = true) (hT : GoodIn Ts (wsV own index C y ws)) (hw : ws = Cond.codeWith y bytes maxL ret hh :: ws') (hrc : rm.cells = mc) (hrs : rm.slots = ms)
    (hd : y.cls = C ∧ y.cls ≠ "java/lang/invoke/MethodHandle" ∧ y.cls ≠ "java/lang/invoke/VarHandle" ∧ (parseMethodDescriptor y.desc).map (fun d => d.parameters.length) = some n) (hR : rm.frames + 1 ≤ R.frames ∧ 8 + (maxL + 11) + rm.locals ≤ R.locals) :
    vx_CVW R s args own C index y bytes maxL ret hh ws rm mc ms n := by
  obtain ⟨hC, hd⟩ := hd
  subst hC
  have ok : ∀ w ∈ wsV own index y.cls y ws, w.before args s = true := fun w h => ht w (hT w h).1
  have hG : GoodIn Ts ws := fun w h => hT w (by unfold wsV; exact List.mem_append_right _ h)
  have hc : Cond.codeWith y bytes maxL ret hh ∈ ws := by rw [hw]; exact List.mem_cons_self
  refine ⟨⟨hrc, hrs, hR.1, hR.2, pay_in ht hG, hc⟩, ht _ (hG _ hc).1, ok _ (by simp [wsV]), ⟨hd.1, hd.2.1⟩, fun sig h => ?_, ok _ (by simp [wsV]), ok _ (by simp [wsV]), ok _ (by simp [wsV])⟩
  have h2 := hd.2.2
  rw [h] at h2
  exact (Option.some.inj h2).symm
theorem vx_runVW {y : MethodName} {bytes cc : ByteArray} {maxL nL mc ms n index : Nat} {ret : Option FieldType} {hh : List (Nat × Nat × Nat × Nat)} {ws : List Cond} {rm : Room} {Pc : Array Value → State → Prop} {Qc : Array Value → State → Outcome → State → Prop} {free : Addr → Prop} {Ts : List Cond} {own C : String} {b : Addr} {As rest : List Value} {g : JFrame}
    (S : CallFix p m c cc nL s args Ts own) (hM : Met l y ws rm Pc Qc mc ms free) (cw : vx_CVW R s args own C index y bytes maxL ret hh ws rm mc ms n) (hp : PreV s H C b Pc As)
    (hg : g.method = m) (hn : As.length = n) (hsize : g.locals.size = nL) (hstack : g.stack = As.reverse ++ .ref b :: rest) (hW : 2 * g.monitorRoom + (rest.map fun v => v.category).sum ≤ 8) (hdg : decode cc g.pc = .ok (.invokevirtual index, 3)) (hf : cells + mc ≤ R.cells ∧ slots + ms ≤ R.slots) :
    va_Run p l e R s m args below meth c H locs cells slots mc ms g rest (Qc (Value.ref b :: As).toArray) free := by
  obtain ⟨⟨hrc, hrs, hfr, hlo, hws, hcw⟩, hcode, hini, hy, hlen, hl, hin, hse⟩ := cw
  have hK : Back l R p e below s args y 3 8 (PreOf R mc ms Pc) (PostOf Qc mc ms free) := va_backW (hh := hh) (bytes := bytes) (maxL := maxL) (ret := ret) hM hp.1 hrc hrs hfr hlo hws hcw (fun a' U hW => word_at hW (Or.inl (by first | rfl | simp [Cond.onTables, Cond.keeps, Cond.steady])) hini)
  obtain ⟨hx, hb, hml, ho, -⟩ := S
  obtain ⟨-, ⟨cellB, hcB, hoB, hclB⟩, hPc⟩ := hp
  intro T hT X
  obtain ⟨v, vm₁, ⟨U', l2, c2, s2⟩, hW₁, X', ⟨g', mk, t, L, e1, e2, hq, h1, hL, h2, h3⟩, st⟩ := vx_callVW X hx (C := C) (hh := hh) (bytes := bytes) (maxL := maxL) (ret := ret) ho hl hin hse hcode hy hK (by rw [hT]; exact hcB) hoB hclB hg (hsize.trans hml.symm) (argsL := As) (rest := rest) (fun sig h => hn.trans (hlen sig h)) hstack hW (by rw [hb]; exact hdg)
    (fun vm₁ hW₁ => ⟨hf.1, hf.2, hPc (T.setVm vm₁) hT hW₁⟩)
  dsimp only [Pt.U, Pt.locs, Pt.cells, Pt.slots] at X' e1 e2 h1 h2 h3 st
  subst h1; subst h2; subst h3
  exact ⟨v, (T.setVm vm₁).calling g' mk (Value.ref b :: As).toArray, t, U', L, hT, X', hL, e1, e2, hq, st⟩
section
variable {y : MethodName} {bytes cc : ByteArray} {maxL nL mc ms n index : Nat} {ret : Option FieldType} {ws : List Cond} {rm : Room} {Pc : Array Value → State → Prop} {Qc : Array Value → State → Outcome → State → Prop} {XC : String → State → State → Prop} {free : Addr → Prop} {Ts : List Cond} {own C : String} {b : Addr} {As rest : List Value} {g : JFrame}
theorem vx_runVX {hh : List (Nat × Nat × Nat × Nat)} (S : CallFix p m c cc nL s args Ts own) (hM : vx_Met l y ws rm Pc Qc XC mc ms free) (cw : vx_CVW R s args own C index y bytes maxL ret hh ws rm mc ms n) (hp : PreV s H C b Pc As)
    (hg : g.method = m) (hn : As.length = n) (hsize : g.locals.size = nL) (hstack : g.stack = As.reverse ++ .ref b :: rest) (hW : 2 * g.monitorRoom + (rest.map fun v => v.category).sum ≤ 8) (hdg : decode cc g.pc = .ok (.invokevirtual index, 3)) (hf : cells + mc ≤ R.cells ∧ slots + ms ≤ R.slots) :
    vx_Run p l e R s m args below meth c H locs cells slots mc ms g rest (Qc (Value.ref b :: As).toArray) XC free := by
  obtain ⟨⟨hrc, hrs, hfr, hlo, hws, hcw⟩, hcode, hini, hy, hlen, hl, hin, hse⟩ := cw
  have hK : vx_Back l R p e below s args y 3 8 (PreOf R mc ms Pc) (PostOf Qc mc ms free) (vx_Post XC mc ms free) := vx_backW (hh := hh) (bytes := bytes) (maxL := maxL) (ret := ret) hM hp.1 hrc hrs hfr hlo hws hcw (fun a' U hW => word_at hW (Or.inl (by first | rfl | simp [Cond.onTables, Cond.keeps, Cond.steady])) hini)
  obtain ⟨hx, hb, hml, ho, -⟩ := S
  obtain ⟨-, ⟨cellB, hcB, hoB, hclB⟩, hPc⟩ := hp
  intro T hT X
  rcases vx_callVX X hx (C := C) (hh := hh) (bytes := bytes) (maxL := maxL) (ret := ret) ho hl hin hse hcode hy hK (by rw [hT]; exact hcB) hoB hclB hg (hsize.trans hml.symm) (argsL := As) (rest := rest) (fun sig h => hn.trans (hlen sig h)) hstack hW (by rw [hb]; exact hdg)
    (fun vm₁ hW₁ => ⟨hf.1, hf.2, hPc (T.setVm vm₁) hT hW₁⟩) with ⟨v, vm₁, ⟨U', l2, c2, s2⟩, hW₁, X', ⟨g', mk, t, L, e1, e2, hq, h1, hL, h2, h3⟩, st⟩ | ⟨q, vm₁, ⟨U', l2, c2, s2⟩, hW₁, X', ⟨g', mk, t, L, E, ce, e1, e2, hq, hce, hcv, hcl, h1, hL, h2, h3⟩, st⟩
  · dsimp only [Pt.U, Pt.locs, Pt.cells, Pt.slots] at X' e1 e2 h1 h2 h3 st
    subst h1; subst h2; subst h3
    exact Or.inl ⟨v, (T.setVm vm₁).calling g' mk (Value.ref b :: As).toArray, t, U', L, hT, X', hL, e1, e2, hq, st⟩
  · dsimp only [Pt.U, Pt.locs, Pt.cells, Pt.slots] at X' e1 e2 h1 h2 h3 st hcl
    subst h1; subst h2; subst h3
    exact Or.inr ⟨q, (T.setVm vm₁).calling g' mk (Value.ref b :: As).toArray, t, U', L, E, ce, hT, X', hL, e1, e2, hq, hce, hcv, vx_cls hW₁ hcl, st⟩
theorem vx_runSX {hh : List (Nat × Nat × Nat × Nat)} (S : CallFix p m c cc nL s args Ts own) (hM : vx_Met l y ws rm Pc Qc XC mc ms free) (cw : vx_CSW R s args own index y bytes maxL ret hh ws rm mc ms n) (hp : PreS s H Pc As)
    (hg : g.method = m) (hn : As.length = n) (hsize : g.locals.size = nL) (hstack : g.stack = As.reverse ++ rest) (hW : 2 * g.monitorRoom + (rest.map fun v => v.category).sum ≤ 8) (hdg : decode cc g.pc = .ok (.invokestatic index, 3)) (hf : cells + mc ≤ R.cells ∧ slots + ms ≤ R.slots) :
    vx_Run p l e R s m args below meth c H locs cells slots mc ms g rest (Qc As.toArray) XC free := by
  obtain ⟨⟨hrc, hrs, hfr, hlo, hws, hcw⟩, hcode, hini, hy, hlen, hl, hstt⟩ := cw
  have hK : vx_Back l R p e below s args y 3 8 (PreOf R mc ms Pc) (PostOf Qc mc ms free) (vx_Post XC mc ms free) := vx_backW (hh := hh) (bytes := bytes) (maxL := maxL) (ret := ret) hM hp.1 hrc hrs hfr hlo hws hcw (fun a' U hW => word_at hW (Or.inl (by first | rfl | simp [Cond.onTables, Cond.keeps, Cond.steady])) hini)
  obtain ⟨hx, hb, hml, ho, -⟩ := S
  intro T hT X
  rcases vx_callSX X hx (hh := hh) (bytes := bytes) (maxL := maxL) (ret := ret) ho hl hstt hini hcode hy hK hg (hsize.trans hml.symm) (argsL := As) (rest := rest) (fun sig h => hn.trans (hlen sig h)) hstack hW (by rw [hb]; exact hdg)
    (fun vm₁ hW₁ => ⟨hf.1, hf.2, hp.2 (T.setVm vm₁) hT hW₁⟩) with ⟨v, vm₁, ⟨U', l2, c2, s2⟩, hW₁, X', ⟨g', mk, t, L, e1, e2, hq, h1, hL, h2, h3⟩, st⟩ | ⟨q, vm₁, ⟨U', l2, c2, s2⟩, hW₁, X', ⟨g', mk, t, L, E, ce, e1, e2, hq, hce, hcv, hcl, h1, hL, h2, h3⟩, st⟩
  · dsimp only [Pt.U, Pt.locs, Pt.cells, Pt.slots] at X' e1 e2 h1 h2 h3 st
    subst h1; subst h2; subst h3
    exact Or.inl ⟨v, (T.setVm vm₁).calling g' mk As.toArray, t, U', L, hT, X', hL, e1, e2, hq, st⟩
  · dsimp only [Pt.U, Pt.locs, Pt.cells, Pt.slots] at X' e1 e2 h1 h2 h3 st hcl
    subst h1; subst h2; subst h3
    exact Or.inr ⟨q, (T.setVm vm₁).calling g' mk As.toArray, t, U', L, E, ce, hT, X', hL, e1, e2, hq, hce, hcv, vx_cls hW₁ hcl, st⟩
end
end VXH
theorem vx_ofWH {l : Launch} {y : MethodName} {ws ws' : List Cond} {rm : Room} {Pc : Array Value → State → Prop} {Qc : Array Value → State → Outcome → State → Prop} {XC : String → State → State → Prop} {mc ms : Nat} {free : Addr → Prop} {cc : ByteArray} {maxL : Nat} {ret : Option FieldType} {hh : List (Nat × Nat × Nat × Nat)}
    (hy : plainName y.cls = true) (hw : ws = Cond.codeWith y cc maxL ret hh :: ws')
    (body : ∀ p e s m args below meth c s₁, BodyLoose p l y (headSpec ws rm) cc maxL ret e s m args below meth c s₁ → c.maxLocals = maxL → Pc args s →
      W p l e (headSpec ws rm).room s m args below meth c s.heap [] 0 0 (vx_MQ below Qc XC args s mc ms free) (entryFrame m args maxL)) : vx_Met l y ws rm Pc Qc XC mc ms free := by
  refine MetFree.of_bodyS (code := cc) (maxLocals := maxL) (ret := ret) hy ?_ ?_
  · intro args s m h hn
    obtain ⟨m9, meth, c, hn9, h1, h2, h3, h4, -, h5, h6, -⟩ := Cond.codeWith_spec (atoms_spec (ws := ws) h _ (by rw [hw]; exact List.mem_cons_self))
    cases hn.symm.trans hn9
    exact ⟨meth, c, h1, h2, h3, h4, h5, h6⟩
  · intro p e s m args below meth c s₁ B hml hP _
    have hh0 : s₁.heap = s.heap := by rw [B.state]; rfl
    obtain ⟨t, a1, o, b1, b2, b3⟩ := body p e s m args below meth c s₁ B hml hP s₁ hh0 (Stand.of_body B)
    exact ⟨t, o, a1, b1, b2, b3⟩
/-! ===== END ===== -/

/-! ===== BEGIN printed: names, fields, word lists, decode rows ===== -/
def RX0 : String := "ConcertUsher$EventText"
def TX0 : u_T := fun k => match k with
  | 0 => ("ConcertUsher$EventText", "signs", "[C", true)
  | _ => ("ConcertUsher$EventText", "length", "I", false)
def tyX0 : Nat → FieldType := fun k => match k with
  | 0 => .array .char
  | _ => .int
abbrev wsX00 : List Cond := u_ws RX0 TX0 2
theorem nmX0 : ∀ a, a < 2 → ∀ b, b < 2 → a ≠ b → (TX0 a).2.1 ≠ (TX0 b).2.1 := by decide +kernel
theorem tyX0_ok : ∀ k, k < 2 → parseFieldDescriptor (TX0 k).2.2.1 = some (tyX0 k) := by decide +kernel
abbrev cX0_init : ByteArray := prog_2_method_1_code
def yX0_init : MethodName := ⟨RX0, "<init>", "()V"⟩
abbrev cX0_add : ByteArray := prog_2_method_2_code
def yX0_add : MethodName := ⟨RX0, "add", "(C)V"⟩
abbrev cX0_signAt : ByteArray := prog_2_method_3_code
def yX0_signAt : MethodName := ⟨RX0, "signAt", "(I)C"⟩
abbrev cX0_digitAt : ByteArray := prog_2_method_4_code
def yX0_digitAt : MethodName := ⟨RX0, "digitAt", "(I)I"⟩
abbrev cX0_numberAt : ByteArray := prog_2_method_5_code
def yX0_numberAt : MethodName := ⟨RX0, "numberAt", "(I)I"⟩
abbrev cX0_startsEvent : ByteArray := prog_2_method_6_code
def yX0_startsEvent : MethodName := ⟨RX0, "startsEvent", "(I)Z"⟩
abbrev cX0_firstWrongSign : ByteArray := prog_2_method_7_code
def yX0_firstWrongSign : MethodName := ⟨RX0, "firstWrongSign", "()I"⟩
abbrev cX0_isComplete : ByteArray := prog_2_method_8_code
def yX0_isComplete : MethodName := ⟨RX0, "isComplete", "()Z"⟩
abbrev cX0_stateAfter : ByteArray := prog_2_method_9_code
def yX0_stateAfter : MethodName := ⟨RX0, "stateAfter", "(IC)I"⟩
abbrev cX0_stateAfterLetter : ByteArray := prog_2_method_10_code
def yX0_stateAfterLetter : MethodName := ⟨RX0, "stateAfterLetter", "(C)I"⟩
abbrev cX0_stateAfterFirstDigit : ByteArray := prog_2_method_11_code
def yX0_stateAfterFirstDigit : MethodName := ⟨RX0, "stateAfterFirstDigit", "(C)I"⟩
abbrev cX0_stateAfterEvent : ByteArray := prog_2_method_12_code
def yX0_stateAfterEvent : MethodName := ⟨RX0, "stateAfterEvent", "(C)I"⟩
abbrev cX0_isBetween : ByteArray := prog_2_method_13_code
def yX0_isBetween : MethodName := ⟨RX0, "isBetween", "(CCC)Z"⟩
def RX1 : String := "ConcertUsher$Hall"
def TX1 : u_T := fun k => match k with
  | 0 => ("ConcertUsher$Hall", "listeners", "[I", true)
  | 1 => ("ConcertUsher$Hall", "rests", "[I", true)
  | 2 => ("ConcertUsher$Hall", "counts", "[I", true)
  | 3 => ("ConcertUsher$Hall", "openRows", "I", false)
  | 4 => ("ConcertUsher$Hall", "isQuick", "Z", false)
  | 5 => ("ConcertUsher$Hall", "isFirstPresent", "Z", false)
  | 6 => ("ConcertUsher$Hall", "isSecondPresent", "Z", false)
  | 7 => ("ConcertUsher$Hall", "fading", "I", false)
  | 8 => ("ConcertUsher$Hall", "patience", "I", false)
  | 9 => ("ConcertUsher$Hall", "asking", "I", false)
  | 10 => ("ConcertUsher$Hall", "minutes", "I", false)
  | _ => ("ConcertUsher$Hall", "sinceQuestion", "I", false)
def tyX1 : Nat → FieldType := fun k => match k with
  | 0 => .array .int
  | 1 => .array .int
  | 2 => .array .int
  | 3 => .int
  | 4 => .boolean
  | 5 => .boolean
  | 6 => .boolean
  | 7 => .int
  | 8 => .int
  | 9 => .int
  | 10 => .int
  | _ => .int
abbrev wsX10 : List Cond := u_ws RX1 TX1 12
theorem nmX1 : ∀ a, a < 12 → ∀ b, b < 12 → a ≠ b → (TX1 a).2.1 ≠ (TX1 b).2.1 := by decide +kernel
theorem tyX1_ok : ∀ k, k < 12 → parseFieldDescriptor (TX1 k).2.2.1 = some (tyX1 k) := by decide +kernel
abbrev cX1_init : ByteArray := prog_3_method_1_code
def yX1_init : MethodName := ⟨RX1, "<init>", "()V"⟩
abbrev cX1_copyFrom : ByteArray := prog_3_method_2_code
def yX1_copyFrom : MethodName := ⟨RX1, "copyFrom", "(LConcertUsher$Hall;)V"⟩
abbrev cX1_hasRoom : ByteArray := prog_3_method_3_code
def yX1_hasRoom : MethodName := ⟨RX1, "hasRoom", "(I)Z"⟩
abbrev cX1_isWantedAt : ByteArray := prog_3_method_4_code
def yX1_isWantedAt : MethodName := ⟨RX1, "isWantedAt", "(I)Z"⟩
abbrev cX1_seat : ByteArray := prog_3_method_5_code
def yX1_seat : MethodName := ⟨RX1, "seat", "(I)V"⟩
abbrev cX1_unseat : ByteArray := prog_3_method_6_code
def yX1_unseat : MethodName := ⟨RX1, "unseat", "(IZ)V"⟩
abbrev cX1_hearCall : ByteArray := prog_3_method_7_code
def yX1_hearCall : MethodName := ⟨RX1, "hearCall", "(I)V"⟩
abbrev cX1_hearFarewell : ByteArray := prog_3_method_8_code
def yX1_hearFarewell : MethodName := ⟨RX1, "hearFarewell", "(I)V"⟩
abbrev cX1_askRow : ByteArray := prog_3_method_9_code
def yX1_askRow : MethodName := ⟨RX1, "askRow", "(I)V"⟩
abbrev cX1_askAllRows : ByteArray := prog_3_method_10_code
def yX1_askAllRows : MethodName := ⟨RX1, "askAllRows", "()V"⟩
abbrev cX1_isRowOpen : ByteArray := prog_3_method_11_code
def yX1_isRowOpen : MethodName := ⟨RX1, "isRowOpen", "(I)Z"⟩
abbrev cX1_turnRow : ByteArray := prog_3_method_12_code
def yX1_turnRow : MethodName := ⟨RX1, "turnRow", "(I)V"⟩
abbrev cX1_chiefAsker : ByteArray := prog_3_method_13_code
def yX1_chiefAsker : MethodName := ⟨RX1, "chiefAsker", "()I"⟩
abbrev cX1_entriesInAll : ByteArray := prog_3_method_14_code
def yX1_entriesInAll : MethodName := ⟨RX1, "entriesInAll", "()I"⟩
abbrev cX1_rowsThatGet : ByteArray := prog_3_method_15_code
def yX1_rowsThatGet : MethodName := ⟨RX1, "rowsThatGet", "(I)I"⟩
abbrev cX1_rowsThatWant : ByteArray := prog_3_method_16_code
def yX1_rowsThatWant : MethodName := ⟨RX1, "rowsThatWant", "(I)I"⟩
abbrev cX1_letPass : ByteArray := prog_3_method_17_code
def yX1_letPass : MethodName := ⟨RX1, "letPass", "(I)I"⟩
abbrev cX1_fadeEntries : ByteArray := prog_3_method_18_code
def yX1_fadeEntries : MethodName := ⟨RX1, "fadeEntries", "()V"⟩
abbrev cX1_timeBetweenQuestions : ByteArray := prog_3_method_19_code
def yX1_timeBetweenQuestions : MethodName := ⟨RX1, "timeBetweenQuestions", "()I"⟩
abbrev cX1_perform : ByteArray := prog_3_method_20_code
def yX1_perform : MethodName := ⟨RX1, "perform", "(I)I"⟩
abbrev cX1_asksIn : ByteArray := prog_3_method_21_code
def yX1_asksIn : MethodName := ⟨RX1, "asksIn", "()I"⟩
abbrev cX1_fadesIn : ByteArray := prog_3_method_22_code
def yX1_fadesIn : MethodName := ⟨RX1, "fadesIn", "(I)I"⟩
abbrev cX1_disturbedIn : ByteArray := prog_3_method_23_code
def yX1_disturbedIn : MethodName := ⟨RX1, "disturbedIn", "(II)I"⟩
def RX2 : String := "ConcertUsher$History"
def TX2 : u_T := fun k => match k with
  | 0 => ("ConcertUsher$History", "halls", "[LConcertUsher$Hall;", true)
  | 1 => ("ConcertUsher$History", "oldest", "I", false)
  | _ => ("ConcertUsher$History", "size", "I", false)
def tyX2 : Nat → FieldType := fun k => match k with
  | 0 => .array (.object "ConcertUsher$Hall")
  | 1 => .int
  | _ => .int
abbrev wsX20 : List Cond := u_ws RX2 TX2 3
theorem nmX2 : ∀ a, a < 3 → ∀ b, b < 3 → a ≠ b → (TX2 a).2.1 ≠ (TX2 b).2.1 := by decide +kernel
theorem tyX2_ok : ∀ k, k < 3 → parseFieldDescriptor (TX2 k).2.2.1 = some (tyX2 k) := by decide +kernel
abbrev cX2_init : ByteArray := prog_4_method_1_code
def yX2_init : MethodName := ⟨RX2, "<init>", "()V"⟩
abbrev cX2_keep : ByteArray := prog_4_method_2_code
def yX2_keep : MethodName := ⟨RX2, "keep", "(LConcertUsher$Hall;)V"⟩
abbrev cX2_takeBack : ByteArray := prog_4_method_3_code
def yX2_takeBack : MethodName := ⟨RX2, "takeBack", "(LConcertUsher$Hall;)V"⟩
def RX3 : String := "ConcertUsher"
def TX3 : u_T := fun k => match k with
  | 0 => ("ConcertUsher", "hall", "LConcertUsher$Hall;", true)
  | 1 => ("ConcertUsher", "history", "LConcertUsher$History;", true)
  | _ => ("ConcertUsher", "text", "LConcertUsher$EventText;", true)
def tyX3 : Nat → FieldType := fun k => match k with
  | 0 => .object "ConcertUsher$Hall"
  | 1 => .object "ConcertUsher$History"
  | _ => .object "ConcertUsher$EventText"
abbrev wsX30 : List Cond := u_ws RX3 TX3 3
theorem nmX3 : ∀ a, a < 3 → ∀ b, b < 3 → a ≠ b → (TX3 a).2.1 ≠ (TX3 b).2.1 := by decide +kernel
theorem tyX3_ok : ∀ k, k < 3 → parseFieldDescriptor (TX3 k).2.2.1 = some (tyX3 k) := by decide +kernel
abbrev cX3_init : ByteArray := prog_1_method_1_code
def yX3_init : MethodName := ⟨RX3, "<init>", "()V"⟩
abbrev cX3_come : ByteArray := prog_1_method_2_code
def yX3_come : MethodName := ⟨RX3, "come", "(II)I"⟩
abbrev cX3_leave : ByteArray := prog_1_method_3_code
def yX3_leave : MethodName := ⟨RX3, "leave", "(IIZ)I"⟩
abbrev cX3_listeners : ByteArray := prog_1_method_4_code
def yX3_listeners : MethodName := ⟨RX3, "listeners", "(II)I"⟩
abbrev cX3_setOpen : ByteArray := prog_1_method_5_code
def yX3_setOpen : MethodName := ⟨RX3, "setOpen", "(IZ)Z"⟩
abbrev cX3_setQuick : ByteArray := prog_1_method_6_code
def yX3_setQuick : MethodName := ⟨RX3, "setQuick", "(Z)Z"⟩
abbrev cX3_setTimes : ByteArray := prog_1_method_7_code
def yX3_setTimes : MethodName := ⟨RX3, "setTimes", "(III)I"⟩
abbrev cX3_setPresent : ByteArray := prog_1_method_8_code
def yX3_setPresent : MethodName := ⟨RX3, "setPresent", "(IZ)I"⟩
abbrev cX3_chief : ByteArray := prog_1_method_9_code
def yX3_chief : MethodName := ⟨RX3, "chief", "()I"⟩
abbrev cX3_rest : ByteArray := prog_1_method_10_code
def yX3_rest : MethodName := ⟨RX3, "rest", "(II)I"⟩
abbrev cX3_entries : ByteArray := prog_1_method_11_code
def yX3_entries : MethodName := ⟨RX3, "entries", "()I"⟩
abbrev cX3_isOpen : ByteArray := prog_1_method_12_code
def yX3_isOpen : MethodName := ⟨RX3, "isOpen", "(I)Z"⟩
abbrev cX3_rows : ByteArray := prog_1_method_13_code
def yX3_rows : MethodName := ⟨RX3, "rows", "(I)I"⟩
abbrev cX3_wanted : ByteArray := prog_1_method_14_code
def yX3_wanted : MethodName := ⟨RX3, "wanted", "(I)I"⟩
abbrev cX3_pass : ByteArray := prog_1_method_15_code
def yX3_pass : MethodName := ⟨RX3, "pass", "(I)I"⟩
abbrev cX3_play : ByteArray := prog_1_method_16_code
def yX3_play : MethodName := ⟨RX3, "play", "(I)I"⟩
abbrev cX3_minutes : ByteArray := prog_1_method_17_code
def yX3_minutes : MethodName := ⟨RX3, "minutes", "()I"⟩
abbrev cX3_sinceQuestion : ByteArray := prog_1_method_18_code
def yX3_sinceQuestion : MethodName := ⟨RX3, "sinceQuestion", "()I"⟩
abbrev cX3_count : ByteArray := prog_1_method_19_code
def yX3_count : MethodName := ⟨RX3, "count", "(I)I"⟩
abbrev cX3_usefulShare : ByteArray := prog_1_method_20_code
def yX3_usefulShare : MethodName := ⟨RX3, "usefulShare", "()D"⟩
abbrev cX3_minutesToFade : ByteArray := prog_1_method_21_code
def yX3_minutesToFade : MethodName := ⟨RX3, "minutesToFade", "(II)I"⟩
abbrev cX3_minutesToQuestion : ByteArray := prog_1_method_22_code
def yX3_minutesToQuestion : MethodName := ⟨RX3, "minutesToQuestion", "()I"⟩
abbrev cX3_disturbedAfter : ByteArray := prog_1_method_23_code
def yX3_disturbedAfter : MethodName := ⟨RX3, "disturbedAfter", "(II)I"⟩
abbrev cX3_append : ByteArray := prog_1_method_24_code
def yX3_append : MethodName := ⟨RX3, "append", "(I)I"⟩
abbrev cX3_clearText : ByteArray := prog_1_method_25_code
def yX3_clearText : MethodName := ⟨RX3, "clearText", "()I"⟩
abbrev cX3_firstError : ByteArray := prog_1_method_26_code
def yX3_firstError : MethodName := ⟨RX3, "firstError", "()I"⟩
abbrev cX3_run : ByteArray := prog_1_method_27_code
def yX3_run : MethodName := ⟨RX3, "run", "()I"⟩
abbrev cX3_undo : ByteArray := prog_1_method_28_code
def yX3_undo : MethodName := ⟨RX3, "undo", "()I"⟩
abbrev cX3_savedStates : ByteArray := prog_1_method_29_code
def yX3_savedStates : MethodName := ⟨RX3, "savedStates", "()I"⟩
abbrev cX3_digest : ByteArray := prog_1_method_30_code
def yX3_digest : MethodName := ⟨RX3, "digest", "()J"⟩
abbrev cX3_mixRow : ByteArray := prog_1_method_31_code
def yX3_mixRow : MethodName := ⟨RX3, "mixRow", "(JI)J"⟩
abbrev cX3_mix : ByteArray := prog_1_method_32_code
def yX3_mix : MethodName := ⟨RX3, "mix", "(JI)J"⟩
abbrev cX3_checkRow : ByteArray := prog_1_method_33_code
def yX3_checkRow : MethodName := ⟨RX3, "checkRow", "(I)V"⟩
abbrev cX3_checkConcert : ByteArray := prog_1_method_34_code
def yX3_checkConcert : MethodName := ⟨RX3, "checkConcert", "(I)V"⟩
abbrev cX3_checkMinutes : ByteArray := prog_1_method_35_code
def yX3_checkMinutes : MethodName := ⟨RX3, "checkMinutes", "(I)V"⟩
abbrev cX3_placeOf : ByteArray := prog_1_method_36_code
def yX3_placeOf : MethodName := ⟨RX3, "placeOf", "(II)I"⟩
abbrev cX3_doEvents : ByteArray := prog_1_method_37_code
def yX3_doEvents : MethodName := ⟨RX3, "doEvents", "()I"⟩
abbrev cX3_doEvent : ByteArray := prog_1_method_38_code
def yX3_doEvent : MethodName := ⟨RX3, "doEvent", "(I)Z"⟩
abbrev cX3_seatIfRoom : ByteArray := prog_1_method_39_code
def yX3_seatIfRoom : MethodName := ⟨RX3, "seatIfRoom", "(I)Z"⟩
abbrev cX3_unseatIfWanted : ByteArray := prog_1_method_40_code
def yX3_unseatIfWanted : MethodName := ⟨RX3, "unseatIfWanted", "(IZ)Z"⟩
def RX4 : String := "ConcertUsherModel"
def TX4 : u_T := fun k => match k with
  | 0 => ("ConcertUsherModel", "thrown", "I", false)
  | 1 => ("ConcertUsherModel", "s", "[I", true)
  | 2 => ("ConcertUsherModel", "aside", "[I", true)
  | 3 => ("ConcertUsherModel", "saved", "[I", true)
  | 4 => ("ConcertUsherModel", "savedMany", "I", false)
  | 5 => ("ConcertUsherModel", "buffer", "[I", true)
  | 6 => ("ConcertUsherModel", "length", "I", false)
  | 7 => ("ConcertUsherModel", "at", "I", false)
  | 8 => ("ConcertUsherModel", "isWell", "Z", false)
  | 9 => ("ConcertUsherModel", "read", "[I", true)
  | 10 => ("ConcertUsherModel", "readMany", "I", false)
  | _ => ("ConcertUsherModel", "hash", "J", false)
def tyX4 : Nat → FieldType := fun k => match k with
  | 0 => .int
  | 1 => .array .int
  | 2 => .array .int
  | 3 => .array .int
  | 4 => .int
  | 5 => .array .int
  | 6 => .int
  | 7 => .int
  | 8 => .boolean
  | 9 => .array .int
  | 10 => .int
  | _ => .long
abbrev wsX40 : List Cond := u_ws RX4 TX4 12
theorem nmX4 : ∀ a, a < 12 → ∀ b, b < 12 → a ≠ b → (TX4 a).2.1 ≠ (TX4 b).2.1 := by decide +kernel
theorem tyX4_ok : ∀ k, k < 12 → parseFieldDescriptor (TX4 k).2.2.1 = some (tyX4 k) := by decide +kernel
abbrev cX4_init : ByteArray := prog_6_method_1_code
def yX4_init : MethodName := ⟨RX4, "<init>", "()V"⟩
abbrev cX4_thrown : ByteArray := prog_6_method_2_code
def yX4_thrown : MethodName := ⟨RX4, "thrown", "()I"⟩
abbrev cX4_in : ByteArray := prog_6_method_3_code
def yX4_in : MethodName := ⟨RX4, "in", "(III)Z"⟩
abbrev cX4_fails : ByteArray := prog_6_method_4_code
def yX4_fails : MethodName := ⟨RX4, "fails", "(I)I"⟩
abbrev cX4_isPair : ByteArray := prog_6_method_5_code
def yX4_isPair : MethodName := ⟨RX4, "isPair", "(II)Z"⟩
abbrev cX4_isConcert : ByteArray := prog_6_method_6_code
def yX4_isConcert : MethodName := ⟨RX4, "isConcert", "(I)Z"⟩
abbrev cX4_cellOf : ByteArray := prog_6_method_7_code
def yX4_cellOf : MethodName := ⟨RX4, "cellOf", "(II)I"⟩
abbrev cX4_saves : ByteArray := prog_6_method_8_code
def yX4_saves : MethodName := ⟨RX4, "saves", "()V"⟩
abbrev cX4_putAside : ByteArray := prog_6_method_9_code
def yX4_putAside : MethodName := ⟨RX4, "putAside", "()V"⟩
abbrev cX4_takeBack : ByteArray := prog_6_method_10_code
def yX4_takeBack : MethodName := ⟨RX4, "takeBack", "()V"⟩
abbrev cX4_calls : ByteArray := prog_6_method_11_code
def yX4_calls : MethodName := ⟨RX4, "calls", "(I)V"⟩
abbrev cX4_comes : ByteArray := prog_6_method_12_code
def yX4_comes : MethodName := ⟨RX4, "comes", "(I)I"⟩
abbrev cX4_come : ByteArray := prog_6_method_13_code
def yX4_come : MethodName := ⟨RX4, "come", "(II)I"⟩
abbrev cX4_farewell : ByteArray := prog_6_method_14_code
def yX4_farewell : MethodName := ⟨RX4, "farewell", "(I)V"⟩
abbrev cX4_leaves : ByteArray := prog_6_method_15_code
def yX4_leaves : MethodName := ⟨RX4, "leaves", "(IZ)I"⟩
abbrev cX4_leave : ByteArray := prog_6_method_16_code
def yX4_leave : MethodName := ⟨RX4, "leave", "(IIZ)I"⟩
abbrev cX4_listeners : ByteArray := prog_6_method_17_code
def yX4_listeners : MethodName := ⟨RX4, "listeners", "(II)I"⟩
abbrev cX4_setOpen : ByteArray := prog_6_method_18_code
def yX4_setOpen : MethodName := ⟨RX4, "setOpen", "(IZ)Z"⟩
abbrev cX4_setQuick : ByteArray := prog_6_method_19_code
def yX4_setQuick : MethodName := ⟨RX4, "setQuick", "(Z)Z"⟩
abbrev cX4_setTimes : ByteArray := prog_6_method_20_code
def yX4_setTimes : MethodName := ⟨RX4, "setTimes", "(III)I"⟩
abbrev cX4_chiefNow : ByteArray := prog_6_method_21_code
def yX4_chiefNow : MethodName := ⟨RX4, "chiefNow", "()I"⟩
abbrev cX4_setPresent : ByteArray := prog_6_method_22_code
def yX4_setPresent : MethodName := ⟨RX4, "setPresent", "(IZ)I"⟩
abbrev cX4_chief : ByteArray := prog_6_method_23_code
def yX4_chief : MethodName := ⟨RX4, "chief", "()I"⟩
abbrev cX4_rest : ByteArray := prog_6_method_24_code
def yX4_rest : MethodName := ⟨RX4, "rest", "(II)I"⟩
abbrev cX4_entriesNow : ByteArray := prog_6_method_25_code
def yX4_entriesNow : MethodName := ⟨RX4, "entriesNow", "()I"⟩
abbrev cX4_entries : ByteArray := prog_6_method_26_code
def yX4_entries : MethodName := ⟨RX4, "entries", "()I"⟩
abbrev cX4_isOpen : ByteArray := prog_6_method_27_code
def yX4_isOpen : MethodName := ⟨RX4, "isOpen", "(I)Z"⟩
abbrev cX4_goes : ByteArray := prog_6_method_28_code
def yX4_goes : MethodName := ⟨RX4, "goes", "(II)Z"⟩
abbrev cX4_wants : ByteArray := prog_6_method_29_code
def yX4_wants : MethodName := ⟨RX4, "wants", "(II)Z"⟩
abbrev cX4_rowsOf : ByteArray := prog_6_method_30_code
def yX4_rowsOf : MethodName := ⟨RX4, "rowsOf", "(I)I"⟩
abbrev cX4_wantedOf : ByteArray := prog_6_method_31_code
def yX4_wantedOf : MethodName := ⟨RX4, "wantedOf", "(I)I"⟩
abbrev cX4_rows : ByteArray := prog_6_method_32_code
def yX4_rows : MethodName := ⟨RX4, "rows", "(I)I"⟩
abbrev cX4_wanted : ByteArray := prog_6_method_33_code
def yX4_wanted : MethodName := ⟨RX4, "wanted", "(I)I"⟩
abbrev cX4_due : ByteArray := prog_6_method_34_code
def yX4_due : MethodName := ⟨RX4, "due", "()I"⟩
abbrev cX4_goesBy : ByteArray := prog_6_method_35_code
def yX4_goesBy : MethodName := ⟨RX4, "goesBy", "()Z"⟩
abbrev cX4_passes : ByteArray := prog_6_method_36_code
def yX4_passes : MethodName := ⟨RX4, "passes", "(I)I"⟩
abbrev cX4_pass : ByteArray := prog_6_method_37_code
def yX4_pass : MethodName := ⟨RX4, "pass", "(I)I"⟩
abbrev cX4_plays : ByteArray := prog_6_method_38_code
def yX4_plays : MethodName := ⟨RX4, "plays", "(I)I"⟩
abbrev cX4_play : ByteArray := prog_6_method_39_code
def yX4_play : MethodName := ⟨RX4, "play", "(I)I"⟩
abbrev cX4_minutes : ByteArray := prog_6_method_40_code
def yX4_minutes : MethodName := ⟨RX4, "minutes", "()I"⟩
abbrev cX4_sinceQuestion : ByteArray := prog_6_method_41_code
def yX4_sinceQuestion : MethodName := ⟨RX4, "sinceQuestion", "()I"⟩
abbrev cX4_count : ByteArray := prog_6_method_42_code
def yX4_count : MethodName := ⟨RX4, "count", "(I)I"⟩
abbrev cX4_usefulShare : ByteArray := prog_6_method_43_code
def yX4_usefulShare : MethodName := ⟨RX4, "usefulShare", "()D"⟩
abbrev cX4_fadesIn : ByteArray := prog_6_method_44_code
def yX4_fadesIn : MethodName := ⟨RX4, "fadesIn", "(I)I"⟩
abbrev cX4_minutesToFade : ByteArray := prog_6_method_45_code
def yX4_minutesToFade : MethodName := ⟨RX4, "minutesToFade", "(II)I"⟩
abbrev cX4_asksIn : ByteArray := prog_6_method_46_code
def yX4_asksIn : MethodName := ⟨RX4, "asksIn", "()I"⟩
abbrev cX4_minutesToQuestion : ByteArray := prog_6_method_47_code
def yX4_minutesToQuestion : MethodName := ⟨RX4, "minutesToQuestion", "()I"⟩
abbrev cX4_disturbedAfter : ByteArray := prog_6_method_48_code
def yX4_disturbedAfter : MethodName := ⟨RX4, "disturbedAfter", "(II)I"⟩
abbrev cX4_append : ByteArray := prog_6_method_49_code
def yX4_append : MethodName := ⟨RX4, "append", "(I)I"⟩
abbrev cX4_clearText : ByteArray := prog_6_method_50_code
def yX4_clearText : MethodName := ⟨RX4, "clearText", "()I"⟩
abbrev cX4_sign : ByteArray := prog_6_method_51_code
def yX4_sign : MethodName := ⟨RX4, "sign", "()I"⟩
abbrev cX4_figure : ByteArray := prog_6_method_52_code
def yX4_figure : MethodName := ⟨RX4, "figure", "(II)I"⟩
abbrev cX4_number : ByteArray := prog_6_method_53_code
def yX4_number : MethodName := ⟨RX4, "number", "()I"⟩
abbrev cX4_readsEvent : ByteArray := prog_6_method_54_code
def yX4_readsEvent : MethodName := ⟨RX4, "readsEvent", "()V"⟩
abbrev cX4_reads : ByteArray := prog_6_method_55_code
def yX4_reads : MethodName := ⟨RX4, "reads", "()Z"⟩
abbrev cX4_firstError : ByteArray := prog_6_method_56_code
def yX4_firstError : MethodName := ⟨RX4, "firstError", "()I"⟩
abbrev cX4_does : ByteArray := prog_6_method_57_code
def yX4_does : MethodName := ⟨RX4, "does", "(I)Z"⟩
abbrev cX4_run : ByteArray := prog_6_method_58_code
def yX4_run : MethodName := ⟨RX4, "run", "()I"⟩
abbrev cX4_undo : ByteArray := prog_6_method_59_code
def yX4_undo : MethodName := ⟨RX4, "undo", "()I"⟩
abbrev cX4_savedStates : ByteArray := prog_6_method_60_code
def yX4_savedStates : MethodName := ⟨RX4, "savedStates", "()I"⟩
abbrev cX4_hashes : ByteArray := prog_6_method_61_code
def yX4_hashes : MethodName := ⟨RX4, "hashes", "(I)V"⟩
abbrev cX4_digest : ByteArray := prog_6_method_62_code
def yX4_digest : MethodName := ⟨RX4, "digest", "()J"⟩
def RJ6 : String := "java/lang/Integer"
def TJ6 : u_T := fun k => match k with
  | _ => ("", "", "", false)
def tyJ6 : Nat → FieldType := fun k => match k with
  | _ => .int
abbrev wsJ60 : List Cond := u_ws RJ6 TJ6 0
theorem nmJ6 : ∀ a, a < 0 → ∀ b, b < 0 → a ≠ b → (TJ6 a).2.1 ≠ (TJ6 b).2.1 := by decide +kernel
theorem tyJ6_ok : ∀ k, k < 0 → parseFieldDescriptor (TJ6 k).2.2.1 = some (tyJ6 k) := by decide +kernel
abbrev cJ6_bitCount_0f7a4 : ByteArray := prog_11_method_49_code
def yJ6_bitCount_0f7a4 : MethodName := ⟨RJ6, "bitCount", "(I)I"⟩
def RJ9 : String := "java/lang/Math"
def TJ9 : u_T := fun k => match k with
  | _ => ("", "", "", false)
def tyJ9 : Nat → FieldType := fun k => match k with
  | _ => .int
abbrev wsJ90 : List Cond := u_ws RJ9 TJ9 0
theorem nmJ9 : ∀ a, a < 0 → ∀ b, b < 0 → a ≠ b → (TJ9 a).2.1 ≠ (TJ9 b).2.1 := by decide +kernel
theorem tyJ9_ok : ∀ k, k < 0 → parseFieldDescriptor (TJ9 k).2.2.1 = some (tyJ9 k) := by decide +kernel
abbrev cJ9_max_7cf53 : ByteArray := prog_12_method_65_code
def yJ9_max_7cf53 : MethodName := ⟨RJ9, "max", "(II)I"⟩
def RJ0 : String := "java/lang/String"
def TJ0 : u_T := fun k => match k with
  | _ => ("", "", "", false)
def tyJ0 : Nat → FieldType := fun k => match k with
  | _ => .int
abbrev wsJ00 : List Cond := u_ws RJ0 TJ0 0
theorem nmJ0 : ∀ a, a < 0 → ∀ b, b < 0 → a ≠ b → (TJ0 a).2.1 ≠ (TJ0 b).2.1 := by decide +kernel
theorem tyJ0_ok : ∀ k, k < 0 → parseFieldDescriptor (TJ0 k).2.2.1 = some (tyJ0 k) := by decide +kernel
def RJ10 : String := "java/lang/System"
def TJ10 : u_T := fun k => match k with
  | _ => ("", "", "", false)
def tyJ10 : Nat → FieldType := fun k => match k with
  | _ => .int
abbrev wsJ100 : List Cond := u_ws RJ10 TJ10 0
theorem nmJ10 : ∀ a, a < 0 → ∀ b, b < 0 → a ≠ b → (TJ10 a).2.1 ≠ (TJ10 b).2.1 := by decide +kernel
theorem tyJ10_ok : ∀ k, k < 0 → parseFieldDescriptor (TJ10 k).2.2.1 = some (tyJ10 k) := by decide +kernel
def RL : String := "ConcertUsherLaw"
abbrev cL_come : ByteArray := method_3_code
def yL_come : MethodName := ⟨RL, "come", "(LConcertUsher;II[J)I"⟩
abbrev cL_leave : ByteArray := method_4_code
def yL_leave : MethodName := ⟨RL, "leave", "(LConcertUsher;IIZ[J)I"⟩
abbrev cL_listeners : ByteArray := method_5_code
def yL_listeners : MethodName := ⟨RL, "listeners", "(LConcertUsher;II[J)I"⟩
abbrev cL_setOpen : ByteArray := method_6_code
def yL_setOpen : MethodName := ⟨RL, "setOpen", "(LConcertUsher;IZ[J)I"⟩
abbrev cL_setTimes : ByteArray := method_7_code
def yL_setTimes : MethodName := ⟨RL, "setTimes", "(LConcertUsher;III[J)I"⟩
abbrev cL_setPresent : ByteArray := method_8_code
def yL_setPresent : MethodName := ⟨RL, "setPresent", "(LConcertUsher;IZ[J)I"⟩
abbrev cL_rest : ByteArray := method_9_code
def yL_rest : MethodName := ⟨RL, "rest", "(LConcertUsher;II[J)I"⟩
abbrev cL_isOpen : ByteArray := method_10_code
def yL_isOpen : MethodName := ⟨RL, "isOpen", "(LConcertUsher;I[J)I"⟩
abbrev cL_rows : ByteArray := method_11_code
def yL_rows : MethodName := ⟨RL, "rows", "(LConcertUsher;I[J)I"⟩
abbrev cL_wanted : ByteArray := method_12_code
def yL_wanted : MethodName := ⟨RL, "wanted", "(LConcertUsher;I[J)I"⟩
abbrev cL_pass : ByteArray := method_13_code
def yL_pass : MethodName := ⟨RL, "pass", "(LConcertUsher;I[J)I"⟩
abbrev cL_play : ByteArray := method_14_code
def yL_play : MethodName := ⟨RL, "play", "(LConcertUsher;I[J)I"⟩
abbrev cL_count : ByteArray := method_15_code
def yL_count : MethodName := ⟨RL, "count", "(LConcertUsher;I[J)I"⟩
abbrev cL_minutesToFade : ByteArray := method_16_code
def yL_minutesToFade : MethodName := ⟨RL, "minutesToFade", "(LConcertUsher;II[J)I"⟩
abbrev cL_disturbedAfter : ByteArray := method_17_code
def yL_disturbedAfter : MethodName := ⟨RL, "disturbedAfter", "(LConcertUsher;II[J)I"⟩
abbrev cL_append : ByteArray := method_18_code
def yL_append : MethodName := ⟨RL, "append", "(LConcertUsher;I[J)I"⟩
abbrev cL_run : ByteArray := method_19_code
def yL_run : MethodName := ⟨RL, "run", "(LConcertUsher;[J)I"⟩
abbrev cL_undo : ByteArray := method_20_code
def yL_undo : MethodName := ⟨RL, "undo", "(LConcertUsher;[J)I"⟩
abbrev cL_law : ByteArray := code
def yL_law : MethodName := ⟨RL, "law", "([I)Z"⟩
def wsX0_init : List Cond := .code yX0_init cX0_init 1 none :: ([.methodLink RX0 3 objectInit, .instanceMethod objectInit, .code objectInit ⟨#[0xb1]⟩ 1 none, .arrayClass .char, .fieldLink RX0 9 "ConcertUsher$EventText" "signs" "[C", .fieldLink RX0 15 "ConcertUsher$EventText" "length" "I"] ++ wsX00)
def wsX0_add : List Cond := .code yX0_add cX0_add 2 none :: ([.fieldLink RX0 15 "ConcertUsher$EventText" "length" "I", .fieldLink RX0 9 "ConcertUsher$EventText" "signs" "[C"] ++ wsX00)
def wsX0_signAt : List Cond := .code yX0_signAt cX0_signAt 2 (some .char) :: ([.fieldLink RX0 15 "ConcertUsher$EventText" "length" "I", .fieldLink RX0 9 "ConcertUsher$EventText" "signs" "[C"] ++ wsX00)
def wsX0_digitAt : List Cond := .code yX0_digitAt cX0_digitAt 2 (some .int) :: ([.methodLink RX0 19 yX0_signAt, .instanceMethod yX0_signAt, .selects RX0 yX0_signAt yX0_signAt, .initialized RX0, .code yX0_signAt cX0_signAt 2 (some .char), .fieldLink RX0 15 "ConcertUsher$EventText" "length" "I", .fieldLink RX0 9 "ConcertUsher$EventText" "signs" "[C"] ++ wsX00)
def wsX0_numberAt : List Cond := .code yX0_numberAt cX0_numberAt 3 (some .int) :: ([.methodLink RX0 23 yX0_digitAt, .instanceMethod yX0_digitAt, .selects RX0 yX0_digitAt yX0_digitAt, .initialized RX0, .code yX0_digitAt cX0_digitAt 2 (some .int), .methodLink RX0 19 yX0_signAt, .instanceMethod yX0_signAt, .selects RX0 yX0_signAt yX0_signAt, .code yX0_signAt cX0_signAt 2 (some .char), .fieldLink RX0 15 "ConcertUsher$EventText" "length" "I", .fieldLink RX0 9 "ConcertUsher$EventText" "signs" "[C"] ++ wsX00)
def wsX0_startsEvent : List Cond := .code yX0_startsEvent cX0_startsEvent 2 (some .boolean) :: ([.methodLink RX0 19 yX0_signAt, .instanceMethod yX0_signAt, .selects RX0 yX0_signAt yX0_signAt, .initialized RX0, .code yX0_signAt cX0_signAt 2 (some .char), .fieldLink RX0 15 "ConcertUsher$EventText" "length" "I", .fieldLink RX0 9 "ConcertUsher$EventText" "signs" "[C"] ++ wsX00)
def wsX0_stateAfterLetter : List Cond := .code yX0_stateAfterLetter cX0_stateAfterLetter 1 (some .int) :: ([])
def wsX0_isBetween : List Cond := .code yX0_isBetween cX0_isBetween 3 (some .boolean) :: ([])
def wsX0_stateAfterFirstDigit : List Cond := .code yX0_stateAfterFirstDigit cX0_stateAfterFirstDigit 1 (some .int) :: ([.methodLink RX0 35 yX0_isBetween, .static yX0_isBetween, .initialized RX0, .code yX0_isBetween cX0_isBetween 3 (some .boolean)])
def wsX0_stateAfterEvent : List Cond := .code yX0_stateAfterEvent cX0_stateAfterEvent 1 (some .int) :: ([])
def wsX0_stateAfter : List Cond := .code yX0_stateAfter cX0_stateAfter 2 (some .int) :: ([.methodLink RX0 31 yX0_stateAfterLetter, .static yX0_stateAfterLetter, .initialized RX0, .code yX0_stateAfterLetter cX0_stateAfterLetter 1 (some .int), .methodLink RX0 35 yX0_isBetween, .static yX0_isBetween, .code yX0_isBetween cX0_isBetween 3 (some .boolean), .methodLink RX0 39 yX0_stateAfterFirstDigit, .static yX0_stateAfterFirstDigit, .code yX0_stateAfterFirstDigit cX0_stateAfterFirstDigit 1 (some .int), .methodLink RX0 42 yX0_stateAfterEvent, .static yX0_stateAfterEvent, .code yX0_stateAfterEvent cX0_stateAfterEvent 1 (some .int)])
def wsX0_firstWrongSign : List Cond := .code yX0_firstWrongSign cX0_firstWrongSign 3 (some .int) :: ([.fieldLink RX0 15 "ConcertUsher$EventText" "length" "I", .methodLink RX0 19 yX0_signAt, .instanceMethod yX0_signAt, .selects RX0 yX0_signAt yX0_signAt, .initialized RX0, .code yX0_signAt cX0_signAt 2 (some .char), .fieldLink RX0 9 "ConcertUsher$EventText" "signs" "[C", .methodLink RX0 27 yX0_stateAfter, .static yX0_stateAfter, .code yX0_stateAfter cX0_stateAfter 2 (some .int), .methodLink RX0 31 yX0_stateAfterLetter, .static yX0_stateAfterLetter, .code yX0_stateAfterLetter cX0_stateAfterLetter 1 (some .int), .methodLink RX0 35 yX0_isBetween, .static yX0_isBetween, .code yX0_isBetween cX0_isBetween 3 (some .boolean), .methodLink RX0 39 yX0_stateAfterFirstDigit, .static yX0_stateAfterFirstDigit, .code yX0_stateAfterFirstDigit cX0_stateAfterFirstDigit 1 (some .int), .methodLink RX0 42 yX0_stateAfterEvent, .static yX0_stateAfterEvent, .code yX0_stateAfterEvent cX0_stateAfterEvent 1 (some .int)] ++ wsX00)
def wsX0_isComplete : List Cond := .code yX0_isComplete cX0_isComplete 3 (some .boolean) :: ([.fieldLink RX0 15 "ConcertUsher$EventText" "length" "I", .methodLink RX0 19 yX0_signAt, .instanceMethod yX0_signAt, .selects RX0 yX0_signAt yX0_signAt, .initialized RX0, .code yX0_signAt cX0_signAt 2 (some .char), .fieldLink RX0 9 "ConcertUsher$EventText" "signs" "[C", .methodLink RX0 27 yX0_stateAfter, .static yX0_stateAfter, .code yX0_stateAfter cX0_stateAfter 2 (some .int), .methodLink RX0 31 yX0_stateAfterLetter, .static yX0_stateAfterLetter, .code yX0_stateAfterLetter cX0_stateAfterLetter 1 (some .int), .methodLink RX0 35 yX0_isBetween, .static yX0_isBetween, .code yX0_isBetween cX0_isBetween 3 (some .boolean), .methodLink RX0 39 yX0_stateAfterFirstDigit, .static yX0_stateAfterFirstDigit, .code yX0_stateAfterFirstDigit cX0_stateAfterFirstDigit 1 (some .int), .methodLink RX0 42 yX0_stateAfterEvent, .static yX0_stateAfterEvent, .code yX0_stateAfterEvent cX0_stateAfterEvent 1 (some .int)] ++ wsX00)
def wsX1_init : List Cond := .code yX1_init cX1_init 1 none :: ([.methodLink RX1 3 objectInit, .instanceMethod objectInit, .code objectInit ⟨#[0xb1]⟩ 1 none, .arrayClass .int, .fieldLink RX1 9 "ConcertUsher$Hall" "listeners" "[I", .fieldLink RX1 15 "ConcertUsher$Hall" "rests" "[I", .fieldLink RX1 18 "ConcertUsher$Hall" "counts" "[I", .fieldLink RX1 21 "ConcertUsher$Hall" "openRows" "I", .fieldLink RX1 25 "ConcertUsher$Hall" "isQuick" "Z", .fieldLink RX1 29 "ConcertUsher$Hall" "isFirstPresent" "Z", .fieldLink RX1 32 "ConcertUsher$Hall" "isSecondPresent" "Z", .fieldLink RX1 35 "ConcertUsher$Hall" "fading" "I", .fieldLink RX1 38 "ConcertUsher$Hall" "patience" "I", .fieldLink RX1 41 "ConcertUsher$Hall" "asking" "I", .fieldLink RX1 44 "ConcertUsher$Hall" "minutes" "I", .fieldLink RX1 47 "ConcertUsher$Hall" "sinceQuestion" "I"] ++ wsX10)
def wsX1_copyFrom : List Cond := .code yX1_copyFrom cX1_copyFrom 2 none :: ([.fieldLink RX1 9 "ConcertUsher$Hall" "listeners" "[I", .methodLink RX1 50 arraycopyName, .native arraycopyName, .static arraycopyName, .initialized "java/lang/System", .fieldLink RX1 15 "ConcertUsher$Hall" "rests" "[I", .fieldLink RX1 18 "ConcertUsher$Hall" "counts" "[I", .fieldLink RX1 21 "ConcertUsher$Hall" "openRows" "I", .fieldLink RX1 25 "ConcertUsher$Hall" "isQuick" "Z", .fieldLink RX1 29 "ConcertUsher$Hall" "isFirstPresent" "Z", .fieldLink RX1 32 "ConcertUsher$Hall" "isSecondPresent" "Z", .fieldLink RX1 35 "ConcertUsher$Hall" "fading" "I", .fieldLink RX1 38 "ConcertUsher$Hall" "patience" "I", .fieldLink RX1 41 "ConcertUsher$Hall" "asking" "I", .fieldLink RX1 44 "ConcertUsher$Hall" "minutes" "I", .fieldLink RX1 47 "ConcertUsher$Hall" "sinceQuestion" "I"] ++ wsX10)
def wsX1_hasRoom : List Cond := .code yX1_hasRoom cX1_hasRoom 2 (some .boolean) :: ([.fieldLink RX1 9 "ConcertUsher$Hall" "listeners" "[I"] ++ wsX10)
def wsX1_isWantedAt : List Cond := .code yX1_isWantedAt cX1_isWantedAt 2 (some .boolean) :: ([.fieldLink RX1 9 "ConcertUsher$Hall" "listeners" "[I"] ++ wsX10)
def wsX1_hearCall : List Cond := .code yX1_hearCall cX1_hearCall 2 none :: ([.fieldLink RX1 15 "ConcertUsher$Hall" "rests" "[I", .fieldLink RX1 35 "ConcertUsher$Hall" "fading" "I", .fieldLink RX1 18 "ConcertUsher$Hall" "counts" "[I"] ++ wsX10)
def wsX1_seat : List Cond := .code yX1_seat cX1_seat 2 none :: ([.fieldLink RX1 9 "ConcertUsher$Hall" "listeners" "[I", .methodLink RX1 56 yX1_hearCall, .instanceMethod yX1_hearCall, .selects RX1 yX1_hearCall yX1_hearCall, .initialized RX1, .code yX1_hearCall cX1_hearCall 2 none, .fieldLink RX1 15 "ConcertUsher$Hall" "rests" "[I", .fieldLink RX1 35 "ConcertUsher$Hall" "fading" "I", .fieldLink RX1 18 "ConcertUsher$Hall" "counts" "[I"] ++ wsX10)
def wsX1_askRow : List Cond := .code yX1_askRow cX1_askRow 2 none :: ([.fieldLink RX1 18 "ConcertUsher$Hall" "counts" "[I", .methodLink RX1 63 yX1_isWantedAt, .instanceMethod yX1_isWantedAt, .selects RX1 yX1_isWantedAt yX1_isWantedAt, .initialized RX1, .code yX1_isWantedAt cX1_isWantedAt 2 (some .boolean), .fieldLink RX1 9 "ConcertUsher$Hall" "listeners" "[I", .methodLink RX1 56 yX1_hearCall, .instanceMethod yX1_hearCall, .selects RX1 yX1_hearCall yX1_hearCall, .code yX1_hearCall cX1_hearCall 2 none, .fieldLink RX1 15 "ConcertUsher$Hall" "rests" "[I", .fieldLink RX1 35 "ConcertUsher$Hall" "fading" "I"] ++ wsX10)
def wsX1_hearFarewell : List Cond := .code yX1_hearFarewell cX1_hearFarewell 2 none :: ([.fieldLink RX1 25 "ConcertUsher$Hall" "isQuick" "Z", .fieldLink RX1 15 "ConcertUsher$Hall" "rests" "[I", .fieldLink RX1 38 "ConcertUsher$Hall" "patience" "I", .methodLink RX1 63 yX1_isWantedAt, .instanceMethod yX1_isWantedAt, .selects RX1 yX1_isWantedAt yX1_isWantedAt, .initialized RX1, .code yX1_isWantedAt cX1_isWantedAt 2 (some .boolean), .fieldLink RX1 9 "ConcertUsher$Hall" "listeners" "[I", .methodLink RX1 67 yX1_askRow, .instanceMethod yX1_askRow, .selects RX1 yX1_askRow yX1_askRow, .code yX1_askRow cX1_askRow 2 none, .fieldLink RX1 18 "ConcertUsher$Hall" "counts" "[I", .methodLink RX1 56 yX1_hearCall, .instanceMethod yX1_hearCall, .selects RX1 yX1_hearCall yX1_hearCall, .code yX1_hearCall cX1_hearCall 2 none, .fieldLink RX1 35 "ConcertUsher$Hall" "fading" "I"] ++ wsX10)
def wsX1_unseat : List Cond := .code yX1_unseat cX1_unseat 3 none :: ([.fieldLink RX1 9 "ConcertUsher$Hall" "listeners" "[I", .methodLink RX1 60 yX1_hearFarewell, .instanceMethod yX1_hearFarewell, .selects RX1 yX1_hearFarewell yX1_hearFarewell, .initialized RX1, .code yX1_hearFarewell cX1_hearFarewell 2 none, .fieldLink RX1 25 "ConcertUsher$Hall" "isQuick" "Z", .fieldLink RX1 15 "ConcertUsher$Hall" "rests" "[I", .fieldLink RX1 38 "ConcertUsher$Hall" "patience" "I", .methodLink RX1 63 yX1_isWantedAt, .instanceMethod yX1_isWantedAt, .selects RX1 yX1_isWantedAt yX1_isWantedAt, .code yX1_isWantedAt cX1_isWantedAt 2 (some .boolean), .methodLink RX1 67 yX1_askRow, .instanceMethod yX1_askRow, .selects RX1 yX1_askRow yX1_askRow, .code yX1_askRow cX1_askRow 2 none, .fieldLink RX1 18 "ConcertUsher$Hall" "counts" "[I", .methodLink RX1 56 yX1_hearCall, .instanceMethod yX1_hearCall, .selects RX1 yX1_hearCall yX1_hearCall, .code yX1_hearCall cX1_hearCall 2 none, .fieldLink RX1 35 "ConcertUsher$Hall" "fading" "I"] ++ wsX10)
def wsX1_askAllRows : List Cond := .code yX1_askAllRows cX1_askAllRows 2 none :: ([.fieldLink RX1 18 "ConcertUsher$Hall" "counts" "[I", .methodLink RX1 63 yX1_isWantedAt, .instanceMethod yX1_isWantedAt, .selects RX1 yX1_isWantedAt yX1_isWantedAt, .initialized RX1, .code yX1_isWantedAt cX1_isWantedAt 2 (some .boolean), .fieldLink RX1 9 "ConcertUsher$Hall" "listeners" "[I", .methodLink RX1 56 yX1_hearCall, .instanceMethod yX1_hearCall, .selects RX1 yX1_hearCall yX1_hearCall, .code yX1_hearCall cX1_hearCall 2 none, .fieldLink RX1 15 "ConcertUsher$Hall" "rests" "[I", .fieldLink RX1 35 "ConcertUsher$Hall" "fading" "I"] ++ wsX10)
def wsX1_isRowOpen : List Cond := .code yX1_isRowOpen cX1_isRowOpen 2 (some .boolean) :: ([.fieldLink RX1 21 "ConcertUsher$Hall" "openRows" "I"] ++ wsX10)
def wsX1_turnRow : List Cond := .code yX1_turnRow cX1_turnRow 2 none :: ([.fieldLink RX1 21 "ConcertUsher$Hall" "openRows" "I"] ++ wsX10)
def wsX1_chiefAsker : List Cond := .code yX1_chiefAsker cX1_chiefAsker 1 (some .int) :: ([.fieldLink RX1 32 "ConcertUsher$Hall" "isSecondPresent" "Z", .fieldLink RX1 29 "ConcertUsher$Hall" "isFirstPresent" "Z"] ++ wsX10)
def wsX1_entriesInAll : List Cond := .code yX1_entriesInAll cX1_entriesInAll 3 (some .int) :: ([.fieldLink RX1 15 "ConcertUsher$Hall" "rests" "[I"] ++ wsX10)
def wsX3_placeOf : List Cond := .code yX3_placeOf cX3_placeOf 2 (some .int) :: ([])
def wsX1_rowsThatGet : List Cond := .code yX1_rowsThatGet cX1_rowsThatGet 4 (some .int) :: ([.fieldLink RX1 21 "ConcertUsher$Hall" "openRows" "I", .fieldLink RX1 15 "ConcertUsher$Hall" "rests" "[I", .static yX3_placeOf, .initialized RX3, .code yX3_placeOf cX3_placeOf 2 (some .int)] ++ wsX10)
def wsX1_rowsThatWant : List Cond := .code yX1_rowsThatWant cX1_rowsThatWant 4 (some .int) :: ([.static yX3_placeOf, .initialized RX3, .code yX3_placeOf cX3_placeOf 2 (some .int), .methodLink RX1 63 yX1_isWantedAt, .instanceMethod yX1_isWantedAt, .selects RX1 yX1_isWantedAt yX1_isWantedAt, .initialized RX1, .code yX1_isWantedAt cX1_isWantedAt 2 (some .boolean), .fieldLink RX1 9 "ConcertUsher$Hall" "listeners" "[I"] ++ wsX10)
def wsX1_fadeEntries : List Cond := .code yX1_fadeEntries cX1_fadeEntries 2 none :: ([.fieldLink RX1 15 "ConcertUsher$Hall" "rests" "[I"] ++ wsX10)
def wsX1_timeBetweenQuestions : List Cond := .code yX1_timeBetweenQuestions cX1_timeBetweenQuestions 1 (some .int) :: ([.fieldLink RX1 41 "ConcertUsher$Hall" "asking" "I", .methodLink RX1 84 yX1_chiefAsker, .instanceMethod yX1_chiefAsker, .selects RX1 yX1_chiefAsker yX1_chiefAsker, .initialized RX1, .code yX1_chiefAsker cX1_chiefAsker 1 (some .int), .fieldLink RX1 32 "ConcertUsher$Hall" "isSecondPresent" "Z", .fieldLink RX1 29 "ConcertUsher$Hall" "isFirstPresent" "Z"] ++ wsX10)
def wsX1_letPass_r1 : List Cond := [Cond.fieldLink RX1 44 "ConcertUsher$Hall" "minutes" "I", Cond.fieldLink RX1 47 "ConcertUsher$Hall" "sinceQuestion" "I", Cond.methodLink RX1 74 yX1_fadeEntries, Cond.instanceMethod yX1_fadeEntries, Cond.selects RX1 yX1_fadeEntries yX1_fadeEntries, Cond.initialized RX1, Cond.code yX1_fadeEntries cX1_fadeEntries 2 none, Cond.fieldLink RX1 15 "ConcertUsher$Hall" "rests" "[I", Cond.methodLink RX1 77 yX1_timeBetweenQuestions, Cond.instanceMethod yX1_timeBetweenQuestions, Cond.selects RX1 yX1_timeBetweenQuestions yX1_timeBetweenQuestions, Cond.code yX1_timeBetweenQuestions cX1_timeBetweenQuestions 1 (some .int), Cond.fieldLink RX1 41 "ConcertUsher$Hall" "asking" "I", Cond.methodLink RX1 84 yX1_chiefAsker, Cond.instanceMethod yX1_chiefAsker, Cond.selects RX1 yX1_chiefAsker yX1_chiefAsker, Cond.code yX1_chiefAsker cX1_chiefAsker 1 (some .int), Cond.fieldLink RX1 32 "ConcertUsher$Hall" "isSecondPresent" "Z", Cond.fieldLink RX1 29 "ConcertUsher$Hall" "isFirstPresent" "Z", Cond.methodLink RX1 81 yX1_askAllRows, Cond.instanceMethod yX1_askAllRows, Cond.selects RX1 yX1_askAllRows yX1_askAllRows, Cond.code yX1_askAllRows cX1_askAllRows 2 none, Cond.fieldLink RX1 18 "ConcertUsher$Hall" "counts" "[I"]
def wsX1_letPass_r2 : List Cond := [Cond.methodLink RX1 63 yX1_isWantedAt, Cond.instanceMethod yX1_isWantedAt, Cond.selects RX1 yX1_isWantedAt yX1_isWantedAt, Cond.code yX1_isWantedAt cX1_isWantedAt 2 (some .boolean), Cond.fieldLink RX1 9 "ConcertUsher$Hall" "listeners" "[I", Cond.methodLink RX1 56 yX1_hearCall, Cond.instanceMethod yX1_hearCall, Cond.selects RX1 yX1_hearCall yX1_hearCall, Cond.code yX1_hearCall cX1_hearCall 2 none, Cond.fieldLink RX1 35 "ConcertUsher$Hall" "fading" "I"]
def wsX1_letPass : List Cond := .code yX1_letPass cX1_letPass 4 (some .int) :: ((wsX1_letPass_r1 ++ wsX1_letPass_r2) ++ wsX10)
def wsJ6_bitCount_0f7a4 : List Cond := .code yJ6_bitCount_0f7a4 cJ6_bitCount_0f7a4 1 (some .int) :: ([.constant RJ6 265 (1431655765), .constant RJ6 266 (858993459), .constant RJ6 267 (252645135)])
def wsX1_perform_r1 : List Cond := [Cond.fieldLink RX1 18 "ConcertUsher$Hall" "counts" "[I", Cond.methodLink RX1 87 yX1_rowsThatGet, Cond.instanceMethod yX1_rowsThatGet, Cond.selects RX1 yX1_rowsThatGet yX1_rowsThatGet, Cond.initialized RX1, Cond.code yX1_rowsThatGet cX1_rowsThatGet 4 (some .int), Cond.fieldLink RX1 21 "ConcertUsher$Hall" "openRows" "I", Cond.fieldLink RX1 15 "ConcertUsher$Hall" "rests" "[I", Cond.static yX3_placeOf, Cond.initialized RX3, Cond.code yX3_placeOf cX3_placeOf 2 (some .int), Cond.methodLink RX1 91 yX1_rowsThatWant, Cond.instanceMethod yX1_rowsThatWant, Cond.selects RX1 yX1_rowsThatWant yX1_rowsThatWant, Cond.code yX1_rowsThatWant cX1_rowsThatWant 4 (some .int), Cond.methodLink RX1 63 yX1_isWantedAt, Cond.instanceMethod yX1_isWantedAt, Cond.selects RX1 yX1_isWantedAt yX1_isWantedAt, Cond.code yX1_isWantedAt cX1_isWantedAt 2 (some .boolean), Cond.fieldLink RX1 9 "ConcertUsher$Hall" "listeners" "[I", Cond.methodLink RX1 94 yJ6_bitCount_0f7a4, Cond.static yJ6_bitCount_0f7a4, Cond.initialized RJ6, Cond.code yJ6_bitCount_0f7a4 cJ6_bitCount_0f7a4 1 (some .int)]
def wsX1_perform_r2 : List Cond := [Cond.constant RJ6 265 (1431655765), Cond.constant RJ6 266 (858993459), Cond.constant RJ6 267 (252645135)]
def wsX1_perform : List Cond := .code yX1_perform cX1_perform 4 (some .int) :: ((wsX1_perform_r1 ++ wsX1_perform_r2) ++ wsX10)
def wsX1_asksIn : List Cond := .code yX1_asksIn cX1_asksIn 1 (some .int) :: ([.fieldLink RX1 47 "ConcertUsher$Hall" "sinceQuestion" "I", .methodLink RX1 99 Lib.Math.max.name, .static Lib.Math.max.name, .initialized "java/lang/Math", .code Lib.Math.max.name Lib.Math.max.code 2 (some .int), .methodLink RX1 77 yX1_timeBetweenQuestions, .instanceMethod yX1_timeBetweenQuestions, .selects RX1 yX1_timeBetweenQuestions yX1_timeBetweenQuestions, .initialized RX1, .code yX1_timeBetweenQuestions cX1_timeBetweenQuestions 1 (some .int), .fieldLink RX1 41 "ConcertUsher$Hall" "asking" "I", .methodLink RX1 84 yX1_chiefAsker, .instanceMethod yX1_chiefAsker, .selects RX1 yX1_chiefAsker yX1_chiefAsker, .code yX1_chiefAsker cX1_chiefAsker 1 (some .int), .fieldLink RX1 32 "ConcertUsher$Hall" "isSecondPresent" "Z", .fieldLink RX1 29 "ConcertUsher$Hall" "isFirstPresent" "Z"] ++ wsX10)
def wsX1_fadesIn_r1 : List Cond := [Cond.fieldLink RX1 15 "ConcertUsher$Hall" "rests" "[I", Cond.fieldLink RX1 35 "ConcertUsher$Hall" "fading" "I", Cond.methodLink RX1 104 yX1_asksIn, Cond.instanceMethod yX1_asksIn, Cond.selects RX1 yX1_asksIn yX1_asksIn, Cond.initialized RX1, Cond.code yX1_asksIn cX1_asksIn 1 (some .int), Cond.fieldLink RX1 47 "ConcertUsher$Hall" "sinceQuestion" "I", Cond.methodLink RX1 99 Lib.Math.max.name, Cond.static Lib.Math.max.name, Cond.initialized "java/lang/Math", Cond.code Lib.Math.max.name Lib.Math.max.code 2 (some .int), Cond.methodLink RX1 77 yX1_timeBetweenQuestions, Cond.instanceMethod yX1_timeBetweenQuestions, Cond.selects RX1 yX1_timeBetweenQuestions yX1_timeBetweenQuestions, Cond.code yX1_timeBetweenQuestions cX1_timeBetweenQuestions 1 (some .int), Cond.fieldLink RX1 41 "ConcertUsher$Hall" "asking" "I", Cond.methodLink RX1 84 yX1_chiefAsker, Cond.instanceMethod yX1_chiefAsker, Cond.selects RX1 yX1_chiefAsker yX1_chiefAsker, Cond.code yX1_chiefAsker cX1_chiefAsker 1 (some .int), Cond.fieldLink RX1 32 "ConcertUsher$Hall" "isSecondPresent" "Z", Cond.fieldLink RX1 29 "ConcertUsher$Hall" "isFirstPresent" "Z", Cond.methodLink RX1 63 yX1_isWantedAt]
def wsX1_fadesIn_r2 : List Cond := [Cond.instanceMethod yX1_isWantedAt, Cond.selects RX1 yX1_isWantedAt yX1_isWantedAt, Cond.code yX1_isWantedAt cX1_isWantedAt 2 (some .boolean), Cond.fieldLink RX1 9 "ConcertUsher$Hall" "listeners" "[I"]
def wsX1_fadesIn : List Cond := .code yX1_fadesIn cX1_fadesIn 3 (some .int) :: ((wsX1_fadesIn_r1 ++ wsX1_fadesIn_r2) ++ wsX10)
def wsX1_disturbedIn : List Cond := .code yX1_disturbedIn cX1_disturbedIn 6 (some .int) :: ([.fieldLink RX1 15 "ConcertUsher$Hall" "rests" "[I", .static yX3_placeOf, .initialized RX3, .code yX3_placeOf cX3_placeOf 2 (some .int), .methodLink RX1 63 yX1_isWantedAt, .instanceMethod yX1_isWantedAt, .selects RX1 yX1_isWantedAt yX1_isWantedAt, .initialized RX1, .code yX1_isWantedAt cX1_isWantedAt 2 (some .boolean), .fieldLink RX1 9 "ConcertUsher$Hall" "listeners" "[I", .methodLink RX1 107 yX1_isRowOpen, .instanceMethod yX1_isRowOpen, .selects RX1 yX1_isRowOpen yX1_isRowOpen, .code yX1_isRowOpen cX1_isRowOpen 2 (some .boolean), .fieldLink RX1 21 "ConcertUsher$Hall" "openRows" "I"] ++ wsX10)
def wsX2_init_r1 : List Cond := [Cond.methodLink RX2 3 objectInit, Cond.instanceMethod objectInit, Cond.code objectInit ⟨#[0xb1]⟩ 1 none, Cond.classLink RX2 9 RX1, Cond.fieldLink RX2 11 "ConcertUsher$History" "halls" "[LConcertUsher$Hall;", Cond.fieldLink RX2 17 "ConcertUsher$History" "oldest" "I", Cond.fieldLink RX2 21 "ConcertUsher$History" "size" "I", Cond.instantiable RX1 12, Cond.initialized RX1, Cond.instanceMethod yX1_init, Cond.code yX1_init cX1_init 1 none, Cond.methodLink RX1 3 objectInit, Cond.arrayClass .int, Cond.fieldLink RX1 9 "ConcertUsher$Hall" "listeners" "[I", Cond.fieldLink RX1 15 "ConcertUsher$Hall" "rests" "[I", Cond.fieldLink RX1 18 "ConcertUsher$Hall" "counts" "[I", Cond.fieldLink RX1 21 "ConcertUsher$Hall" "openRows" "I", Cond.fieldLink RX1 25 "ConcertUsher$Hall" "isQuick" "Z", Cond.fieldLink RX1 29 "ConcertUsher$Hall" "isFirstPresent" "Z", Cond.fieldLink RX1 32 "ConcertUsher$Hall" "isSecondPresent" "Z", Cond.fieldLink RX1 35 "ConcertUsher$Hall" "fading" "I", Cond.fieldLink RX1 38 "ConcertUsher$Hall" "patience" "I", Cond.fieldLink RX1 41 "ConcertUsher$Hall" "asking" "I", Cond.fieldLink RX1 44 "ConcertUsher$Hall" "minutes" "I"]
def wsX2_init_r2 : List Cond := [Cond.fieldLink RX1 47 "ConcertUsher$Hall" "sinceQuestion" "I"]
def wsX2_init : List Cond := .code yX2_init cX2_init 2 none :: ((wsX2_init_r1 ++ wsX2_init_r2) ++ wsX20 ++ wsX10)
def wsX2_keep : List Cond := .code yX2_keep cX2_keep 2 none :: ([.fieldLink RX2 21 "ConcertUsher$History" "size" "I", .fieldLink RX2 17 "ConcertUsher$History" "oldest" "I", .fieldLink RX2 11 "ConcertUsher$History" "halls" "[LConcertUsher$Hall;", .methodLink RX2 25 yX1_copyFrom, .instanceMethod yX1_copyFrom, .selects RX1 yX1_copyFrom yX1_copyFrom, .initialized RX1, .code yX1_copyFrom cX1_copyFrom 2 none, .fieldLink RX1 9 "ConcertUsher$Hall" "listeners" "[I", .methodLink RX1 50 arraycopyName, .native arraycopyName, .static arraycopyName, .initialized "java/lang/System", .fieldLink RX1 15 "ConcertUsher$Hall" "rests" "[I", .fieldLink RX1 18 "ConcertUsher$Hall" "counts" "[I", .fieldLink RX1 21 "ConcertUsher$Hall" "openRows" "I", .fieldLink RX1 25 "ConcertUsher$Hall" "isQuick" "Z", .fieldLink RX1 29 "ConcertUsher$Hall" "isFirstPresent" "Z", .fieldLink RX1 32 "ConcertUsher$Hall" "isSecondPresent" "Z", .fieldLink RX1 35 "ConcertUsher$Hall" "fading" "I", .fieldLink RX1 38 "ConcertUsher$Hall" "patience" "I", .fieldLink RX1 41 "ConcertUsher$Hall" "asking" "I", .fieldLink RX1 44 "ConcertUsher$Hall" "minutes" "I", .fieldLink RX1 47 "ConcertUsher$Hall" "sinceQuestion" "I"] ++ wsX20 ++ wsX10)
def wsX2_takeBack : List Cond := .code yX2_takeBack cX2_takeBack 2 none :: ([.fieldLink RX2 21 "ConcertUsher$History" "size" "I", .fieldLink RX2 11 "ConcertUsher$History" "halls" "[LConcertUsher$Hall;", .fieldLink RX2 17 "ConcertUsher$History" "oldest" "I", .methodLink RX2 25 yX1_copyFrom, .instanceMethod yX1_copyFrom, .selects RX1 yX1_copyFrom yX1_copyFrom, .initialized RX1, .code yX1_copyFrom cX1_copyFrom 2 none, .fieldLink RX1 9 "ConcertUsher$Hall" "listeners" "[I", .methodLink RX1 50 arraycopyName, .native arraycopyName, .static arraycopyName, .initialized "java/lang/System", .fieldLink RX1 15 "ConcertUsher$Hall" "rests" "[I", .fieldLink RX1 18 "ConcertUsher$Hall" "counts" "[I", .fieldLink RX1 21 "ConcertUsher$Hall" "openRows" "I", .fieldLink RX1 25 "ConcertUsher$Hall" "isQuick" "Z", .fieldLink RX1 29 "ConcertUsher$Hall" "isFirstPresent" "Z", .fieldLink RX1 32 "ConcertUsher$Hall" "isSecondPresent" "Z", .fieldLink RX1 35 "ConcertUsher$Hall" "fading" "I", .fieldLink RX1 38 "ConcertUsher$Hall" "patience" "I", .fieldLink RX1 41 "ConcertUsher$Hall" "asking" "I", .fieldLink RX1 44 "ConcertUsher$Hall" "minutes" "I", .fieldLink RX1 47 "ConcertUsher$Hall" "sinceQuestion" "I"] ++ wsX20 ++ wsX10)
def wsX3_init_r1 : List Cond := [Cond.methodLink RX3 3 objectInit, Cond.instanceMethod objectInit, Cond.code objectInit ⟨#[0xb1]⟩ 1 none, Cond.classLink RX3 9 RX1, Cond.instantiable RX1 12, Cond.initialized RX1, Cond.fieldLink RX3 12 "ConcertUsher" "hall" "LConcertUsher$Hall;", Cond.classLink RX3 16 RX2, Cond.instantiable RX2 3, Cond.initialized RX2, Cond.fieldLink RX3 19 "ConcertUsher" "history" "LConcertUsher$History;", Cond.classLink RX3 23 RX0, Cond.instantiable RX0 2, Cond.initialized RX0, Cond.fieldLink RX3 26 "ConcertUsher" "text" "LConcertUsher$EventText;", Cond.instanceMethod yX1_init, Cond.code yX1_init cX1_init 1 none, Cond.methodLink RX1 3 objectInit, Cond.arrayClass .int, Cond.fieldLink RX1 9 "ConcertUsher$Hall" "listeners" "[I", Cond.fieldLink RX1 15 "ConcertUsher$Hall" "rests" "[I", Cond.fieldLink RX1 18 "ConcertUsher$Hall" "counts" "[I", Cond.fieldLink RX1 21 "ConcertUsher$Hall" "openRows" "I", Cond.fieldLink RX1 25 "ConcertUsher$Hall" "isQuick" "Z"]
def wsX3_init_r2 : List Cond := [Cond.fieldLink RX1 29 "ConcertUsher$Hall" "isFirstPresent" "Z", Cond.fieldLink RX1 32 "ConcertUsher$Hall" "isSecondPresent" "Z", Cond.fieldLink RX1 35 "ConcertUsher$Hall" "fading" "I", Cond.fieldLink RX1 38 "ConcertUsher$Hall" "patience" "I", Cond.fieldLink RX1 41 "ConcertUsher$Hall" "asking" "I", Cond.fieldLink RX1 44 "ConcertUsher$Hall" "minutes" "I", Cond.fieldLink RX1 47 "ConcertUsher$Hall" "sinceQuestion" "I", Cond.methodLink RX3 18 yX2_init, Cond.instanceMethod yX2_init, Cond.code yX2_init cX2_init 2 none, Cond.methodLink RX2 3 objectInit, Cond.classLink RX2 9 RX1, Cond.fieldLink RX2 11 "ConcertUsher$History" "halls" "[LConcertUsher$Hall;", Cond.fieldLink RX2 17 "ConcertUsher$History" "oldest" "I", Cond.fieldLink RX2 21 "ConcertUsher$History" "size" "I", Cond.instanceMethod yX0_init, Cond.code yX0_init cX0_init 1 none, Cond.methodLink RX0 3 objectInit, Cond.arrayClass .char, Cond.fieldLink RX0 9 "ConcertUsher$EventText" "signs" "[C", Cond.fieldLink RX0 15 "ConcertUsher$EventText" "length" "I"]
def wsX3_init : List Cond := .code yX3_init cX3_init 1 none :: ((wsX3_init_r1 ++ wsX3_init_r2) ++ wsX10 ++ wsX30 ++ wsX20 ++ wsX00)
def wsX3_checkRow : List Cond := .code yX3_checkRow cX3_checkRow 1 none :: ([.classLink RX3 101 "java/lang/IndexOutOfBoundsException", .initialized "java/lang/IndexOutOfBoundsException"] ++ (vx_atS RX3 105 "java/lang/IndexOutOfBoundsException" ["java/lang/RuntimeException", "java/lang/Exception"]).filter goodWord)
def wsX3_checkConcert : List Cond := .code yX3_checkConcert cX3_checkConcert 1 none :: ([.classLink RX3 101 "java/lang/IndexOutOfBoundsException", .initialized "java/lang/IndexOutOfBoundsException"] ++ (vx_atS RX3 105 "java/lang/IndexOutOfBoundsException" ["java/lang/RuntimeException", "java/lang/Exception"]).filter goodWord)
def wsX3_come_r1 : List Cond := [Cond.classLink RX3 45 "java/lang/IllegalStateException", Cond.initialized "java/lang/IllegalStateException", Cond.fieldLink RX3 12 "ConcertUsher" "hall" "LConcertUsher$Hall;", Cond.fieldLink RX3 19 "ConcertUsher" "history" "LConcertUsher$History;", Cond.fieldLink RX3 59 "ConcertUsher$Hall" "listeners" "[I", Cond.methodLink RX3 30 yX3_checkRow, Cond.static yX3_checkRow, Cond.initialized RX3, Cond.code yX3_checkRow cX3_checkRow 1 none, Cond.classLink RX3 101 "java/lang/IndexOutOfBoundsException", Cond.initialized "java/lang/IndexOutOfBoundsException", Cond.methodLink RX3 34 yX3_checkConcert, Cond.static yX3_checkConcert, Cond.code yX3_checkConcert cX3_checkConcert 1 none, Cond.methodLink RX3 37 yX3_placeOf, Cond.static yX3_placeOf, Cond.code yX3_placeOf cX3_placeOf 2 (some .int), Cond.methodLink RX3 41 yX1_hasRoom, Cond.instanceMethod yX1_hasRoom, Cond.selects RX1 yX1_hasRoom yX1_hasRoom, Cond.initialized RX1, Cond.code yX1_hasRoom cX1_hasRoom 2 (some .boolean), Cond.fieldLink RX1 9 "ConcertUsher$Hall" "listeners" "[I", Cond.methodLink RX3 52 yX2_keep]
def wsX3_come_r2 : List Cond := [Cond.instanceMethod yX2_keep, Cond.selects RX2 yX2_keep yX2_keep, Cond.initialized RX2, Cond.code yX2_keep cX2_keep 2 none, Cond.fieldLink RX2 21 "ConcertUsher$History" "size" "I", Cond.fieldLink RX2 17 "ConcertUsher$History" "oldest" "I", Cond.fieldLink RX2 11 "ConcertUsher$History" "halls" "[LConcertUsher$Hall;", Cond.methodLink RX2 25 yX1_copyFrom, Cond.instanceMethod yX1_copyFrom, Cond.selects RX1 yX1_copyFrom yX1_copyFrom, Cond.code yX1_copyFrom cX1_copyFrom 2 none, Cond.methodLink RX1 50 arraycopyName, Cond.native arraycopyName, Cond.static arraycopyName, Cond.initialized "java/lang/System", Cond.fieldLink RX1 15 "ConcertUsher$Hall" "rests" "[I", Cond.fieldLink RX1 18 "ConcertUsher$Hall" "counts" "[I", Cond.fieldLink RX1 21 "ConcertUsher$Hall" "openRows" "I", Cond.fieldLink RX1 25 "ConcertUsher$Hall" "isQuick" "Z", Cond.fieldLink RX1 29 "ConcertUsher$Hall" "isFirstPresent" "Z", Cond.fieldLink RX1 32 "ConcertUsher$Hall" "isSecondPresent" "Z", Cond.fieldLink RX1 35 "ConcertUsher$Hall" "fading" "I", Cond.fieldLink RX1 38 "ConcertUsher$Hall" "patience" "I", Cond.fieldLink RX1 41 "ConcertUsher$Hall" "asking" "I"]
def wsX3_come_r3 : List Cond := [Cond.fieldLink RX1 44 "ConcertUsher$Hall" "minutes" "I", Cond.fieldLink RX1 47 "ConcertUsher$Hall" "sinceQuestion" "I", Cond.methodLink RX3 56 yX1_seat, Cond.instanceMethod yX1_seat, Cond.selects RX1 yX1_seat yX1_seat, Cond.code yX1_seat cX1_seat 2 none, Cond.methodLink RX1 56 yX1_hearCall, Cond.instanceMethod yX1_hearCall, Cond.selects RX1 yX1_hearCall yX1_hearCall, Cond.code yX1_hearCall cX1_hearCall 2 none]
def wsX3_come : List Cond := .code yX3_come cX3_come 4 (some .int) :: ((wsX3_come_r1 ++ (wsX3_come_r2 ++ wsX3_come_r3)) ++ wsX30 ++ wsX10 ++ wsX20 ++ (vx_atS RX3 49 "java/lang/IllegalStateException" ["java/lang/RuntimeException", "java/lang/Exception"]).filter goodWord ++ (vx_atS RX3 105 "java/lang/IndexOutOfBoundsException" ["java/lang/RuntimeException", "java/lang/Exception"]).filter goodWord)
def wsX3_leave_r1 : List Cond := [Cond.classLink RX3 45 "java/lang/IllegalStateException", Cond.initialized "java/lang/IllegalStateException", Cond.fieldLink RX3 12 "ConcertUsher" "hall" "LConcertUsher$Hall;", Cond.fieldLink RX3 19 "ConcertUsher" "history" "LConcertUsher$History;", Cond.fieldLink RX3 59 "ConcertUsher$Hall" "listeners" "[I", Cond.methodLink RX3 30 yX3_checkRow, Cond.static yX3_checkRow, Cond.initialized RX3, Cond.code yX3_checkRow cX3_checkRow 1 none, Cond.classLink RX3 101 "java/lang/IndexOutOfBoundsException", Cond.initialized "java/lang/IndexOutOfBoundsException", Cond.methodLink RX3 34 yX3_checkConcert, Cond.static yX3_checkConcert, Cond.code yX3_checkConcert cX3_checkConcert 1 none, Cond.methodLink RX3 37 yX3_placeOf, Cond.static yX3_placeOf, Cond.code yX3_placeOf cX3_placeOf 2 (some .int), Cond.methodLink RX3 63 yX1_isWantedAt, Cond.instanceMethod yX1_isWantedAt, Cond.selects RX1 yX1_isWantedAt yX1_isWantedAt, Cond.initialized RX1, Cond.code yX1_isWantedAt cX1_isWantedAt 2 (some .boolean), Cond.fieldLink RX1 9 "ConcertUsher$Hall" "listeners" "[I", Cond.methodLink RX3 52 yX2_keep]
def wsX3_leave_r2 : List Cond := [Cond.instanceMethod yX2_keep, Cond.selects RX2 yX2_keep yX2_keep, Cond.initialized RX2, Cond.code yX2_keep cX2_keep 2 none, Cond.fieldLink RX2 21 "ConcertUsher$History" "size" "I", Cond.fieldLink RX2 17 "ConcertUsher$History" "oldest" "I", Cond.fieldLink RX2 11 "ConcertUsher$History" "halls" "[LConcertUsher$Hall;", Cond.methodLink RX2 25 yX1_copyFrom, Cond.instanceMethod yX1_copyFrom, Cond.selects RX1 yX1_copyFrom yX1_copyFrom, Cond.code yX1_copyFrom cX1_copyFrom 2 none, Cond.methodLink RX1 50 arraycopyName, Cond.native arraycopyName, Cond.static arraycopyName, Cond.initialized "java/lang/System", Cond.fieldLink RX1 15 "ConcertUsher$Hall" "rests" "[I", Cond.fieldLink RX1 18 "ConcertUsher$Hall" "counts" "[I", Cond.fieldLink RX1 21 "ConcertUsher$Hall" "openRows" "I", Cond.fieldLink RX1 25 "ConcertUsher$Hall" "isQuick" "Z", Cond.fieldLink RX1 29 "ConcertUsher$Hall" "isFirstPresent" "Z", Cond.fieldLink RX1 32 "ConcertUsher$Hall" "isSecondPresent" "Z", Cond.fieldLink RX1 35 "ConcertUsher$Hall" "fading" "I", Cond.fieldLink RX1 38 "ConcertUsher$Hall" "patience" "I", Cond.fieldLink RX1 41 "ConcertUsher$Hall" "asking" "I"]
def wsX3_leave_r3 : List Cond := [Cond.fieldLink RX1 44 "ConcertUsher$Hall" "minutes" "I", Cond.fieldLink RX1 47 "ConcertUsher$Hall" "sinceQuestion" "I", Cond.methodLink RX3 68 yX1_unseat, Cond.instanceMethod yX1_unseat, Cond.selects RX1 yX1_unseat yX1_unseat, Cond.code yX1_unseat cX1_unseat 3 none, Cond.methodLink RX1 60 yX1_hearFarewell, Cond.instanceMethod yX1_hearFarewell, Cond.selects RX1 yX1_hearFarewell yX1_hearFarewell, Cond.code yX1_hearFarewell cX1_hearFarewell 2 none, Cond.methodLink RX1 63 yX1_isWantedAt, Cond.methodLink RX1 67 yX1_askRow, Cond.instanceMethod yX1_askRow, Cond.selects RX1 yX1_askRow yX1_askRow, Cond.code yX1_askRow cX1_askRow 2 none, Cond.methodLink RX1 56 yX1_hearCall, Cond.instanceMethod yX1_hearCall, Cond.selects RX1 yX1_hearCall yX1_hearCall, Cond.code yX1_hearCall cX1_hearCall 2 none]
def wsX3_leave : List Cond := .code yX3_leave cX3_leave 5 (some .int) :: ((wsX3_leave_r1 ++ (wsX3_leave_r2 ++ wsX3_leave_r3)) ++ wsX30 ++ wsX10 ++ wsX20 ++ (vx_atS RX3 49 "java/lang/IllegalStateException" ["java/lang/RuntimeException", "java/lang/Exception"]).filter goodWord ++ (vx_atS RX3 105 "java/lang/IndexOutOfBoundsException" ["java/lang/RuntimeException", "java/lang/Exception"]).filter goodWord)
def wsX3_listeners : List Cond := .code yX3_listeners cX3_listeners 3 (some .int) :: ([.fieldLink RX3 12 "ConcertUsher" "hall" "LConcertUsher$Hall;", .fieldLink RX3 59 "ConcertUsher$Hall" "listeners" "[I", .methodLink RX3 30 yX3_checkRow, .static yX3_checkRow, .initialized RX3, .code yX3_checkRow cX3_checkRow 1 none, .classLink RX3 101 "java/lang/IndexOutOfBoundsException", .initialized "java/lang/IndexOutOfBoundsException", .methodLink RX3 34 yX3_checkConcert, .static yX3_checkConcert, .code yX3_checkConcert cX3_checkConcert 1 none, .methodLink RX3 37 yX3_placeOf, .static yX3_placeOf, .code yX3_placeOf cX3_placeOf 2 (some .int)] ++ wsX30 ++ wsX10 ++ (vx_atS RX3 105 "java/lang/IndexOutOfBoundsException" ["java/lang/RuntimeException", "java/lang/Exception"]).filter goodWord)
def wsX3_setOpen_r1 : List Cond := [Cond.fieldLink RX3 19 "ConcertUsher" "history" "LConcertUsher$History;", Cond.fieldLink RX3 12 "ConcertUsher" "hall" "LConcertUsher$Hall;", Cond.methodLink RX3 30 yX3_checkRow, Cond.static yX3_checkRow, Cond.initialized RX3, Cond.code yX3_checkRow cX3_checkRow 1 none, Cond.classLink RX3 101 "java/lang/IndexOutOfBoundsException", Cond.initialized "java/lang/IndexOutOfBoundsException", Cond.methodLink RX3 52 yX2_keep, Cond.instanceMethod yX2_keep, Cond.selects RX2 yX2_keep yX2_keep, Cond.initialized RX2, Cond.code yX2_keep cX2_keep 2 none, Cond.fieldLink RX2 21 "ConcertUsher$History" "size" "I", Cond.fieldLink RX2 17 "ConcertUsher$History" "oldest" "I", Cond.fieldLink RX2 11 "ConcertUsher$History" "halls" "[LConcertUsher$Hall;", Cond.methodLink RX2 25 yX1_copyFrom, Cond.instanceMethod yX1_copyFrom, Cond.selects RX1 yX1_copyFrom yX1_copyFrom, Cond.initialized RX1, Cond.code yX1_copyFrom cX1_copyFrom 2 none, Cond.fieldLink RX1 9 "ConcertUsher$Hall" "listeners" "[I", Cond.methodLink RX1 50 arraycopyName, Cond.native arraycopyName]
def wsX3_setOpen_r2 : List Cond := [Cond.static arraycopyName, Cond.initialized "java/lang/System", Cond.fieldLink RX1 15 "ConcertUsher$Hall" "rests" "[I", Cond.fieldLink RX1 18 "ConcertUsher$Hall" "counts" "[I", Cond.fieldLink RX1 21 "ConcertUsher$Hall" "openRows" "I", Cond.fieldLink RX1 25 "ConcertUsher$Hall" "isQuick" "Z", Cond.fieldLink RX1 29 "ConcertUsher$Hall" "isFirstPresent" "Z", Cond.fieldLink RX1 32 "ConcertUsher$Hall" "isSecondPresent" "Z", Cond.fieldLink RX1 35 "ConcertUsher$Hall" "fading" "I", Cond.fieldLink RX1 38 "ConcertUsher$Hall" "patience" "I", Cond.fieldLink RX1 41 "ConcertUsher$Hall" "asking" "I", Cond.fieldLink RX1 44 "ConcertUsher$Hall" "minutes" "I", Cond.fieldLink RX1 47 "ConcertUsher$Hall" "sinceQuestion" "I", Cond.methodLink RX3 72 yX1_isRowOpen, Cond.instanceMethod yX1_isRowOpen, Cond.selects RX1 yX1_isRowOpen yX1_isRowOpen, Cond.code yX1_isRowOpen cX1_isRowOpen 2 (some .boolean), Cond.methodLink RX3 75 yX1_turnRow, Cond.instanceMethod yX1_turnRow, Cond.selects RX1 yX1_turnRow yX1_turnRow, Cond.code yX1_turnRow cX1_turnRow 2 none]
def wsX3_setOpen : List Cond := .code yX3_setOpen cX3_setOpen 4 (some .boolean) :: ((wsX3_setOpen_r1 ++ wsX3_setOpen_r2) ++ wsX30 ++ wsX20 ++ wsX10 ++ (vx_atS RX3 105 "java/lang/IndexOutOfBoundsException" ["java/lang/RuntimeException", "java/lang/Exception"]).filter goodWord)
def wsX3_setQuick_r1 : List Cond := [Cond.fieldLink RX3 19 "ConcertUsher" "history" "LConcertUsher$History;", Cond.fieldLink RX3 12 "ConcertUsher" "hall" "LConcertUsher$Hall;", Cond.fieldLink RX3 78 "ConcertUsher$Hall" "isQuick" "Z", Cond.methodLink RX3 52 yX2_keep, Cond.instanceMethod yX2_keep, Cond.selects RX2 yX2_keep yX2_keep, Cond.initialized RX2, Cond.code yX2_keep cX2_keep 2 none, Cond.fieldLink RX2 21 "ConcertUsher$History" "size" "I", Cond.fieldLink RX2 17 "ConcertUsher$History" "oldest" "I", Cond.fieldLink RX2 11 "ConcertUsher$History" "halls" "[LConcertUsher$Hall;", Cond.methodLink RX2 25 yX1_copyFrom, Cond.instanceMethod yX1_copyFrom, Cond.selects RX1 yX1_copyFrom yX1_copyFrom, Cond.initialized RX1, Cond.code yX1_copyFrom cX1_copyFrom 2 none, Cond.fieldLink RX1 9 "ConcertUsher$Hall" "listeners" "[I", Cond.methodLink RX1 50 arraycopyName, Cond.native arraycopyName, Cond.static arraycopyName, Cond.initialized "java/lang/System", Cond.fieldLink RX1 15 "ConcertUsher$Hall" "rests" "[I", Cond.fieldLink RX1 18 "ConcertUsher$Hall" "counts" "[I", Cond.fieldLink RX1 21 "ConcertUsher$Hall" "openRows" "I"]
def wsX3_setQuick_r2 : List Cond := [Cond.fieldLink RX1 25 "ConcertUsher$Hall" "isQuick" "Z", Cond.fieldLink RX1 29 "ConcertUsher$Hall" "isFirstPresent" "Z", Cond.fieldLink RX1 32 "ConcertUsher$Hall" "isSecondPresent" "Z", Cond.fieldLink RX1 35 "ConcertUsher$Hall" "fading" "I", Cond.fieldLink RX1 38 "ConcertUsher$Hall" "patience" "I", Cond.fieldLink RX1 41 "ConcertUsher$Hall" "asking" "I", Cond.fieldLink RX1 44 "ConcertUsher$Hall" "minutes" "I", Cond.fieldLink RX1 47 "ConcertUsher$Hall" "sinceQuestion" "I"]
def wsX3_setQuick : List Cond := .code yX3_setQuick cX3_setQuick 3 (some .boolean) :: ((wsX3_setQuick_r1 ++ wsX3_setQuick_r2) ++ wsX30 ++ wsX10 ++ wsX20)
def wsX3_setTimes_r1 : List Cond := [Cond.classLink RX3 82 "java/lang/IllegalArgumentException", Cond.initialized "java/lang/IllegalArgumentException", Cond.fieldLink RX3 19 "ConcertUsher" "history" "LConcertUsher$History;", Cond.fieldLink RX3 12 "ConcertUsher" "hall" "LConcertUsher$Hall;", Cond.fieldLink RX3 91 "ConcertUsher$Hall" "fading" "I", Cond.fieldLink RX3 95 "ConcertUsher$Hall" "patience" "I", Cond.fieldLink RX3 98 "ConcertUsher$Hall" "asking" "I", Cond.methodLink RX3 52 yX2_keep, Cond.instanceMethod yX2_keep, Cond.selects RX2 yX2_keep yX2_keep, Cond.initialized RX2, Cond.code yX2_keep cX2_keep 2 none, Cond.fieldLink RX2 21 "ConcertUsher$History" "size" "I", Cond.fieldLink RX2 17 "ConcertUsher$History" "oldest" "I", Cond.fieldLink RX2 11 "ConcertUsher$History" "halls" "[LConcertUsher$Hall;", Cond.methodLink RX2 25 yX1_copyFrom, Cond.instanceMethod yX1_copyFrom, Cond.selects RX1 yX1_copyFrom yX1_copyFrom, Cond.initialized RX1, Cond.code yX1_copyFrom cX1_copyFrom 2 none, Cond.fieldLink RX1 9 "ConcertUsher$Hall" "listeners" "[I", Cond.methodLink RX1 50 arraycopyName, Cond.native arraycopyName, Cond.static arraycopyName]
def wsX3_setTimes_r2 : List Cond := [Cond.initialized "java/lang/System", Cond.fieldLink RX1 15 "ConcertUsher$Hall" "rests" "[I", Cond.fieldLink RX1 18 "ConcertUsher$Hall" "counts" "[I", Cond.fieldLink RX1 21 "ConcertUsher$Hall" "openRows" "I", Cond.fieldLink RX1 25 "ConcertUsher$Hall" "isQuick" "Z", Cond.fieldLink RX1 29 "ConcertUsher$Hall" "isFirstPresent" "Z", Cond.fieldLink RX1 32 "ConcertUsher$Hall" "isSecondPresent" "Z", Cond.fieldLink RX1 35 "ConcertUsher$Hall" "fading" "I", Cond.fieldLink RX1 38 "ConcertUsher$Hall" "patience" "I", Cond.fieldLink RX1 41 "ConcertUsher$Hall" "asking" "I", Cond.fieldLink RX1 44 "ConcertUsher$Hall" "minutes" "I", Cond.fieldLink RX1 47 "ConcertUsher$Hall" "sinceQuestion" "I"]
def wsX3_setTimes : List Cond := .code yX3_setTimes cX3_setTimes 5 (some .int) :: ((wsX3_setTimes_r1 ++ wsX3_setTimes_r2) ++ wsX30 ++ wsX10 ++ wsX20 ++ (vx_atS RX3 86 "java/lang/IllegalArgumentException" ["java/lang/RuntimeException", "java/lang/Exception"]).filter goodWord)
def wsX3_setPresent_r1 : List Cond := [Cond.classLink RX3 101 "java/lang/IndexOutOfBoundsException", Cond.initialized "java/lang/IndexOutOfBoundsException", Cond.fieldLink RX3 19 "ConcertUsher" "history" "LConcertUsher$History;", Cond.fieldLink RX3 12 "ConcertUsher" "hall" "LConcertUsher$Hall;", Cond.fieldLink RX3 106 "ConcertUsher$Hall" "isFirstPresent" "Z", Cond.fieldLink RX3 109 "ConcertUsher$Hall" "isSecondPresent" "Z", Cond.methodLink RX3 52 yX2_keep, Cond.instanceMethod yX2_keep, Cond.selects RX2 yX2_keep yX2_keep, Cond.initialized RX2, Cond.code yX2_keep cX2_keep 2 none, Cond.fieldLink RX2 21 "ConcertUsher$History" "size" "I", Cond.fieldLink RX2 17 "ConcertUsher$History" "oldest" "I", Cond.fieldLink RX2 11 "ConcertUsher$History" "halls" "[LConcertUsher$Hall;", Cond.methodLink RX2 25 yX1_copyFrom, Cond.instanceMethod yX1_copyFrom, Cond.selects RX1 yX1_copyFrom yX1_copyFrom, Cond.initialized RX1, Cond.code yX1_copyFrom cX1_copyFrom 2 none, Cond.fieldLink RX1 9 "ConcertUsher$Hall" "listeners" "[I", Cond.methodLink RX1 50 arraycopyName, Cond.native arraycopyName, Cond.static arraycopyName, Cond.initialized "java/lang/System"]
def wsX3_setPresent_r2 : List Cond := [Cond.fieldLink RX1 15 "ConcertUsher$Hall" "rests" "[I", Cond.fieldLink RX1 18 "ConcertUsher$Hall" "counts" "[I", Cond.fieldLink RX1 21 "ConcertUsher$Hall" "openRows" "I", Cond.fieldLink RX1 25 "ConcertUsher$Hall" "isQuick" "Z", Cond.fieldLink RX1 29 "ConcertUsher$Hall" "isFirstPresent" "Z", Cond.fieldLink RX1 32 "ConcertUsher$Hall" "isSecondPresent" "Z", Cond.fieldLink RX1 35 "ConcertUsher$Hall" "fading" "I", Cond.fieldLink RX1 38 "ConcertUsher$Hall" "patience" "I", Cond.fieldLink RX1 41 "ConcertUsher$Hall" "asking" "I", Cond.fieldLink RX1 44 "ConcertUsher$Hall" "minutes" "I", Cond.fieldLink RX1 47 "ConcertUsher$Hall" "sinceQuestion" "I", Cond.methodLink RX3 112 yX1_chiefAsker, Cond.instanceMethod yX1_chiefAsker, Cond.selects RX1 yX1_chiefAsker yX1_chiefAsker, Cond.code yX1_chiefAsker cX1_chiefAsker 1 (some .int)]
def wsX3_setPresent : List Cond := .code yX3_setPresent cX3_setPresent 3 (some .int) :: ((wsX3_setPresent_r1 ++ wsX3_setPresent_r2) ++ wsX30 ++ wsX10 ++ wsX20 ++ (vx_atS RX3 105 "java/lang/IndexOutOfBoundsException" ["java/lang/RuntimeException", "java/lang/Exception"]).filter goodWord)
def wsX3_chief : List Cond := .code yX3_chief cX3_chief 1 (some .int) :: ([.fieldLink RX3 12 "ConcertUsher" "hall" "LConcertUsher$Hall;", .methodLink RX3 112 yX1_chiefAsker, .instanceMethod yX1_chiefAsker, .selects RX1 yX1_chiefAsker yX1_chiefAsker, .initialized RX1, .code yX1_chiefAsker cX1_chiefAsker 1 (some .int), .fieldLink RX1 32 "ConcertUsher$Hall" "isSecondPresent" "Z", .fieldLink RX1 29 "ConcertUsher$Hall" "isFirstPresent" "Z"] ++ wsX30 ++ wsX10)
def wsX3_rest : List Cond := .code yX3_rest cX3_rest 3 (some .int) :: ([.fieldLink RX3 12 "ConcertUsher" "hall" "LConcertUsher$Hall;", .fieldLink RX3 116 "ConcertUsher$Hall" "rests" "[I", .methodLink RX3 30 yX3_checkRow, .static yX3_checkRow, .initialized RX3, .code yX3_checkRow cX3_checkRow 1 none, .classLink RX3 101 "java/lang/IndexOutOfBoundsException", .initialized "java/lang/IndexOutOfBoundsException", .methodLink RX3 34 yX3_checkConcert, .static yX3_checkConcert, .code yX3_checkConcert cX3_checkConcert 1 none, .methodLink RX3 37 yX3_placeOf, .static yX3_placeOf, .code yX3_placeOf cX3_placeOf 2 (some .int)] ++ wsX30 ++ wsX10 ++ (vx_atS RX3 105 "java/lang/IndexOutOfBoundsException" ["java/lang/RuntimeException", "java/lang/Exception"]).filter goodWord)
def wsX3_entries : List Cond := .code yX3_entries cX3_entries 1 (some .int) :: ([.fieldLink RX3 12 "ConcertUsher" "hall" "LConcertUsher$Hall;", .methodLink RX3 119 yX1_entriesInAll, .instanceMethod yX1_entriesInAll, .selects RX1 yX1_entriesInAll yX1_entriesInAll, .initialized RX1, .code yX1_entriesInAll cX1_entriesInAll 3 (some .int), .fieldLink RX1 15 "ConcertUsher$Hall" "rests" "[I"] ++ wsX30 ++ wsX10)
def wsX3_isOpen : List Cond := .code yX3_isOpen cX3_isOpen 2 (some .boolean) :: ([.fieldLink RX3 12 "ConcertUsher" "hall" "LConcertUsher$Hall;", .methodLink RX3 30 yX3_checkRow, .static yX3_checkRow, .initialized RX3, .code yX3_checkRow cX3_checkRow 1 none, .classLink RX3 101 "java/lang/IndexOutOfBoundsException", .initialized "java/lang/IndexOutOfBoundsException", .methodLink RX3 72 yX1_isRowOpen, .instanceMethod yX1_isRowOpen, .selects RX1 yX1_isRowOpen yX1_isRowOpen, .initialized RX1, .code yX1_isRowOpen cX1_isRowOpen 2 (some .boolean), .fieldLink RX1 21 "ConcertUsher$Hall" "openRows" "I"] ++ wsX30 ++ wsX10 ++ (vx_atS RX3 105 "java/lang/IndexOutOfBoundsException" ["java/lang/RuntimeException", "java/lang/Exception"]).filter goodWord)
def wsX3_rows : List Cond := .code yX3_rows cX3_rows 2 (some .int) :: ([.fieldLink RX3 12 "ConcertUsher" "hall" "LConcertUsher$Hall;", .methodLink RX3 34 yX3_checkConcert, .static yX3_checkConcert, .initialized RX3, .code yX3_checkConcert cX3_checkConcert 1 none, .classLink RX3 101 "java/lang/IndexOutOfBoundsException", .initialized "java/lang/IndexOutOfBoundsException", .methodLink RX3 122 yX1_rowsThatGet, .instanceMethod yX1_rowsThatGet, .selects RX1 yX1_rowsThatGet yX1_rowsThatGet, .initialized RX1, .code yX1_rowsThatGet cX1_rowsThatGet 4 (some .int), .fieldLink RX1 21 "ConcertUsher$Hall" "openRows" "I", .fieldLink RX1 15 "ConcertUsher$Hall" "rests" "[I", .static yX3_placeOf, .code yX3_placeOf cX3_placeOf 2 (some .int)] ++ wsX30 ++ wsX10 ++ (vx_atS RX3 105 "java/lang/IndexOutOfBoundsException" ["java/lang/RuntimeException", "java/lang/Exception"]).filter goodWord)
def wsX3_wanted : List Cond := .code yX3_wanted cX3_wanted 2 (some .int) :: ([.fieldLink RX3 12 "ConcertUsher" "hall" "LConcertUsher$Hall;", .methodLink RX3 34 yX3_checkConcert, .static yX3_checkConcert, .initialized RX3, .code yX3_checkConcert cX3_checkConcert 1 none, .classLink RX3 101 "java/lang/IndexOutOfBoundsException", .initialized "java/lang/IndexOutOfBoundsException", .methodLink RX3 126 yX1_rowsThatWant, .instanceMethod yX1_rowsThatWant, .selects RX1 yX1_rowsThatWant yX1_rowsThatWant, .initialized RX1, .code yX1_rowsThatWant cX1_rowsThatWant 4 (some .int), .static yX3_placeOf, .code yX3_placeOf cX3_placeOf 2 (some .int), .methodLink RX1 63 yX1_isWantedAt, .instanceMethod yX1_isWantedAt, .selects RX1 yX1_isWantedAt yX1_isWantedAt, .code yX1_isWantedAt cX1_isWantedAt 2 (some .boolean), .fieldLink RX1 9 "ConcertUsher$Hall" "listeners" "[I"] ++ wsX30 ++ wsX10 ++ (vx_atS RX3 105 "java/lang/IndexOutOfBoundsException" ["java/lang/RuntimeException", "java/lang/Exception"]).filter goodWord)
def wsX3_checkMinutes : List Cond := .code yX3_checkMinutes cX3_checkMinutes 1 none :: ([.classLink RX3 82 "java/lang/IllegalArgumentException", .initialized "java/lang/IllegalArgumentException"] ++ (vx_atS RX3 86 "java/lang/IllegalArgumentException" ["java/lang/RuntimeException", "java/lang/Exception"]).filter goodWord)
def wsX3_pass_r1 : List Cond := [Cond.fieldLink RX3 19 "ConcertUsher" "history" "LConcertUsher$History;", Cond.fieldLink RX3 12 "ConcertUsher" "hall" "LConcertUsher$Hall;", Cond.methodLink RX3 129 yX3_checkMinutes, Cond.static yX3_checkMinutes, Cond.initialized RX3, Cond.code yX3_checkMinutes cX3_checkMinutes 1 none, Cond.classLink RX3 82 "java/lang/IllegalArgumentException", Cond.initialized "java/lang/IllegalArgumentException", Cond.methodLink RX3 52 yX2_keep, Cond.instanceMethod yX2_keep, Cond.selects RX2 yX2_keep yX2_keep, Cond.initialized RX2, Cond.code yX2_keep cX2_keep 2 none, Cond.fieldLink RX2 21 "ConcertUsher$History" "size" "I", Cond.fieldLink RX2 17 "ConcertUsher$History" "oldest" "I", Cond.fieldLink RX2 11 "ConcertUsher$History" "halls" "[LConcertUsher$Hall;", Cond.methodLink RX2 25 yX1_copyFrom, Cond.instanceMethod yX1_copyFrom, Cond.selects RX1 yX1_copyFrom yX1_copyFrom, Cond.initialized RX1, Cond.code yX1_copyFrom cX1_copyFrom 2 none, Cond.fieldLink RX1 9 "ConcertUsher$Hall" "listeners" "[I", Cond.methodLink RX1 50 arraycopyName, Cond.native arraycopyName]
def wsX3_pass_r2 : List Cond := [Cond.static arraycopyName, Cond.initialized "java/lang/System", Cond.fieldLink RX1 15 "ConcertUsher$Hall" "rests" "[I", Cond.fieldLink RX1 18 "ConcertUsher$Hall" "counts" "[I", Cond.fieldLink RX1 21 "ConcertUsher$Hall" "openRows" "I", Cond.fieldLink RX1 25 "ConcertUsher$Hall" "isQuick" "Z", Cond.fieldLink RX1 29 "ConcertUsher$Hall" "isFirstPresent" "Z", Cond.fieldLink RX1 32 "ConcertUsher$Hall" "isSecondPresent" "Z", Cond.fieldLink RX1 35 "ConcertUsher$Hall" "fading" "I", Cond.fieldLink RX1 38 "ConcertUsher$Hall" "patience" "I", Cond.fieldLink RX1 41 "ConcertUsher$Hall" "asking" "I", Cond.fieldLink RX1 44 "ConcertUsher$Hall" "minutes" "I", Cond.fieldLink RX1 47 "ConcertUsher$Hall" "sinceQuestion" "I", Cond.methodLink RX3 132 yX1_letPass, Cond.instanceMethod yX1_letPass, Cond.selects RX1 yX1_letPass yX1_letPass, Cond.code yX1_letPass cX1_letPass 4 (some .int), Cond.methodLink RX1 74 yX1_fadeEntries, Cond.instanceMethod yX1_fadeEntries, Cond.selects RX1 yX1_fadeEntries yX1_fadeEntries, Cond.code yX1_fadeEntries cX1_fadeEntries 2 none, Cond.methodLink RX1 77 yX1_timeBetweenQuestions, Cond.instanceMethod yX1_timeBetweenQuestions, Cond.selects RX1 yX1_timeBetweenQuestions yX1_timeBetweenQuestions]
def wsX3_pass_r3 : List Cond := [Cond.code yX1_timeBetweenQuestions cX1_timeBetweenQuestions 1 (some .int), Cond.methodLink RX1 84 yX1_chiefAsker, Cond.instanceMethod yX1_chiefAsker, Cond.selects RX1 yX1_chiefAsker yX1_chiefAsker, Cond.code yX1_chiefAsker cX1_chiefAsker 1 (some .int), Cond.methodLink RX1 81 yX1_askAllRows, Cond.instanceMethod yX1_askAllRows, Cond.selects RX1 yX1_askAllRows yX1_askAllRows, Cond.code yX1_askAllRows cX1_askAllRows 2 none, Cond.methodLink RX1 63 yX1_isWantedAt, Cond.instanceMethod yX1_isWantedAt, Cond.selects RX1 yX1_isWantedAt yX1_isWantedAt, Cond.code yX1_isWantedAt cX1_isWantedAt 2 (some .boolean), Cond.methodLink RX1 56 yX1_hearCall, Cond.instanceMethod yX1_hearCall, Cond.selects RX1 yX1_hearCall yX1_hearCall, Cond.code yX1_hearCall cX1_hearCall 2 none]
def wsX3_pass : List Cond := .code yX3_pass cX3_pass 2 (some .int) :: ((wsX3_pass_r1 ++ (wsX3_pass_r2 ++ wsX3_pass_r3)) ++ wsX30 ++ wsX20 ++ wsX10 ++ (vx_atS RX3 86 "java/lang/IllegalArgumentException" ["java/lang/RuntimeException", "java/lang/Exception"]).filter goodWord)
def wsX3_play_r1 : List Cond := [Cond.fieldLink RX3 19 "ConcertUsher" "history" "LConcertUsher$History;", Cond.fieldLink RX3 12 "ConcertUsher" "hall" "LConcertUsher$Hall;", Cond.methodLink RX3 34 yX3_checkConcert, Cond.static yX3_checkConcert, Cond.initialized RX3, Cond.code yX3_checkConcert cX3_checkConcert 1 none, Cond.classLink RX3 101 "java/lang/IndexOutOfBoundsException", Cond.initialized "java/lang/IndexOutOfBoundsException", Cond.methodLink RX3 52 yX2_keep, Cond.instanceMethod yX2_keep, Cond.selects RX2 yX2_keep yX2_keep, Cond.initialized RX2, Cond.code yX2_keep cX2_keep 2 none, Cond.fieldLink RX2 21 "ConcertUsher$History" "size" "I", Cond.fieldLink RX2 17 "ConcertUsher$History" "oldest" "I", Cond.fieldLink RX2 11 "ConcertUsher$History" "halls" "[LConcertUsher$Hall;", Cond.methodLink RX2 25 yX1_copyFrom, Cond.instanceMethod yX1_copyFrom, Cond.selects RX1 yX1_copyFrom yX1_copyFrom, Cond.initialized RX1, Cond.code yX1_copyFrom cX1_copyFrom 2 none, Cond.fieldLink RX1 9 "ConcertUsher$Hall" "listeners" "[I", Cond.methodLink RX1 50 arraycopyName, Cond.native arraycopyName]
def wsX3_play_r2 : List Cond := [Cond.static arraycopyName, Cond.initialized "java/lang/System", Cond.fieldLink RX1 15 "ConcertUsher$Hall" "rests" "[I", Cond.fieldLink RX1 18 "ConcertUsher$Hall" "counts" "[I", Cond.fieldLink RX1 21 "ConcertUsher$Hall" "openRows" "I", Cond.fieldLink RX1 25 "ConcertUsher$Hall" "isQuick" "Z", Cond.fieldLink RX1 29 "ConcertUsher$Hall" "isFirstPresent" "Z", Cond.fieldLink RX1 32 "ConcertUsher$Hall" "isSecondPresent" "Z", Cond.fieldLink RX1 35 "ConcertUsher$Hall" "fading" "I", Cond.fieldLink RX1 38 "ConcertUsher$Hall" "patience" "I", Cond.fieldLink RX1 41 "ConcertUsher$Hall" "asking" "I", Cond.fieldLink RX1 44 "ConcertUsher$Hall" "minutes" "I", Cond.fieldLink RX1 47 "ConcertUsher$Hall" "sinceQuestion" "I", Cond.methodLink RX3 135 yX1_perform, Cond.instanceMethod yX1_perform, Cond.selects RX1 yX1_perform yX1_perform, Cond.code yX1_perform cX1_perform 4 (some .int), Cond.methodLink RX1 87 yX1_rowsThatGet, Cond.instanceMethod yX1_rowsThatGet, Cond.selects RX1 yX1_rowsThatGet yX1_rowsThatGet, Cond.code yX1_rowsThatGet cX1_rowsThatGet 4 (some .int), Cond.static yX3_placeOf, Cond.code yX3_placeOf cX3_placeOf 2 (some .int), Cond.methodLink RX1 91 yX1_rowsThatWant]
def wsX3_play_r3 : List Cond := [Cond.instanceMethod yX1_rowsThatWant, Cond.selects RX1 yX1_rowsThatWant yX1_rowsThatWant, Cond.code yX1_rowsThatWant cX1_rowsThatWant 4 (some .int), Cond.methodLink RX1 63 yX1_isWantedAt, Cond.instanceMethod yX1_isWantedAt, Cond.selects RX1 yX1_isWantedAt yX1_isWantedAt, Cond.code yX1_isWantedAt cX1_isWantedAt 2 (some .boolean), Cond.methodLink RX1 94 yJ6_bitCount_0f7a4, Cond.static yJ6_bitCount_0f7a4, Cond.initialized RJ6, Cond.code yJ6_bitCount_0f7a4 cJ6_bitCount_0f7a4 1 (some .int), Cond.constant RJ6 265 (1431655765), Cond.constant RJ6 266 (858993459), Cond.constant RJ6 267 (252645135)]
def wsX3_play : List Cond := .code yX3_play cX3_play 2 (some .int) :: ((wsX3_play_r1 ++ (wsX3_play_r2 ++ wsX3_play_r3)) ++ wsX30 ++ wsX20 ++ wsX10 ++ (vx_atS RX3 105 "java/lang/IndexOutOfBoundsException" ["java/lang/RuntimeException", "java/lang/Exception"]).filter goodWord)
def wsX3_minutes : List Cond := .code yX3_minutes cX3_minutes 1 (some .int) :: ([.fieldLink RX3 12 "ConcertUsher" "hall" "LConcertUsher$Hall;", .fieldLink RX3 138 "ConcertUsher$Hall" "minutes" "I"] ++ wsX30 ++ wsX10)
def wsX3_sinceQuestion : List Cond := .code yX3_sinceQuestion cX3_sinceQuestion 1 (some .int) :: ([.fieldLink RX3 12 "ConcertUsher" "hall" "LConcertUsher$Hall;", .fieldLink RX3 141 "ConcertUsher$Hall" "sinceQuestion" "I"] ++ wsX30 ++ wsX10)
def wsX3_count : List Cond := .code yX3_count cX3_count 2 (some .int) :: ([.classLink RX3 101 "java/lang/IndexOutOfBoundsException", .initialized "java/lang/IndexOutOfBoundsException", .fieldLink RX3 12 "ConcertUsher" "hall" "LConcertUsher$Hall;", .fieldLink RX3 146 "ConcertUsher$Hall" "counts" "[I"] ++ wsX30 ++ wsX10 ++ (vx_atS RX3 105 "java/lang/IndexOutOfBoundsException" ["java/lang/RuntimeException", "java/lang/Exception"]).filter goodWord)
def wsX3_usefulShare : List Cond := .code yX3_usefulShare cX3_usefulShare 3 (some .double) :: ([.fieldLink RX3 12 "ConcertUsher" "hall" "LConcertUsher$Hall;", .fieldLink RX3 146 "ConcertUsher$Hall" "counts" "[I"] ++ wsX30 ++ wsX10)
def wsX3_minutesToFade_r1 : List Cond := [Cond.fieldLink RX3 12 "ConcertUsher" "hall" "LConcertUsher$Hall;", Cond.methodLink RX3 30 yX3_checkRow, Cond.static yX3_checkRow, Cond.initialized RX3, Cond.code yX3_checkRow cX3_checkRow 1 none, Cond.classLink RX3 101 "java/lang/IndexOutOfBoundsException", Cond.initialized "java/lang/IndexOutOfBoundsException", Cond.methodLink RX3 34 yX3_checkConcert, Cond.static yX3_checkConcert, Cond.code yX3_checkConcert cX3_checkConcert 1 none, Cond.methodLink RX3 37 yX3_placeOf, Cond.static yX3_placeOf, Cond.code yX3_placeOf cX3_placeOf 2 (some .int), Cond.methodLink RX3 149 yX1_fadesIn, Cond.instanceMethod yX1_fadesIn, Cond.selects RX1 yX1_fadesIn yX1_fadesIn, Cond.initialized RX1, Cond.code yX1_fadesIn cX1_fadesIn 3 (some .int), Cond.fieldLink RX1 15 "ConcertUsher$Hall" "rests" "[I", Cond.fieldLink RX1 35 "ConcertUsher$Hall" "fading" "I", Cond.methodLink RX1 104 yX1_asksIn, Cond.instanceMethod yX1_asksIn, Cond.selects RX1 yX1_asksIn yX1_asksIn, Cond.code yX1_asksIn cX1_asksIn 1 (some .int)]
def wsX3_minutesToFade_r2 : List Cond := [Cond.fieldLink RX1 47 "ConcertUsher$Hall" "sinceQuestion" "I", Cond.methodLink RX1 99 Lib.Math.max.name, Cond.static Lib.Math.max.name, Cond.initialized "java/lang/Math", Cond.code Lib.Math.max.name Lib.Math.max.code 2 (some .int), Cond.methodLink RX1 77 yX1_timeBetweenQuestions, Cond.instanceMethod yX1_timeBetweenQuestions, Cond.selects RX1 yX1_timeBetweenQuestions yX1_timeBetweenQuestions, Cond.code yX1_timeBetweenQuestions cX1_timeBetweenQuestions 1 (some .int), Cond.fieldLink RX1 41 "ConcertUsher$Hall" "asking" "I", Cond.methodLink RX1 84 yX1_chiefAsker, Cond.instanceMethod yX1_chiefAsker, Cond.selects RX1 yX1_chiefAsker yX1_chiefAsker, Cond.code yX1_chiefAsker cX1_chiefAsker 1 (some .int), Cond.fieldLink RX1 32 "ConcertUsher$Hall" "isSecondPresent" "Z", Cond.fieldLink RX1 29 "ConcertUsher$Hall" "isFirstPresent" "Z", Cond.methodLink RX1 63 yX1_isWantedAt, Cond.instanceMethod yX1_isWantedAt, Cond.selects RX1 yX1_isWantedAt yX1_isWantedAt, Cond.code yX1_isWantedAt cX1_isWantedAt 2 (some .boolean), Cond.fieldLink RX1 9 "ConcertUsher$Hall" "listeners" "[I"]
def wsX3_minutesToFade : List Cond := .code yX3_minutesToFade cX3_minutesToFade 3 (some .int) :: ((wsX3_minutesToFade_r1 ++ wsX3_minutesToFade_r2) ++ wsX30 ++ wsX10 ++ (vx_atS RX3 105 "java/lang/IndexOutOfBoundsException" ["java/lang/RuntimeException", "java/lang/Exception"]).filter goodWord)
def wsX3_minutesToQuestion : List Cond := .code yX3_minutesToQuestion cX3_minutesToQuestion 1 (some .int) :: ([.fieldLink RX3 12 "ConcertUsher" "hall" "LConcertUsher$Hall;", .methodLink RX3 152 yX1_asksIn, .instanceMethod yX1_asksIn, .selects RX1 yX1_asksIn yX1_asksIn, .initialized RX1, .code yX1_asksIn cX1_asksIn 1 (some .int), .fieldLink RX1 47 "ConcertUsher$Hall" "sinceQuestion" "I", .methodLink RX1 99 Lib.Math.max.name, .static Lib.Math.max.name, .initialized "java/lang/Math", .code Lib.Math.max.name Lib.Math.max.code 2 (some .int), .methodLink RX1 77 yX1_timeBetweenQuestions, .instanceMethod yX1_timeBetweenQuestions, .selects RX1 yX1_timeBetweenQuestions yX1_timeBetweenQuestions, .code yX1_timeBetweenQuestions cX1_timeBetweenQuestions 1 (some .int), .fieldLink RX1 41 "ConcertUsher$Hall" "asking" "I", .methodLink RX1 84 yX1_chiefAsker, .instanceMethod yX1_chiefAsker, .selects RX1 yX1_chiefAsker yX1_chiefAsker, .code yX1_chiefAsker cX1_chiefAsker 1 (some .int), .fieldLink RX1 32 "ConcertUsher$Hall" "isSecondPresent" "Z", .fieldLink RX1 29 "ConcertUsher$Hall" "isFirstPresent" "Z"] ++ wsX30 ++ wsX10)
def wsX3_disturbedAfter_r1 : List Cond := [Cond.fieldLink RX3 12 "ConcertUsher" "hall" "LConcertUsher$Hall;", Cond.methodLink RX3 34 yX3_checkConcert, Cond.static yX3_checkConcert, Cond.initialized RX3, Cond.code yX3_checkConcert cX3_checkConcert 1 none, Cond.classLink RX3 101 "java/lang/IndexOutOfBoundsException", Cond.initialized "java/lang/IndexOutOfBoundsException", Cond.methodLink RX3 129 yX3_checkMinutes, Cond.static yX3_checkMinutes, Cond.code yX3_checkMinutes cX3_checkMinutes 1 none, Cond.classLink RX3 82 "java/lang/IllegalArgumentException", Cond.initialized "java/lang/IllegalArgumentException", Cond.methodLink RX3 155 yX1_disturbedIn, Cond.instanceMethod yX1_disturbedIn, Cond.selects RX1 yX1_disturbedIn yX1_disturbedIn, Cond.initialized RX1, Cond.code yX1_disturbedIn cX1_disturbedIn 6 (some .int), Cond.fieldLink RX1 15 "ConcertUsher$Hall" "rests" "[I", Cond.static yX3_placeOf, Cond.code yX3_placeOf cX3_placeOf 2 (some .int), Cond.methodLink RX1 63 yX1_isWantedAt, Cond.instanceMethod yX1_isWantedAt, Cond.selects RX1 yX1_isWantedAt yX1_isWantedAt, Cond.code yX1_isWantedAt cX1_isWantedAt 2 (some .boolean)]
def wsX3_disturbedAfter_r2 : List Cond := [Cond.fieldLink RX1 9 "ConcertUsher$Hall" "listeners" "[I", Cond.methodLink RX1 107 yX1_isRowOpen, Cond.instanceMethod yX1_isRowOpen, Cond.selects RX1 yX1_isRowOpen yX1_isRowOpen, Cond.code yX1_isRowOpen cX1_isRowOpen 2 (some .boolean), Cond.fieldLink RX1 21 "ConcertUsher$Hall" "openRows" "I"]
def wsX3_disturbedAfter : List Cond := .code yX3_disturbedAfter cX3_disturbedAfter 3 (some .int) :: ((wsX3_disturbedAfter_r1 ++ wsX3_disturbedAfter_r2) ++ wsX30 ++ wsX10 ++ (vx_atS RX3 105 "java/lang/IndexOutOfBoundsException" ["java/lang/RuntimeException", "java/lang/Exception"]).filter goodWord ++ (vx_atS RX3 86 "java/lang/IllegalArgumentException" ["java/lang/RuntimeException", "java/lang/Exception"]).filter goodWord)
def wsX3_append : List Cond := .code yX3_append cX3_append 2 (some .int) :: ([.classLink RX3 82 "java/lang/IllegalArgumentException", .initialized "java/lang/IllegalArgumentException", .classLink RX3 45 "java/lang/IllegalStateException", .initialized "java/lang/IllegalStateException", .fieldLink RX3 26 "ConcertUsher" "text" "LConcertUsher$EventText;", .fieldLink RX3 160 "ConcertUsher$EventText" "length" "I", .methodLink RX3 165 yX0_add, .instanceMethod yX0_add, .selects RX0 yX0_add yX0_add, .initialized RX0, .code yX0_add cX0_add 2 none, .fieldLink RX0 15 "ConcertUsher$EventText" "length" "I", .fieldLink RX0 9 "ConcertUsher$EventText" "signs" "[C"] ++ wsX30 ++ wsX00 ++ (vx_atS RX3 86 "java/lang/IllegalArgumentException" ["java/lang/RuntimeException", "java/lang/Exception"]).filter goodWord ++ (vx_atS RX3 49 "java/lang/IllegalStateException" ["java/lang/RuntimeException", "java/lang/Exception"]).filter goodWord)
def wsX3_clearText : List Cond := .code yX3_clearText cX3_clearText 2 (some .int) :: ([.fieldLink RX3 26 "ConcertUsher" "text" "LConcertUsher$EventText;", .fieldLink RX3 160 "ConcertUsher$EventText" "length" "I"] ++ wsX30 ++ wsX00)
def wsX3_firstError_r1 : List Cond := [Cond.fieldLink RX3 26 "ConcertUsher" "text" "LConcertUsher$EventText;", Cond.methodLink RX3 169 yX0_firstWrongSign, Cond.instanceMethod yX0_firstWrongSign, Cond.selects RX0 yX0_firstWrongSign yX0_firstWrongSign, Cond.initialized RX0, Cond.code yX0_firstWrongSign cX0_firstWrongSign 3 (some .int), Cond.fieldLink RX0 15 "ConcertUsher$EventText" "length" "I", Cond.methodLink RX0 19 yX0_signAt, Cond.instanceMethod yX0_signAt, Cond.selects RX0 yX0_signAt yX0_signAt, Cond.code yX0_signAt cX0_signAt 2 (some .char), Cond.fieldLink RX0 9 "ConcertUsher$EventText" "signs" "[C", Cond.methodLink RX0 27 yX0_stateAfter, Cond.static yX0_stateAfter, Cond.code yX0_stateAfter cX0_stateAfter 2 (some .int), Cond.methodLink RX0 31 yX0_stateAfterLetter, Cond.static yX0_stateAfterLetter, Cond.code yX0_stateAfterLetter cX0_stateAfterLetter 1 (some .int), Cond.methodLink RX0 35 yX0_isBetween, Cond.static yX0_isBetween, Cond.code yX0_isBetween cX0_isBetween 3 (some .boolean), Cond.methodLink RX0 39 yX0_stateAfterFirstDigit, Cond.static yX0_stateAfterFirstDigit, Cond.code yX0_stateAfterFirstDigit cX0_stateAfterFirstDigit 1 (some .int)]
def wsX3_firstError_r2 : List Cond := [Cond.methodLink RX0 42 yX0_stateAfterEvent, Cond.static yX0_stateAfterEvent, Cond.code yX0_stateAfterEvent cX0_stateAfterEvent 1 (some .int)]
def wsX3_firstError : List Cond := .code yX3_firstError cX3_firstError 1 (some .int) :: ((wsX3_firstError_r1 ++ wsX3_firstError_r2) ++ wsX30 ++ wsX00)
def wsX3_seatIfRoom : List Cond := .code yX3_seatIfRoom cX3_seatIfRoom 2 (some .boolean) :: ([.fieldLink RX3 12 "ConcertUsher" "hall" "LConcertUsher$Hall;", .methodLink RX3 41 yX1_hasRoom, .instanceMethod yX1_hasRoom, .selects RX1 yX1_hasRoom yX1_hasRoom, .initialized RX1, .code yX1_hasRoom cX1_hasRoom 2 (some .boolean), .fieldLink RX1 9 "ConcertUsher$Hall" "listeners" "[I", .methodLink RX3 56 yX1_seat, .instanceMethod yX1_seat, .selects RX1 yX1_seat yX1_seat, .code yX1_seat cX1_seat 2 none, .methodLink RX1 56 yX1_hearCall, .instanceMethod yX1_hearCall, .selects RX1 yX1_hearCall yX1_hearCall, .code yX1_hearCall cX1_hearCall 2 none, .fieldLink RX1 15 "ConcertUsher$Hall" "rests" "[I", .fieldLink RX1 35 "ConcertUsher$Hall" "fading" "I", .fieldLink RX1 18 "ConcertUsher$Hall" "counts" "[I"] ++ wsX30 ++ wsX10)
def wsX3_unseatIfWanted_r1 : List Cond := [Cond.fieldLink RX3 12 "ConcertUsher" "hall" "LConcertUsher$Hall;", Cond.methodLink RX3 63 yX1_isWantedAt, Cond.instanceMethod yX1_isWantedAt, Cond.selects RX1 yX1_isWantedAt yX1_isWantedAt, Cond.initialized RX1, Cond.code yX1_isWantedAt cX1_isWantedAt 2 (some .boolean), Cond.fieldLink RX1 9 "ConcertUsher$Hall" "listeners" "[I", Cond.methodLink RX3 68 yX1_unseat, Cond.instanceMethod yX1_unseat, Cond.selects RX1 yX1_unseat yX1_unseat, Cond.code yX1_unseat cX1_unseat 3 none, Cond.methodLink RX1 60 yX1_hearFarewell, Cond.instanceMethod yX1_hearFarewell, Cond.selects RX1 yX1_hearFarewell yX1_hearFarewell, Cond.code yX1_hearFarewell cX1_hearFarewell 2 none, Cond.fieldLink RX1 25 "ConcertUsher$Hall" "isQuick" "Z", Cond.fieldLink RX1 15 "ConcertUsher$Hall" "rests" "[I", Cond.fieldLink RX1 38 "ConcertUsher$Hall" "patience" "I", Cond.methodLink RX1 63 yX1_isWantedAt, Cond.methodLink RX1 67 yX1_askRow, Cond.instanceMethod yX1_askRow, Cond.selects RX1 yX1_askRow yX1_askRow, Cond.code yX1_askRow cX1_askRow 2 none, Cond.fieldLink RX1 18 "ConcertUsher$Hall" "counts" "[I"]
def wsX3_unseatIfWanted_r2 : List Cond := [Cond.methodLink RX1 56 yX1_hearCall, Cond.instanceMethod yX1_hearCall, Cond.selects RX1 yX1_hearCall yX1_hearCall, Cond.code yX1_hearCall cX1_hearCall 2 none, Cond.fieldLink RX1 35 "ConcertUsher$Hall" "fading" "I"]
def wsX3_unseatIfWanted : List Cond := .code yX3_unseatIfWanted cX3_unseatIfWanted 3 (some .boolean) :: ((wsX3_unseatIfWanted_r1 ++ wsX3_unseatIfWanted_r2) ++ wsX30 ++ wsX10)
def wsX3_doEvent_r1 : List Cond := [Cond.fieldLink RX3 26 "ConcertUsher" "text" "LConcertUsher$EventText;", Cond.fieldLink RX3 12 "ConcertUsher" "hall" "LConcertUsher$Hall;", Cond.methodLink RX3 212 yX0_digitAt, Cond.instanceMethod yX0_digitAt, Cond.selects RX0 yX0_digitAt yX0_digitAt, Cond.initialized RX0, Cond.code yX0_digitAt cX0_digitAt 2 (some .int), Cond.methodLink RX0 19 yX0_signAt, Cond.instanceMethod yX0_signAt, Cond.selects RX0 yX0_signAt yX0_signAt, Cond.code yX0_signAt cX0_signAt 2 (some .char), Cond.fieldLink RX0 15 "ConcertUsher$EventText" "length" "I", Cond.fieldLink RX0 9 "ConcertUsher$EventText" "signs" "[C", Cond.methodLink RX3 215 yX0_signAt, Cond.methodLink RX3 37 yX3_placeOf, Cond.static yX3_placeOf, Cond.initialized RX3, Cond.code yX3_placeOf cX3_placeOf 2 (some .int), Cond.methodLink RX3 219 yX3_seatIfRoom, Cond.instanceMethod yX3_seatIfRoom, Cond.selects RX3 yX3_seatIfRoom yX3_seatIfRoom, Cond.code yX3_seatIfRoom cX3_seatIfRoom 2 (some .boolean), Cond.methodLink RX3 41 yX1_hasRoom, Cond.instanceMethod yX1_hasRoom]
def wsX3_doEvent_r2 : List Cond := [Cond.selects RX1 yX1_hasRoom yX1_hasRoom, Cond.initialized RX1, Cond.code yX1_hasRoom cX1_hasRoom 2 (some .boolean), Cond.fieldLink RX1 9 "ConcertUsher$Hall" "listeners" "[I", Cond.methodLink RX3 56 yX1_seat, Cond.instanceMethod yX1_seat, Cond.selects RX1 yX1_seat yX1_seat, Cond.code yX1_seat cX1_seat 2 none, Cond.methodLink RX1 56 yX1_hearCall, Cond.instanceMethod yX1_hearCall, Cond.selects RX1 yX1_hearCall yX1_hearCall, Cond.code yX1_hearCall cX1_hearCall 2 none, Cond.fieldLink RX1 15 "ConcertUsher$Hall" "rests" "[I", Cond.fieldLink RX1 35 "ConcertUsher$Hall" "fading" "I", Cond.fieldLink RX1 18 "ConcertUsher$Hall" "counts" "[I", Cond.methodLink RX3 222 yX3_unseatIfWanted, Cond.instanceMethod yX3_unseatIfWanted, Cond.selects RX3 yX3_unseatIfWanted yX3_unseatIfWanted, Cond.code yX3_unseatIfWanted cX3_unseatIfWanted 3 (some .boolean), Cond.methodLink RX3 63 yX1_isWantedAt, Cond.instanceMethod yX1_isWantedAt, Cond.selects RX1 yX1_isWantedAt yX1_isWantedAt, Cond.code yX1_isWantedAt cX1_isWantedAt 2 (some .boolean), Cond.methodLink RX3 68 yX1_unseat]
def wsX3_doEvent_r3 : List Cond := [Cond.instanceMethod yX1_unseat, Cond.selects RX1 yX1_unseat yX1_unseat, Cond.code yX1_unseat cX1_unseat 3 none, Cond.methodLink RX1 60 yX1_hearFarewell, Cond.instanceMethod yX1_hearFarewell, Cond.selects RX1 yX1_hearFarewell yX1_hearFarewell, Cond.code yX1_hearFarewell cX1_hearFarewell 2 none, Cond.fieldLink RX1 25 "ConcertUsher$Hall" "isQuick" "Z", Cond.fieldLink RX1 38 "ConcertUsher$Hall" "patience" "I", Cond.methodLink RX1 63 yX1_isWantedAt, Cond.methodLink RX1 67 yX1_askRow, Cond.instanceMethod yX1_askRow, Cond.selects RX1 yX1_askRow yX1_askRow, Cond.code yX1_askRow cX1_askRow 2 none, Cond.methodLink RX3 135 yX1_perform, Cond.instanceMethod yX1_perform, Cond.selects RX1 yX1_perform yX1_perform, Cond.code yX1_perform cX1_perform 4 (some .int), Cond.methodLink RX1 87 yX1_rowsThatGet, Cond.instanceMethod yX1_rowsThatGet, Cond.selects RX1 yX1_rowsThatGet yX1_rowsThatGet, Cond.code yX1_rowsThatGet cX1_rowsThatGet 4 (some .int), Cond.fieldLink RX1 21 "ConcertUsher$Hall" "openRows" "I", Cond.methodLink RX1 91 yX1_rowsThatWant]
def wsX3_doEvent_r4 : List Cond := [Cond.instanceMethod yX1_rowsThatWant, Cond.selects RX1 yX1_rowsThatWant yX1_rowsThatWant, Cond.code yX1_rowsThatWant cX1_rowsThatWant 4 (some .int), Cond.methodLink RX1 94 yJ6_bitCount_0f7a4, Cond.static yJ6_bitCount_0f7a4, Cond.initialized RJ6, Cond.code yJ6_bitCount_0f7a4 cJ6_bitCount_0f7a4 1 (some .int), Cond.constant RJ6 265 (1431655765), Cond.constant RJ6 266 (858993459), Cond.constant RJ6 267 (252645135), Cond.methodLink RX3 226 yX0_numberAt, Cond.instanceMethod yX0_numberAt, Cond.selects RX0 yX0_numberAt yX0_numberAt, Cond.code yX0_numberAt cX0_numberAt 3 (some .int), Cond.methodLink RX0 23 yX0_digitAt, Cond.methodLink RX3 132 yX1_letPass, Cond.instanceMethod yX1_letPass, Cond.selects RX1 yX1_letPass yX1_letPass, Cond.code yX1_letPass cX1_letPass 4 (some .int), Cond.fieldLink RX1 44 "ConcertUsher$Hall" "minutes" "I", Cond.fieldLink RX1 47 "ConcertUsher$Hall" "sinceQuestion" "I", Cond.methodLink RX1 74 yX1_fadeEntries, Cond.instanceMethod yX1_fadeEntries, Cond.selects RX1 yX1_fadeEntries yX1_fadeEntries]
def wsX3_doEvent_r5 : List Cond := [Cond.code yX1_fadeEntries cX1_fadeEntries 2 none, Cond.methodLink RX1 77 yX1_timeBetweenQuestions, Cond.instanceMethod yX1_timeBetweenQuestions, Cond.selects RX1 yX1_timeBetweenQuestions yX1_timeBetweenQuestions, Cond.code yX1_timeBetweenQuestions cX1_timeBetweenQuestions 1 (some .int), Cond.fieldLink RX1 41 "ConcertUsher$Hall" "asking" "I", Cond.methodLink RX1 84 yX1_chiefAsker, Cond.instanceMethod yX1_chiefAsker, Cond.selects RX1 yX1_chiefAsker yX1_chiefAsker, Cond.code yX1_chiefAsker cX1_chiefAsker 1 (some .int), Cond.fieldLink RX1 32 "ConcertUsher$Hall" "isSecondPresent" "Z", Cond.fieldLink RX1 29 "ConcertUsher$Hall" "isFirstPresent" "Z", Cond.methodLink RX1 81 yX1_askAllRows, Cond.instanceMethod yX1_askAllRows, Cond.selects RX1 yX1_askAllRows yX1_askAllRows, Cond.code yX1_askAllRows cX1_askAllRows 2 none, Cond.methodLink RX3 75 yX1_turnRow, Cond.instanceMethod yX1_turnRow, Cond.selects RX1 yX1_turnRow yX1_turnRow, Cond.code yX1_turnRow cX1_turnRow 2 none]
def wsX3_doEvent : List Cond := .code yX3_doEvent cX3_doEvent 3 (some .boolean) :: ((wsX3_doEvent_r1 ++ (wsX3_doEvent_r2 ++ (wsX3_doEvent_r3 ++ (wsX3_doEvent_r4 ++ wsX3_doEvent_r5)))) ++ wsX30 ++ wsX00 ++ wsX10)
def wsX3_doEvents_r1 : List Cond := [Cond.fieldLink RX3 26 "ConcertUsher" "text" "LConcertUsher$EventText;", Cond.fieldLink RX3 160 "ConcertUsher$EventText" "length" "I", Cond.methodLink RX3 206 yX0_startsEvent, Cond.instanceMethod yX0_startsEvent, Cond.selects RX0 yX0_startsEvent yX0_startsEvent, Cond.initialized RX0, Cond.code yX0_startsEvent cX0_startsEvent 2 (some .boolean), Cond.methodLink RX0 19 yX0_signAt, Cond.instanceMethod yX0_signAt, Cond.selects RX0 yX0_signAt yX0_signAt, Cond.code yX0_signAt cX0_signAt 2 (some .char), Cond.fieldLink RX0 15 "ConcertUsher$EventText" "length" "I", Cond.fieldLink RX0 9 "ConcertUsher$EventText" "signs" "[C", Cond.methodLink RX3 209 yX3_doEvent, Cond.instanceMethod yX3_doEvent, Cond.selects RX3 yX3_doEvent yX3_doEvent, Cond.initialized RX3, Cond.code yX3_doEvent cX3_doEvent 3 (some .boolean), Cond.fieldLink RX3 12 "ConcertUsher" "hall" "LConcertUsher$Hall;", Cond.methodLink RX3 212 yX0_digitAt, Cond.instanceMethod yX0_digitAt, Cond.selects RX0 yX0_digitAt yX0_digitAt, Cond.code yX0_digitAt cX0_digitAt 2 (some .int), Cond.methodLink RX3 215 yX0_signAt]
def wsX3_doEvents_r2 : List Cond := [Cond.methodLink RX3 37 yX3_placeOf, Cond.static yX3_placeOf, Cond.code yX3_placeOf cX3_placeOf 2 (some .int), Cond.methodLink RX3 219 yX3_seatIfRoom, Cond.instanceMethod yX3_seatIfRoom, Cond.selects RX3 yX3_seatIfRoom yX3_seatIfRoom, Cond.code yX3_seatIfRoom cX3_seatIfRoom 2 (some .boolean), Cond.methodLink RX3 41 yX1_hasRoom, Cond.instanceMethod yX1_hasRoom, Cond.selects RX1 yX1_hasRoom yX1_hasRoom, Cond.initialized RX1, Cond.code yX1_hasRoom cX1_hasRoom 2 (some .boolean), Cond.fieldLink RX1 9 "ConcertUsher$Hall" "listeners" "[I", Cond.methodLink RX3 56 yX1_seat, Cond.instanceMethod yX1_seat, Cond.selects RX1 yX1_seat yX1_seat, Cond.code yX1_seat cX1_seat 2 none, Cond.methodLink RX1 56 yX1_hearCall, Cond.instanceMethod yX1_hearCall, Cond.selects RX1 yX1_hearCall yX1_hearCall, Cond.code yX1_hearCall cX1_hearCall 2 none, Cond.fieldLink RX1 15 "ConcertUsher$Hall" "rests" "[I", Cond.fieldLink RX1 35 "ConcertUsher$Hall" "fading" "I", Cond.fieldLink RX1 18 "ConcertUsher$Hall" "counts" "[I"]
def wsX3_doEvents_r3 : List Cond := [Cond.methodLink RX3 222 yX3_unseatIfWanted, Cond.instanceMethod yX3_unseatIfWanted, Cond.selects RX3 yX3_unseatIfWanted yX3_unseatIfWanted, Cond.code yX3_unseatIfWanted cX3_unseatIfWanted 3 (some .boolean), Cond.methodLink RX3 63 yX1_isWantedAt, Cond.instanceMethod yX1_isWantedAt, Cond.selects RX1 yX1_isWantedAt yX1_isWantedAt, Cond.code yX1_isWantedAt cX1_isWantedAt 2 (some .boolean), Cond.methodLink RX3 68 yX1_unseat, Cond.instanceMethod yX1_unseat, Cond.selects RX1 yX1_unseat yX1_unseat, Cond.code yX1_unseat cX1_unseat 3 none, Cond.methodLink RX1 60 yX1_hearFarewell, Cond.instanceMethod yX1_hearFarewell, Cond.selects RX1 yX1_hearFarewell yX1_hearFarewell, Cond.code yX1_hearFarewell cX1_hearFarewell 2 none, Cond.fieldLink RX1 25 "ConcertUsher$Hall" "isQuick" "Z", Cond.fieldLink RX1 38 "ConcertUsher$Hall" "patience" "I", Cond.methodLink RX1 63 yX1_isWantedAt, Cond.methodLink RX1 67 yX1_askRow, Cond.instanceMethod yX1_askRow, Cond.selects RX1 yX1_askRow yX1_askRow, Cond.code yX1_askRow cX1_askRow 2 none, Cond.methodLink RX3 135 yX1_perform]
def wsX3_doEvents_r4 : List Cond := [Cond.instanceMethod yX1_perform, Cond.selects RX1 yX1_perform yX1_perform, Cond.code yX1_perform cX1_perform 4 (some .int), Cond.methodLink RX1 87 yX1_rowsThatGet, Cond.instanceMethod yX1_rowsThatGet, Cond.selects RX1 yX1_rowsThatGet yX1_rowsThatGet, Cond.code yX1_rowsThatGet cX1_rowsThatGet 4 (some .int), Cond.fieldLink RX1 21 "ConcertUsher$Hall" "openRows" "I", Cond.methodLink RX1 91 yX1_rowsThatWant, Cond.instanceMethod yX1_rowsThatWant, Cond.selects RX1 yX1_rowsThatWant yX1_rowsThatWant, Cond.code yX1_rowsThatWant cX1_rowsThatWant 4 (some .int), Cond.methodLink RX1 94 yJ6_bitCount_0f7a4, Cond.static yJ6_bitCount_0f7a4, Cond.initialized RJ6, Cond.code yJ6_bitCount_0f7a4 cJ6_bitCount_0f7a4 1 (some .int), Cond.constant RJ6 265 (1431655765), Cond.constant RJ6 266 (858993459), Cond.constant RJ6 267 (252645135), Cond.methodLink RX3 226 yX0_numberAt, Cond.instanceMethod yX0_numberAt, Cond.selects RX0 yX0_numberAt yX0_numberAt, Cond.code yX0_numberAt cX0_numberAt 3 (some .int), Cond.methodLink RX0 23 yX0_digitAt]
def wsX3_doEvents_r5 : List Cond := [Cond.methodLink RX3 132 yX1_letPass, Cond.instanceMethod yX1_letPass, Cond.selects RX1 yX1_letPass yX1_letPass, Cond.code yX1_letPass cX1_letPass 4 (some .int), Cond.fieldLink RX1 44 "ConcertUsher$Hall" "minutes" "I", Cond.fieldLink RX1 47 "ConcertUsher$Hall" "sinceQuestion" "I", Cond.methodLink RX1 74 yX1_fadeEntries, Cond.instanceMethod yX1_fadeEntries, Cond.selects RX1 yX1_fadeEntries yX1_fadeEntries, Cond.code yX1_fadeEntries cX1_fadeEntries 2 none, Cond.methodLink RX1 77 yX1_timeBetweenQuestions, Cond.instanceMethod yX1_timeBetweenQuestions, Cond.selects RX1 yX1_timeBetweenQuestions yX1_timeBetweenQuestions, Cond.code yX1_timeBetweenQuestions cX1_timeBetweenQuestions 1 (some .int), Cond.fieldLink RX1 41 "ConcertUsher$Hall" "asking" "I", Cond.methodLink RX1 84 yX1_chiefAsker, Cond.instanceMethod yX1_chiefAsker, Cond.selects RX1 yX1_chiefAsker yX1_chiefAsker, Cond.code yX1_chiefAsker cX1_chiefAsker 1 (some .int), Cond.fieldLink RX1 32 "ConcertUsher$Hall" "isSecondPresent" "Z", Cond.fieldLink RX1 29 "ConcertUsher$Hall" "isFirstPresent" "Z", Cond.methodLink RX1 81 yX1_askAllRows, Cond.instanceMethod yX1_askAllRows, Cond.selects RX1 yX1_askAllRows yX1_askAllRows]
def wsX3_doEvents_r6 : List Cond := [Cond.code yX1_askAllRows cX1_askAllRows 2 none, Cond.methodLink RX3 75 yX1_turnRow, Cond.instanceMethod yX1_turnRow, Cond.selects RX1 yX1_turnRow yX1_turnRow, Cond.code yX1_turnRow cX1_turnRow 2 none]
def wsX3_doEvents : List Cond := .code yX3_doEvents cX3_doEvents 3 (some .int) :: ((wsX3_doEvents_r1 ++ (wsX3_doEvents_r2 ++ (wsX3_doEvents_r3 ++ (wsX3_doEvents_r4 ++ (wsX3_doEvents_r5 ++ wsX3_doEvents_r6))))) ++ wsX30 ++ wsX00 ++ wsX10)
def wsX3_run_r1 : List Cond := [Cond.classLink RX3 82 "java/lang/IllegalArgumentException", Cond.initialized "java/lang/IllegalArgumentException", Cond.fieldLink RX3 26 "ConcertUsher" "text" "LConcertUsher$EventText;", Cond.fieldLink RX3 19 "ConcertUsher" "history" "LConcertUsher$History;", Cond.fieldLink RX3 12 "ConcertUsher" "hall" "LConcertUsher$Hall;", Cond.fieldLink RX3 160 "ConcertUsher$EventText" "length" "I", Cond.methodLink RX3 172 yX0_isComplete, Cond.instanceMethod yX0_isComplete, Cond.selects RX0 yX0_isComplete yX0_isComplete, Cond.initialized RX0, Cond.code yX0_isComplete cX0_isComplete 3 (some .boolean), Cond.fieldLink RX0 15 "ConcertUsher$EventText" "length" "I", Cond.methodLink RX0 19 yX0_signAt, Cond.instanceMethod yX0_signAt, Cond.selects RX0 yX0_signAt yX0_signAt, Cond.code yX0_signAt cX0_signAt 2 (some .char), Cond.fieldLink RX0 9 "ConcertUsher$EventText" "signs" "[C", Cond.methodLink RX0 27 yX0_stateAfter, Cond.static yX0_stateAfter, Cond.code yX0_stateAfter cX0_stateAfter 2 (some .int), Cond.methodLink RX0 31 yX0_stateAfterLetter, Cond.static yX0_stateAfterLetter, Cond.code yX0_stateAfterLetter cX0_stateAfterLetter 1 (some .int), Cond.methodLink RX0 35 yX0_isBetween]
def wsX3_run_r2 : List Cond := [Cond.static yX0_isBetween, Cond.code yX0_isBetween cX0_isBetween 3 (some .boolean), Cond.methodLink RX0 39 yX0_stateAfterFirstDigit, Cond.static yX0_stateAfterFirstDigit, Cond.code yX0_stateAfterFirstDigit cX0_stateAfterFirstDigit 1 (some .int), Cond.methodLink RX0 42 yX0_stateAfterEvent, Cond.static yX0_stateAfterEvent, Cond.code yX0_stateAfterEvent cX0_stateAfterEvent 1 (some .int), Cond.methodLink RX3 52 yX2_keep, Cond.instanceMethod yX2_keep, Cond.selects RX2 yX2_keep yX2_keep, Cond.initialized RX2, Cond.code yX2_keep cX2_keep 2 none, Cond.fieldLink RX2 21 "ConcertUsher$History" "size" "I", Cond.fieldLink RX2 17 "ConcertUsher$History" "oldest" "I", Cond.fieldLink RX2 11 "ConcertUsher$History" "halls" "[LConcertUsher$Hall;", Cond.methodLink RX2 25 yX1_copyFrom, Cond.instanceMethod yX1_copyFrom, Cond.selects RX1 yX1_copyFrom yX1_copyFrom, Cond.initialized RX1, Cond.code yX1_copyFrom cX1_copyFrom 2 none, Cond.fieldLink RX1 9 "ConcertUsher$Hall" "listeners" "[I", Cond.methodLink RX1 50 arraycopyName, Cond.native arraycopyName]
def wsX3_run_r3 : List Cond := [Cond.static arraycopyName, Cond.initialized "java/lang/System", Cond.fieldLink RX1 15 "ConcertUsher$Hall" "rests" "[I", Cond.fieldLink RX1 18 "ConcertUsher$Hall" "counts" "[I", Cond.fieldLink RX1 21 "ConcertUsher$Hall" "openRows" "I", Cond.fieldLink RX1 25 "ConcertUsher$Hall" "isQuick" "Z", Cond.fieldLink RX1 29 "ConcertUsher$Hall" "isFirstPresent" "Z", Cond.fieldLink RX1 32 "ConcertUsher$Hall" "isSecondPresent" "Z", Cond.fieldLink RX1 35 "ConcertUsher$Hall" "fading" "I", Cond.fieldLink RX1 38 "ConcertUsher$Hall" "patience" "I", Cond.fieldLink RX1 41 "ConcertUsher$Hall" "asking" "I", Cond.fieldLink RX1 44 "ConcertUsher$Hall" "minutes" "I", Cond.fieldLink RX1 47 "ConcertUsher$Hall" "sinceQuestion" "I", Cond.methodLink RX3 178 yX3_doEvents, Cond.instanceMethod yX3_doEvents, Cond.selects RX3 yX3_doEvents yX3_doEvents, Cond.initialized RX3, Cond.code yX3_doEvents cX3_doEvents 3 (some .int), Cond.methodLink RX3 206 yX0_startsEvent, Cond.instanceMethod yX0_startsEvent, Cond.selects RX0 yX0_startsEvent yX0_startsEvent, Cond.code yX0_startsEvent cX0_startsEvent 2 (some .boolean), Cond.methodLink RX3 209 yX3_doEvent, Cond.instanceMethod yX3_doEvent]
def wsX3_run_r4 : List Cond := [Cond.selects RX3 yX3_doEvent yX3_doEvent, Cond.code yX3_doEvent cX3_doEvent 3 (some .boolean), Cond.methodLink RX3 212 yX0_digitAt, Cond.instanceMethod yX0_digitAt, Cond.selects RX0 yX0_digitAt yX0_digitAt, Cond.code yX0_digitAt cX0_digitAt 2 (some .int), Cond.methodLink RX3 215 yX0_signAt, Cond.methodLink RX3 37 yX3_placeOf, Cond.static yX3_placeOf, Cond.code yX3_placeOf cX3_placeOf 2 (some .int), Cond.methodLink RX3 219 yX3_seatIfRoom, Cond.instanceMethod yX3_seatIfRoom, Cond.selects RX3 yX3_seatIfRoom yX3_seatIfRoom, Cond.code yX3_seatIfRoom cX3_seatIfRoom 2 (some .boolean), Cond.methodLink RX3 41 yX1_hasRoom, Cond.instanceMethod yX1_hasRoom, Cond.selects RX1 yX1_hasRoom yX1_hasRoom, Cond.code yX1_hasRoom cX1_hasRoom 2 (some .boolean), Cond.methodLink RX3 56 yX1_seat, Cond.instanceMethod yX1_seat, Cond.selects RX1 yX1_seat yX1_seat, Cond.code yX1_seat cX1_seat 2 none, Cond.methodLink RX1 56 yX1_hearCall, Cond.instanceMethod yX1_hearCall]
def wsX3_run_r5 : List Cond := [Cond.selects RX1 yX1_hearCall yX1_hearCall, Cond.code yX1_hearCall cX1_hearCall 2 none, Cond.methodLink RX3 222 yX3_unseatIfWanted, Cond.instanceMethod yX3_unseatIfWanted, Cond.selects RX3 yX3_unseatIfWanted yX3_unseatIfWanted, Cond.code yX3_unseatIfWanted cX3_unseatIfWanted 3 (some .boolean), Cond.methodLink RX3 63 yX1_isWantedAt, Cond.instanceMethod yX1_isWantedAt, Cond.selects RX1 yX1_isWantedAt yX1_isWantedAt, Cond.code yX1_isWantedAt cX1_isWantedAt 2 (some .boolean), Cond.methodLink RX3 68 yX1_unseat, Cond.instanceMethod yX1_unseat, Cond.selects RX1 yX1_unseat yX1_unseat, Cond.code yX1_unseat cX1_unseat 3 none, Cond.methodLink RX1 60 yX1_hearFarewell, Cond.instanceMethod yX1_hearFarewell, Cond.selects RX1 yX1_hearFarewell yX1_hearFarewell, Cond.code yX1_hearFarewell cX1_hearFarewell 2 none, Cond.methodLink RX1 63 yX1_isWantedAt, Cond.methodLink RX1 67 yX1_askRow, Cond.instanceMethod yX1_askRow, Cond.selects RX1 yX1_askRow yX1_askRow, Cond.code yX1_askRow cX1_askRow 2 none, Cond.methodLink RX3 135 yX1_perform]
def wsX3_run_r6 : List Cond := [Cond.instanceMethod yX1_perform, Cond.selects RX1 yX1_perform yX1_perform, Cond.code yX1_perform cX1_perform 4 (some .int), Cond.methodLink RX1 87 yX1_rowsThatGet, Cond.instanceMethod yX1_rowsThatGet, Cond.selects RX1 yX1_rowsThatGet yX1_rowsThatGet, Cond.code yX1_rowsThatGet cX1_rowsThatGet 4 (some .int), Cond.methodLink RX1 91 yX1_rowsThatWant, Cond.instanceMethod yX1_rowsThatWant, Cond.selects RX1 yX1_rowsThatWant yX1_rowsThatWant, Cond.code yX1_rowsThatWant cX1_rowsThatWant 4 (some .int), Cond.methodLink RX1 94 yJ6_bitCount_0f7a4, Cond.static yJ6_bitCount_0f7a4, Cond.initialized RJ6, Cond.code yJ6_bitCount_0f7a4 cJ6_bitCount_0f7a4 1 (some .int), Cond.constant RJ6 265 (1431655765), Cond.constant RJ6 266 (858993459), Cond.constant RJ6 267 (252645135), Cond.methodLink RX3 226 yX0_numberAt, Cond.instanceMethod yX0_numberAt, Cond.selects RX0 yX0_numberAt yX0_numberAt, Cond.code yX0_numberAt cX0_numberAt 3 (some .int), Cond.methodLink RX0 23 yX0_digitAt, Cond.methodLink RX3 132 yX1_letPass]
def wsX3_run_r7 : List Cond := [Cond.instanceMethod yX1_letPass, Cond.selects RX1 yX1_letPass yX1_letPass, Cond.code yX1_letPass cX1_letPass 4 (some .int), Cond.methodLink RX1 74 yX1_fadeEntries, Cond.instanceMethod yX1_fadeEntries, Cond.selects RX1 yX1_fadeEntries yX1_fadeEntries, Cond.code yX1_fadeEntries cX1_fadeEntries 2 none, Cond.methodLink RX1 77 yX1_timeBetweenQuestions, Cond.instanceMethod yX1_timeBetweenQuestions, Cond.selects RX1 yX1_timeBetweenQuestions yX1_timeBetweenQuestions, Cond.code yX1_timeBetweenQuestions cX1_timeBetweenQuestions 1 (some .int), Cond.methodLink RX1 84 yX1_chiefAsker, Cond.instanceMethod yX1_chiefAsker, Cond.selects RX1 yX1_chiefAsker yX1_chiefAsker, Cond.code yX1_chiefAsker cX1_chiefAsker 1 (some .int), Cond.methodLink RX1 81 yX1_askAllRows, Cond.instanceMethod yX1_askAllRows, Cond.selects RX1 yX1_askAllRows yX1_askAllRows, Cond.code yX1_askAllRows cX1_askAllRows 2 none, Cond.methodLink RX3 75 yX1_turnRow, Cond.instanceMethod yX1_turnRow, Cond.selects RX1 yX1_turnRow yX1_turnRow, Cond.code yX1_turnRow cX1_turnRow 2 none]
def wsX3_run : List Cond := .code yX3_run cX3_run 2 (some .int) :: ((wsX3_run_r1 ++ (wsX3_run_r2 ++ (wsX3_run_r3 ++ (wsX3_run_r4 ++ (wsX3_run_r5 ++ (wsX3_run_r6 ++ wsX3_run_r7)))))) ++ wsX30 ++ wsX00 ++ wsX20 ++ wsX10 ++ (vx_atS RX3 86 "java/lang/IllegalArgumentException" ["java/lang/RuntimeException", "java/lang/Exception"]).filter goodWord)
def wsX3_undo_r1 : List Cond := [Cond.classLink RX3 45 "java/lang/IllegalStateException", Cond.initialized "java/lang/IllegalStateException", Cond.fieldLink RX3 19 "ConcertUsher" "history" "LConcertUsher$History;", Cond.fieldLink RX3 181 "ConcertUsher$History" "size" "I", Cond.fieldLink RX3 12 "ConcertUsher" "hall" "LConcertUsher$Hall;", Cond.methodLink RX3 186 yX2_takeBack, Cond.instanceMethod yX2_takeBack, Cond.selects RX2 yX2_takeBack yX2_takeBack, Cond.initialized RX2, Cond.code yX2_takeBack cX2_takeBack 2 none, Cond.fieldLink RX2 21 "ConcertUsher$History" "size" "I", Cond.fieldLink RX2 11 "ConcertUsher$History" "halls" "[LConcertUsher$Hall;", Cond.fieldLink RX2 17 "ConcertUsher$History" "oldest" "I", Cond.methodLink RX2 25 yX1_copyFrom, Cond.instanceMethod yX1_copyFrom, Cond.selects RX1 yX1_copyFrom yX1_copyFrom, Cond.initialized RX1, Cond.code yX1_copyFrom cX1_copyFrom 2 none, Cond.fieldLink RX1 9 "ConcertUsher$Hall" "listeners" "[I", Cond.methodLink RX1 50 arraycopyName, Cond.native arraycopyName, Cond.static arraycopyName, Cond.initialized "java/lang/System", Cond.fieldLink RX1 15 "ConcertUsher$Hall" "rests" "[I"]
def wsX3_undo_r2 : List Cond := [Cond.fieldLink RX1 18 "ConcertUsher$Hall" "counts" "[I", Cond.fieldLink RX1 21 "ConcertUsher$Hall" "openRows" "I", Cond.fieldLink RX1 25 "ConcertUsher$Hall" "isQuick" "Z", Cond.fieldLink RX1 29 "ConcertUsher$Hall" "isFirstPresent" "Z", Cond.fieldLink RX1 32 "ConcertUsher$Hall" "isSecondPresent" "Z", Cond.fieldLink RX1 35 "ConcertUsher$Hall" "fading" "I", Cond.fieldLink RX1 38 "ConcertUsher$Hall" "patience" "I", Cond.fieldLink RX1 41 "ConcertUsher$Hall" "asking" "I", Cond.fieldLink RX1 44 "ConcertUsher$Hall" "minutes" "I", Cond.fieldLink RX1 47 "ConcertUsher$Hall" "sinceQuestion" "I"]
def wsX3_undo : List Cond := .code yX3_undo cX3_undo 1 (some .int) :: ((wsX3_undo_r1 ++ wsX3_undo_r2) ++ wsX30 ++ wsX20 ++ wsX10 ++ (vx_atS RX3 49 "java/lang/IllegalStateException" ["java/lang/RuntimeException", "java/lang/Exception"]).filter goodWord)
def wsX3_savedStates : List Cond := .code yX3_savedStates cX3_savedStates 1 (some .int) :: ([.fieldLink RX3 19 "ConcertUsher" "history" "LConcertUsher$History;", .fieldLink RX3 181 "ConcertUsher$History" "size" "I"] ++ wsX30 ++ wsX20)
def wsX3_mix : List Cond := .code yX3_mix cX3_mix 3 (some .long) :: ([.constantLong RX3 198 (31)])
def wsX3_mixRow_r1 : List Cond := [Cond.fieldLink RX3 12 "ConcertUsher" "hall" "LConcertUsher$Hall;", Cond.fieldLink RX3 59 "ConcertUsher$Hall" "listeners" "[I", Cond.fieldLink RX3 116 "ConcertUsher$Hall" "rests" "[I", Cond.methodLink RX3 72 yX1_isRowOpen, Cond.instanceMethod yX1_isRowOpen, Cond.selects RX1 yX1_isRowOpen yX1_isRowOpen, Cond.initialized RX1, Cond.code yX1_isRowOpen cX1_isRowOpen 2 (some .boolean), Cond.fieldLink RX1 21 "ConcertUsher$Hall" "openRows" "I", Cond.methodLink RX3 191 yX3_mix, Cond.static yX3_mix, Cond.initialized RX3, Cond.code yX3_mix cX3_mix 3 (some .long), Cond.constantLong RX3 198 (31), Cond.methodLink RX3 37 yX3_placeOf, Cond.static yX3_placeOf, Cond.code yX3_placeOf cX3_placeOf 2 (some .int), Cond.methodLink RX3 149 yX1_fadesIn, Cond.instanceMethod yX1_fadesIn, Cond.selects RX1 yX1_fadesIn yX1_fadesIn, Cond.code yX1_fadesIn cX1_fadesIn 3 (some .int), Cond.fieldLink RX1 15 "ConcertUsher$Hall" "rests" "[I", Cond.fieldLink RX1 35 "ConcertUsher$Hall" "fading" "I", Cond.methodLink RX1 104 yX1_asksIn]
def wsX3_mixRow_r2 : List Cond := [Cond.instanceMethod yX1_asksIn, Cond.selects RX1 yX1_asksIn yX1_asksIn, Cond.code yX1_asksIn cX1_asksIn 1 (some .int), Cond.fieldLink RX1 47 "ConcertUsher$Hall" "sinceQuestion" "I", Cond.methodLink RX1 99 Lib.Math.max.name, Cond.static Lib.Math.max.name, Cond.initialized "java/lang/Math", Cond.code Lib.Math.max.name Lib.Math.max.code 2 (some .int), Cond.methodLink RX1 77 yX1_timeBetweenQuestions, Cond.instanceMethod yX1_timeBetweenQuestions, Cond.selects RX1 yX1_timeBetweenQuestions yX1_timeBetweenQuestions, Cond.code yX1_timeBetweenQuestions cX1_timeBetweenQuestions 1 (some .int), Cond.fieldLink RX1 41 "ConcertUsher$Hall" "asking" "I", Cond.methodLink RX1 84 yX1_chiefAsker, Cond.instanceMethod yX1_chiefAsker, Cond.selects RX1 yX1_chiefAsker yX1_chiefAsker, Cond.code yX1_chiefAsker cX1_chiefAsker 1 (some .int), Cond.fieldLink RX1 32 "ConcertUsher$Hall" "isSecondPresent" "Z", Cond.fieldLink RX1 29 "ConcertUsher$Hall" "isFirstPresent" "Z", Cond.methodLink RX1 63 yX1_isWantedAt, Cond.instanceMethod yX1_isWantedAt, Cond.selects RX1 yX1_isWantedAt yX1_isWantedAt, Cond.code yX1_isWantedAt cX1_isWantedAt 2 (some .boolean), Cond.fieldLink RX1 9 "ConcertUsher$Hall" "listeners" "[I"]
def wsX3_mixRow : List Cond := .code yX3_mixRow cX3_mixRow 8 (some .long) :: ((wsX3_mixRow_r1 ++ wsX3_mixRow_r2) ++ wsX30 ++ wsX10)
def wsX3_digest_r1 : List Cond := [Cond.constantLong RX3 189 (4701), Cond.fieldLink RX3 12 "ConcertUsher" "hall" "LConcertUsher$Hall;", Cond.fieldLink RX3 138 "ConcertUsher$Hall" "minutes" "I", Cond.fieldLink RX3 141 "ConcertUsher$Hall" "sinceQuestion" "I", Cond.fieldLink RX3 146 "ConcertUsher$Hall" "counts" "[I", Cond.methodLink RX3 191 yX3_mix, Cond.static yX3_mix, Cond.initialized RX3, Cond.code yX3_mix cX3_mix 3 (some .long), Cond.constantLong RX3 198 (31), Cond.methodLink RX3 112 yX1_chiefAsker, Cond.instanceMethod yX1_chiefAsker, Cond.selects RX1 yX1_chiefAsker yX1_chiefAsker, Cond.initialized RX1, Cond.code yX1_chiefAsker cX1_chiefAsker 1 (some .int), Cond.fieldLink RX1 32 "ConcertUsher$Hall" "isSecondPresent" "Z", Cond.fieldLink RX1 29 "ConcertUsher$Hall" "isFirstPresent" "Z", Cond.methodLink RX3 119 yX1_entriesInAll, Cond.instanceMethod yX1_entriesInAll, Cond.selects RX1 yX1_entriesInAll yX1_entriesInAll, Cond.code yX1_entriesInAll cX1_entriesInAll 3 (some .int), Cond.fieldLink RX1 15 "ConcertUsher$Hall" "rests" "[I", Cond.methodLink RX3 152 yX1_asksIn, Cond.instanceMethod yX1_asksIn]
def wsX3_digest_r2 : List Cond := [Cond.selects RX1 yX1_asksIn yX1_asksIn, Cond.code yX1_asksIn cX1_asksIn 1 (some .int), Cond.fieldLink RX1 47 "ConcertUsher$Hall" "sinceQuestion" "I", Cond.methodLink RX1 99 Lib.Math.max.name, Cond.static Lib.Math.max.name, Cond.initialized "java/lang/Math", Cond.code Lib.Math.max.name Lib.Math.max.code 2 (some .int), Cond.methodLink RX1 77 yX1_timeBetweenQuestions, Cond.instanceMethod yX1_timeBetweenQuestions, Cond.selects RX1 yX1_timeBetweenQuestions yX1_timeBetweenQuestions, Cond.code yX1_timeBetweenQuestions cX1_timeBetweenQuestions 1 (some .int), Cond.fieldLink RX1 41 "ConcertUsher$Hall" "asking" "I", Cond.methodLink RX1 84 yX1_chiefAsker, Cond.methodLink RX3 122 yX1_rowsThatGet, Cond.instanceMethod yX1_rowsThatGet, Cond.selects RX1 yX1_rowsThatGet yX1_rowsThatGet, Cond.code yX1_rowsThatGet cX1_rowsThatGet 4 (some .int), Cond.fieldLink RX1 21 "ConcertUsher$Hall" "openRows" "I", Cond.static yX3_placeOf, Cond.code yX3_placeOf cX3_placeOf 2 (some .int), Cond.methodLink RX3 126 yX1_rowsThatWant, Cond.instanceMethod yX1_rowsThatWant, Cond.selects RX1 yX1_rowsThatWant yX1_rowsThatWant, Cond.code yX1_rowsThatWant cX1_rowsThatWant 4 (some .int)]
def wsX3_digest_r3 : List Cond := [Cond.methodLink RX1 63 yX1_isWantedAt, Cond.instanceMethod yX1_isWantedAt, Cond.selects RX1 yX1_isWantedAt yX1_isWantedAt, Cond.code yX1_isWantedAt cX1_isWantedAt 2 (some .boolean), Cond.fieldLink RX1 9 "ConcertUsher$Hall" "listeners" "[I", Cond.methodLink RX3 195 yX3_mixRow, Cond.instanceMethod yX3_mixRow, Cond.selects RX3 yX3_mixRow yX3_mixRow, Cond.code yX3_mixRow cX3_mixRow 8 (some .long), Cond.fieldLink RX3 59 "ConcertUsher$Hall" "listeners" "[I", Cond.fieldLink RX3 116 "ConcertUsher$Hall" "rests" "[I", Cond.methodLink RX3 72 yX1_isRowOpen, Cond.instanceMethod yX1_isRowOpen, Cond.selects RX1 yX1_isRowOpen yX1_isRowOpen, Cond.code yX1_isRowOpen cX1_isRowOpen 2 (some .boolean), Cond.methodLink RX3 37 yX3_placeOf, Cond.methodLink RX3 149 yX1_fadesIn, Cond.instanceMethod yX1_fadesIn, Cond.selects RX1 yX1_fadesIn yX1_fadesIn, Cond.code yX1_fadesIn cX1_fadesIn 3 (some .int), Cond.fieldLink RX1 35 "ConcertUsher$Hall" "fading" "I", Cond.methodLink RX1 104 yX1_asksIn]
def wsX3_digest : List Cond := .code yX3_digest cX3_digest 4 (some .long) :: ((wsX3_digest_r1 ++ (wsX3_digest_r2 ++ wsX3_digest_r3)) ++ wsX30 ++ wsX10)
def wsX4_init : List Cond := .code yX4_init cX4_init 1 none :: ([.methodLink RX4 1 objectInit, .instanceMethod objectInit, .code objectInit ⟨#[0xb1]⟩ 1 none, .arrayClass .int, .fieldLink RX4 7 "ConcertUsherModel" "s" "[I", .fieldLink RX4 13 "ConcertUsherModel" "aside" "[I", .fieldLink RX4 16 "ConcertUsherModel" "saved" "[I", .fieldLink RX4 19 "ConcertUsherModel" "buffer" "[I", .fieldLink RX4 22 "ConcertUsherModel" "read" "[I", .fieldLink RX4 25 "ConcertUsherModel" "thrown" "I"] ++ wsX40)
def wsX4_thrown : List Cond := .code yX4_thrown cX4_thrown 1 (some .int) :: ([.fieldLink RX4 25 "ConcertUsherModel" "thrown" "I"] ++ wsX40)
def wsX4_in : List Cond := .code yX4_in cX4_in 3 (some .boolean) :: ([])
def wsX4_fails : List Cond := .code yX4_fails cX4_fails 2 (some .int) :: ([.fieldLink RX4 25 "ConcertUsherModel" "thrown" "I"] ++ wsX40)
def wsX4_isPair : List Cond := .code yX4_isPair cX4_isPair 2 (some .boolean) :: ([.methodLink RX4 29 yX4_in, .static yX4_in, .initialized RX4, .code yX4_in cX4_in 3 (some .boolean)])
def wsX4_isConcert : List Cond := .code yX4_isConcert cX4_isConcert 1 (some .boolean) :: ([.methodLink RX4 29 yX4_in, .static yX4_in, .initialized RX4, .code yX4_in cX4_in 3 (some .boolean)])
def wsX4_cellOf : List Cond := .code yX4_cellOf cX4_cellOf 2 (some .int) :: ([])
def wsX4_saves : List Cond := .code yX4_saves cX4_saves 2 none :: ([.fieldLink RX4 33 "ConcertUsherModel" "savedMany" "I", .fieldLink RX4 16 "ConcertUsherModel" "saved" "[I", .fieldLink RX4 7 "ConcertUsherModel" "s" "[I"] ++ wsX40)
def wsX4_putAside : List Cond := .code yX4_putAside cX4_putAside 2 none :: ([.fieldLink RX4 13 "ConcertUsherModel" "aside" "[I", .fieldLink RX4 7 "ConcertUsherModel" "s" "[I"] ++ wsX40)
def wsX4_takeBack : List Cond := .code yX4_takeBack cX4_takeBack 2 none :: ([.fieldLink RX4 7 "ConcertUsherModel" "s" "[I", .fieldLink RX4 13 "ConcertUsherModel" "aside" "[I"] ++ wsX40)
def wsX4_calls : List Cond := .code yX4_calls cX4_calls 2 none :: ([.fieldLink RX4 7 "ConcertUsherModel" "s" "[I"] ++ wsX40)
def wsX4_comes : List Cond := .code yX4_comes cX4_comes 2 (some .int) :: ([.fieldLink RX4 7 "ConcertUsherModel" "s" "[I", .methodLink RX4 36 yX4_calls, .instanceMethod yX4_calls, .selects RX4 yX4_calls yX4_calls, .initialized RX4, .code yX4_calls cX4_calls 2 none] ++ wsX40)
def wsX4_come_r1 : List Cond := [Cond.fieldLink RX4 25 "ConcertUsherModel" "thrown" "I", Cond.fieldLink RX4 7 "ConcertUsherModel" "s" "[I", Cond.methodLink RX4 40 yX4_isPair, Cond.static yX4_isPair, Cond.initialized RX4, Cond.code yX4_isPair cX4_isPair 2 (some .boolean), Cond.methodLink RX4 29 yX4_in, Cond.static yX4_in, Cond.code yX4_in cX4_in 3 (some .boolean), Cond.methodLink RX4 44 yX4_fails, Cond.instanceMethod yX4_fails, Cond.selects RX4 yX4_fails yX4_fails, Cond.code yX4_fails cX4_fails 2 (some .int), Cond.methodLink RX4 48 yX4_cellOf, Cond.static yX4_cellOf, Cond.code yX4_cellOf cX4_cellOf 2 (some .int), Cond.methodLink RX4 52 yX4_saves, Cond.instanceMethod yX4_saves, Cond.selects RX4 yX4_saves yX4_saves, Cond.code yX4_saves cX4_saves 2 none, Cond.fieldLink RX4 33 "ConcertUsherModel" "savedMany" "I", Cond.fieldLink RX4 16 "ConcertUsherModel" "saved" "[I", Cond.methodLink RX4 55 yX4_comes, Cond.instanceMethod yX4_comes]
def wsX4_come_r2 : List Cond := [Cond.selects RX4 yX4_comes yX4_comes, Cond.code yX4_comes cX4_comes 2 (some .int), Cond.methodLink RX4 36 yX4_calls, Cond.instanceMethod yX4_calls, Cond.selects RX4 yX4_calls yX4_calls, Cond.code yX4_calls cX4_calls 2 none]
def wsX4_come : List Cond := .code yX4_come cX4_come 3 (some .int) :: ((wsX4_come_r1 ++ wsX4_come_r2) ++ wsX40)
def wsX4_farewell : List Cond := .code yX4_farewell cX4_farewell 2 none :: ([.fieldLink RX4 7 "ConcertUsherModel" "s" "[I", .methodLink RX4 36 yX4_calls, .instanceMethod yX4_calls, .selects RX4 yX4_calls yX4_calls, .initialized RX4, .code yX4_calls cX4_calls 2 none] ++ wsX40)
def wsX4_leaves : List Cond := .code yX4_leaves cX4_leaves 3 (some .int) :: ([.fieldLink RX4 7 "ConcertUsherModel" "s" "[I", .methodLink RX4 58 yX4_farewell, .instanceMethod yX4_farewell, .selects RX4 yX4_farewell yX4_farewell, .initialized RX4, .code yX4_farewell cX4_farewell 2 none, .methodLink RX4 36 yX4_calls, .instanceMethod yX4_calls, .selects RX4 yX4_calls yX4_calls, .code yX4_calls cX4_calls 2 none] ++ wsX40)
def wsX4_leave_r1 : List Cond := [Cond.fieldLink RX4 25 "ConcertUsherModel" "thrown" "I", Cond.fieldLink RX4 7 "ConcertUsherModel" "s" "[I", Cond.methodLink RX4 40 yX4_isPair, Cond.static yX4_isPair, Cond.initialized RX4, Cond.code yX4_isPair cX4_isPair 2 (some .boolean), Cond.methodLink RX4 29 yX4_in, Cond.static yX4_in, Cond.code yX4_in cX4_in 3 (some .boolean), Cond.methodLink RX4 44 yX4_fails, Cond.instanceMethod yX4_fails, Cond.selects RX4 yX4_fails yX4_fails, Cond.code yX4_fails cX4_fails 2 (some .int), Cond.methodLink RX4 48 yX4_cellOf, Cond.static yX4_cellOf, Cond.code yX4_cellOf cX4_cellOf 2 (some .int), Cond.methodLink RX4 52 yX4_saves, Cond.instanceMethod yX4_saves, Cond.selects RX4 yX4_saves yX4_saves, Cond.code yX4_saves cX4_saves 2 none, Cond.fieldLink RX4 33 "ConcertUsherModel" "savedMany" "I", Cond.fieldLink RX4 16 "ConcertUsherModel" "saved" "[I", Cond.methodLink RX4 61 yX4_leaves, Cond.instanceMethod yX4_leaves]
def wsX4_leave_r2 : List Cond := [Cond.selects RX4 yX4_leaves yX4_leaves, Cond.code yX4_leaves cX4_leaves 3 (some .int), Cond.methodLink RX4 58 yX4_farewell, Cond.instanceMethod yX4_farewell, Cond.selects RX4 yX4_farewell yX4_farewell, Cond.code yX4_farewell cX4_farewell 2 none, Cond.methodLink RX4 36 yX4_calls, Cond.instanceMethod yX4_calls, Cond.selects RX4 yX4_calls yX4_calls, Cond.code yX4_calls cX4_calls 2 none]
def wsX4_leave : List Cond := .code yX4_leave cX4_leave 4 (some .int) :: ((wsX4_leave_r1 ++ wsX4_leave_r2) ++ wsX40)
def wsX4_listeners : List Cond := .code yX4_listeners cX4_listeners 3 (some .int) :: ([.fieldLink RX4 25 "ConcertUsherModel" "thrown" "I", .fieldLink RX4 7 "ConcertUsherModel" "s" "[I", .methodLink RX4 40 yX4_isPair, .static yX4_isPair, .initialized RX4, .code yX4_isPair cX4_isPair 2 (some .boolean), .methodLink RX4 29 yX4_in, .static yX4_in, .code yX4_in cX4_in 3 (some .boolean), .methodLink RX4 48 yX4_cellOf, .static yX4_cellOf, .code yX4_cellOf cX4_cellOf 2 (some .int), .methodLink RX4 44 yX4_fails, .instanceMethod yX4_fails, .selects RX4 yX4_fails yX4_fails, .code yX4_fails cX4_fails 2 (some .int)] ++ wsX40)
def wsX4_setOpen : List Cond := .code yX4_setOpen cX4_setOpen 4 (some .boolean) :: ([.fieldLink RX4 25 "ConcertUsherModel" "thrown" "I", .fieldLink RX4 7 "ConcertUsherModel" "s" "[I", .methodLink RX4 29 yX4_in, .static yX4_in, .initialized RX4, .code yX4_in cX4_in 3 (some .boolean), .methodLink RX4 44 yX4_fails, .instanceMethod yX4_fails, .selects RX4 yX4_fails yX4_fails, .code yX4_fails cX4_fails 2 (some .int), .methodLink RX4 52 yX4_saves, .instanceMethod yX4_saves, .selects RX4 yX4_saves yX4_saves, .code yX4_saves cX4_saves 2 none, .fieldLink RX4 33 "ConcertUsherModel" "savedMany" "I", .fieldLink RX4 16 "ConcertUsherModel" "saved" "[I"] ++ wsX40)
def wsX4_setQuick : List Cond := .code yX4_setQuick cX4_setQuick 3 (some .boolean) :: ([.fieldLink RX4 25 "ConcertUsherModel" "thrown" "I", .fieldLink RX4 7 "ConcertUsherModel" "s" "[I", .methodLink RX4 52 yX4_saves, .instanceMethod yX4_saves, .selects RX4 yX4_saves yX4_saves, .initialized RX4, .code yX4_saves cX4_saves 2 none, .fieldLink RX4 33 "ConcertUsherModel" "savedMany" "I", .fieldLink RX4 16 "ConcertUsherModel" "saved" "[I"] ++ wsX40)
def wsX4_setTimes : List Cond := .code yX4_setTimes cX4_setTimes 5 (some .int) :: ([.fieldLink RX4 25 "ConcertUsherModel" "thrown" "I", .fieldLink RX4 7 "ConcertUsherModel" "s" "[I", .methodLink RX4 29 yX4_in, .static yX4_in, .initialized RX4, .code yX4_in cX4_in 3 (some .boolean), .methodLink RX4 44 yX4_fails, .instanceMethod yX4_fails, .selects RX4 yX4_fails yX4_fails, .code yX4_fails cX4_fails 2 (some .int), .methodLink RX4 52 yX4_saves, .instanceMethod yX4_saves, .selects RX4 yX4_saves yX4_saves, .code yX4_saves cX4_saves 2 none, .fieldLink RX4 33 "ConcertUsherModel" "savedMany" "I", .fieldLink RX4 16 "ConcertUsherModel" "saved" "[I"] ++ wsX40)
def wsX4_chiefNow : List Cond := .code yX4_chiefNow cX4_chiefNow 1 (some .int) :: ([.fieldLink RX4 7 "ConcertUsherModel" "s" "[I"] ++ wsX40)
def wsX4_setPresent : List Cond := .code yX4_setPresent cX4_setPresent 3 (some .int) :: ([.fieldLink RX4 25 "ConcertUsherModel" "thrown" "I", .fieldLink RX4 7 "ConcertUsherModel" "s" "[I", .methodLink RX4 29 yX4_in, .static yX4_in, .initialized RX4, .code yX4_in cX4_in 3 (some .boolean), .methodLink RX4 44 yX4_fails, .instanceMethod yX4_fails, .selects RX4 yX4_fails yX4_fails, .code yX4_fails cX4_fails 2 (some .int), .methodLink RX4 52 yX4_saves, .instanceMethod yX4_saves, .selects RX4 yX4_saves yX4_saves, .code yX4_saves cX4_saves 2 none, .fieldLink RX4 33 "ConcertUsherModel" "savedMany" "I", .fieldLink RX4 16 "ConcertUsherModel" "saved" "[I", .methodLink RX4 65 yX4_chiefNow, .instanceMethod yX4_chiefNow, .selects RX4 yX4_chiefNow yX4_chiefNow, .code yX4_chiefNow cX4_chiefNow 1 (some .int)] ++ wsX40)
def wsX4_chief : List Cond := .code yX4_chief cX4_chief 1 (some .int) :: ([.fieldLink RX4 25 "ConcertUsherModel" "thrown" "I", .methodLink RX4 65 yX4_chiefNow, .instanceMethod yX4_chiefNow, .selects RX4 yX4_chiefNow yX4_chiefNow, .initialized RX4, .code yX4_chiefNow cX4_chiefNow 1 (some .int), .fieldLink RX4 7 "ConcertUsherModel" "s" "[I"] ++ wsX40)
def wsX4_rest : List Cond := .code yX4_rest cX4_rest 3 (some .int) :: ([.fieldLink RX4 25 "ConcertUsherModel" "thrown" "I", .fieldLink RX4 7 "ConcertUsherModel" "s" "[I", .methodLink RX4 40 yX4_isPair, .static yX4_isPair, .initialized RX4, .code yX4_isPair cX4_isPair 2 (some .boolean), .methodLink RX4 29 yX4_in, .static yX4_in, .code yX4_in cX4_in 3 (some .boolean), .methodLink RX4 48 yX4_cellOf, .static yX4_cellOf, .code yX4_cellOf cX4_cellOf 2 (some .int), .methodLink RX4 44 yX4_fails, .instanceMethod yX4_fails, .selects RX4 yX4_fails yX4_fails, .code yX4_fails cX4_fails 2 (some .int)] ++ wsX40)
def wsX4_entriesNow : List Cond := .code yX4_entriesNow cX4_entriesNow 3 (some .int) :: ([.fieldLink RX4 7 "ConcertUsherModel" "s" "[I"] ++ wsX40)
def wsX4_entries : List Cond := .code yX4_entries cX4_entries 1 (some .int) :: ([.fieldLink RX4 25 "ConcertUsherModel" "thrown" "I", .methodLink RX4 69 yX4_entriesNow, .instanceMethod yX4_entriesNow, .selects RX4 yX4_entriesNow yX4_entriesNow, .initialized RX4, .code yX4_entriesNow cX4_entriesNow 3 (some .int), .fieldLink RX4 7 "ConcertUsherModel" "s" "[I"] ++ wsX40)
def wsX4_isOpen : List Cond := .code yX4_isOpen cX4_isOpen 2 (some .boolean) :: ([.fieldLink RX4 25 "ConcertUsherModel" "thrown" "I", .fieldLink RX4 7 "ConcertUsherModel" "s" "[I", .methodLink RX4 29 yX4_in, .static yX4_in, .initialized RX4, .code yX4_in cX4_in 3 (some .boolean), .methodLink RX4 44 yX4_fails, .instanceMethod yX4_fails, .selects RX4 yX4_fails yX4_fails, .code yX4_fails cX4_fails 2 (some .int)] ++ wsX40)
def wsX4_goes : List Cond := .code yX4_goes cX4_goes 3 (some .boolean) :: ([.fieldLink RX4 7 "ConcertUsherModel" "s" "[I", .methodLink RX4 48 yX4_cellOf, .static yX4_cellOf, .initialized RX4, .code yX4_cellOf cX4_cellOf 2 (some .int)] ++ wsX40)
def wsX4_wants : List Cond := .code yX4_wants cX4_wants 3 (some .boolean) :: ([.fieldLink RX4 7 "ConcertUsherModel" "s" "[I", .methodLink RX4 48 yX4_cellOf, .static yX4_cellOf, .initialized RX4, .code yX4_cellOf cX4_cellOf 2 (some .int)] ++ wsX40)
def wsX4_rowsOf : List Cond := .code yX4_rowsOf cX4_rowsOf 4 (some .int) :: ([.methodLink RX4 72 yX4_goes, .instanceMethod yX4_goes, .selects RX4 yX4_goes yX4_goes, .initialized RX4, .code yX4_goes cX4_goes 3 (some .boolean), .fieldLink RX4 7 "ConcertUsherModel" "s" "[I", .methodLink RX4 48 yX4_cellOf, .static yX4_cellOf, .code yX4_cellOf cX4_cellOf 2 (some .int)] ++ wsX40)
def wsX4_wantedOf : List Cond := .code yX4_wantedOf cX4_wantedOf 4 (some .int) :: ([.methodLink RX4 75 yX4_wants, .instanceMethod yX4_wants, .selects RX4 yX4_wants yX4_wants, .initialized RX4, .code yX4_wants cX4_wants 3 (some .boolean), .fieldLink RX4 7 "ConcertUsherModel" "s" "[I", .methodLink RX4 48 yX4_cellOf, .static yX4_cellOf, .code yX4_cellOf cX4_cellOf 2 (some .int)] ++ wsX40)
def wsX4_rows : List Cond := .code yX4_rows cX4_rows 2 (some .int) :: ([.fieldLink RX4 25 "ConcertUsherModel" "thrown" "I", .methodLink RX4 78 yX4_isConcert, .static yX4_isConcert, .initialized RX4, .code yX4_isConcert cX4_isConcert 1 (some .boolean), .methodLink RX4 29 yX4_in, .static yX4_in, .code yX4_in cX4_in 3 (some .boolean), .methodLink RX4 82 yX4_rowsOf, .instanceMethod yX4_rowsOf, .selects RX4 yX4_rowsOf yX4_rowsOf, .code yX4_rowsOf cX4_rowsOf 4 (some .int), .methodLink RX4 72 yX4_goes, .instanceMethod yX4_goes, .selects RX4 yX4_goes yX4_goes, .code yX4_goes cX4_goes 3 (some .boolean), .fieldLink RX4 7 "ConcertUsherModel" "s" "[I", .methodLink RX4 48 yX4_cellOf, .static yX4_cellOf, .code yX4_cellOf cX4_cellOf 2 (some .int), .methodLink RX4 44 yX4_fails, .instanceMethod yX4_fails, .selects RX4 yX4_fails yX4_fails, .code yX4_fails cX4_fails 2 (some .int)] ++ wsX40)
def wsX4_wanted : List Cond := .code yX4_wanted cX4_wanted 2 (some .int) :: ([.fieldLink RX4 25 "ConcertUsherModel" "thrown" "I", .methodLink RX4 78 yX4_isConcert, .static yX4_isConcert, .initialized RX4, .code yX4_isConcert cX4_isConcert 1 (some .boolean), .methodLink RX4 29 yX4_in, .static yX4_in, .code yX4_in cX4_in 3 (some .boolean), .methodLink RX4 85 yX4_wantedOf, .instanceMethod yX4_wantedOf, .selects RX4 yX4_wantedOf yX4_wantedOf, .code yX4_wantedOf cX4_wantedOf 4 (some .int), .methodLink RX4 75 yX4_wants, .instanceMethod yX4_wants, .selects RX4 yX4_wants yX4_wants, .code yX4_wants cX4_wants 3 (some .boolean), .fieldLink RX4 7 "ConcertUsherModel" "s" "[I", .methodLink RX4 48 yX4_cellOf, .static yX4_cellOf, .code yX4_cellOf cX4_cellOf 2 (some .int), .methodLink RX4 44 yX4_fails, .instanceMethod yX4_fails, .selects RX4 yX4_fails yX4_fails, .code yX4_fails cX4_fails 2 (some .int)] ++ wsX40)
def wsX4_due : List Cond := .code yX4_due cX4_due 1 (some .int) :: ([.fieldLink RX4 7 "ConcertUsherModel" "s" "[I", .methodLink RX4 65 yX4_chiefNow, .instanceMethod yX4_chiefNow, .selects RX4 yX4_chiefNow yX4_chiefNow, .initialized RX4, .code yX4_chiefNow cX4_chiefNow 1 (some .int)] ++ wsX40)
def wsX4_goesBy : List Cond := .code yX4_goesBy cX4_goesBy 3 (some .boolean) :: ([.fieldLink RX4 7 "ConcertUsherModel" "s" "[I", .methodLink RX4 88 yX4_due, .instanceMethod yX4_due, .selects RX4 yX4_due yX4_due, .initialized RX4, .code yX4_due cX4_due 1 (some .int), .methodLink RX4 65 yX4_chiefNow, .instanceMethod yX4_chiefNow, .selects RX4 yX4_chiefNow yX4_chiefNow, .code yX4_chiefNow cX4_chiefNow 1 (some .int), .methodLink RX4 36 yX4_calls, .instanceMethod yX4_calls, .selects RX4 yX4_calls yX4_calls, .code yX4_calls cX4_calls 2 none] ++ wsX40)
def wsX4_passes : List Cond := .code yX4_passes cX4_passes 4 (some .int) :: ([.methodLink RX4 91 yX4_goesBy, .instanceMethod yX4_goesBy, .selects RX4 yX4_goesBy yX4_goesBy, .initialized RX4, .code yX4_goesBy cX4_goesBy 3 (some .boolean), .fieldLink RX4 7 "ConcertUsherModel" "s" "[I", .methodLink RX4 88 yX4_due, .instanceMethod yX4_due, .selects RX4 yX4_due yX4_due, .code yX4_due cX4_due 1 (some .int), .methodLink RX4 65 yX4_chiefNow, .instanceMethod yX4_chiefNow, .selects RX4 yX4_chiefNow yX4_chiefNow, .code yX4_chiefNow cX4_chiefNow 1 (some .int), .methodLink RX4 36 yX4_calls, .instanceMethod yX4_calls, .selects RX4 yX4_calls yX4_calls, .code yX4_calls cX4_calls 2 none] ++ wsX40)
def wsX4_pass_r1 : List Cond := [Cond.fieldLink RX4 25 "ConcertUsherModel" "thrown" "I", Cond.methodLink RX4 29 yX4_in, Cond.static yX4_in, Cond.initialized RX4, Cond.code yX4_in cX4_in 3 (some .boolean), Cond.methodLink RX4 44 yX4_fails, Cond.instanceMethod yX4_fails, Cond.selects RX4 yX4_fails yX4_fails, Cond.code yX4_fails cX4_fails 2 (some .int), Cond.methodLink RX4 52 yX4_saves, Cond.instanceMethod yX4_saves, Cond.selects RX4 yX4_saves yX4_saves, Cond.code yX4_saves cX4_saves 2 none, Cond.fieldLink RX4 33 "ConcertUsherModel" "savedMany" "I", Cond.fieldLink RX4 16 "ConcertUsherModel" "saved" "[I", Cond.fieldLink RX4 7 "ConcertUsherModel" "s" "[I", Cond.methodLink RX4 95 yX4_passes, Cond.instanceMethod yX4_passes, Cond.selects RX4 yX4_passes yX4_passes, Cond.code yX4_passes cX4_passes 4 (some .int), Cond.methodLink RX4 91 yX4_goesBy, Cond.instanceMethod yX4_goesBy, Cond.selects RX4 yX4_goesBy yX4_goesBy, Cond.code yX4_goesBy cX4_goesBy 3 (some .boolean)]
def wsX4_pass_r2 : List Cond := [Cond.methodLink RX4 88 yX4_due, Cond.instanceMethod yX4_due, Cond.selects RX4 yX4_due yX4_due, Cond.code yX4_due cX4_due 1 (some .int), Cond.methodLink RX4 65 yX4_chiefNow, Cond.instanceMethod yX4_chiefNow, Cond.selects RX4 yX4_chiefNow yX4_chiefNow, Cond.code yX4_chiefNow cX4_chiefNow 1 (some .int), Cond.methodLink RX4 36 yX4_calls, Cond.instanceMethod yX4_calls, Cond.selects RX4 yX4_calls yX4_calls, Cond.code yX4_calls cX4_calls 2 none]
def wsX4_pass : List Cond := .code yX4_pass cX4_pass 2 (some .int) :: ((wsX4_pass_r1 ++ wsX4_pass_r2) ++ wsX40)
def wsX4_plays : List Cond := .code yX4_plays cX4_plays 6 (some .int) :: ([.fieldLink RX4 7 "ConcertUsherModel" "s" "[I", .methodLink RX4 72 yX4_goes, .instanceMethod yX4_goes, .selects RX4 yX4_goes yX4_goes, .initialized RX4, .code yX4_goes cX4_goes 3 (some .boolean), .methodLink RX4 48 yX4_cellOf, .static yX4_cellOf, .code yX4_cellOf cX4_cellOf 2 (some .int), .methodLink RX4 75 yX4_wants, .instanceMethod yX4_wants, .selects RX4 yX4_wants yX4_wants, .code yX4_wants cX4_wants 3 (some .boolean)] ++ wsX40)
def wsX4_play_r1 : List Cond := [Cond.fieldLink RX4 25 "ConcertUsherModel" "thrown" "I", Cond.methodLink RX4 78 yX4_isConcert, Cond.static yX4_isConcert, Cond.initialized RX4, Cond.code yX4_isConcert cX4_isConcert 1 (some .boolean), Cond.methodLink RX4 29 yX4_in, Cond.static yX4_in, Cond.code yX4_in cX4_in 3 (some .boolean), Cond.methodLink RX4 44 yX4_fails, Cond.instanceMethod yX4_fails, Cond.selects RX4 yX4_fails yX4_fails, Cond.code yX4_fails cX4_fails 2 (some .int), Cond.methodLink RX4 52 yX4_saves, Cond.instanceMethod yX4_saves, Cond.selects RX4 yX4_saves yX4_saves, Cond.code yX4_saves cX4_saves 2 none, Cond.fieldLink RX4 33 "ConcertUsherModel" "savedMany" "I", Cond.fieldLink RX4 16 "ConcertUsherModel" "saved" "[I", Cond.fieldLink RX4 7 "ConcertUsherModel" "s" "[I", Cond.methodLink RX4 98 yX4_plays, Cond.instanceMethod yX4_plays, Cond.selects RX4 yX4_plays yX4_plays, Cond.code yX4_plays cX4_plays 6 (some .int), Cond.methodLink RX4 72 yX4_goes]
def wsX4_play_r2 : List Cond := [Cond.instanceMethod yX4_goes, Cond.selects RX4 yX4_goes yX4_goes, Cond.code yX4_goes cX4_goes 3 (some .boolean), Cond.methodLink RX4 48 yX4_cellOf, Cond.static yX4_cellOf, Cond.code yX4_cellOf cX4_cellOf 2 (some .int), Cond.methodLink RX4 75 yX4_wants, Cond.instanceMethod yX4_wants, Cond.selects RX4 yX4_wants yX4_wants, Cond.code yX4_wants cX4_wants 3 (some .boolean)]
def wsX4_play : List Cond := .code yX4_play cX4_play 2 (some .int) :: ((wsX4_play_r1 ++ wsX4_play_r2) ++ wsX40)
def wsX4_minutes : List Cond := .code yX4_minutes cX4_minutes 1 (some .int) :: ([.fieldLink RX4 25 "ConcertUsherModel" "thrown" "I", .fieldLink RX4 7 "ConcertUsherModel" "s" "[I"] ++ wsX40)
def wsX4_sinceQuestion : List Cond := .code yX4_sinceQuestion cX4_sinceQuestion 1 (some .int) :: ([.fieldLink RX4 25 "ConcertUsherModel" "thrown" "I", .fieldLink RX4 7 "ConcertUsherModel" "s" "[I"] ++ wsX40)
def wsX4_count : List Cond := .code yX4_count cX4_count 2 (some .int) :: ([.fieldLink RX4 25 "ConcertUsherModel" "thrown" "I", .fieldLink RX4 7 "ConcertUsherModel" "s" "[I", .methodLink RX4 29 yX4_in, .static yX4_in, .initialized RX4, .code yX4_in cX4_in 3 (some .boolean), .methodLink RX4 44 yX4_fails, .instanceMethod yX4_fails, .selects RX4 yX4_fails yX4_fails, .code yX4_fails cX4_fails 2 (some .int)] ++ wsX40)
def wsX4_usefulShare : List Cond := .code yX4_usefulShare cX4_usefulShare 2 (some .double) :: ([.fieldLink RX4 25 "ConcertUsherModel" "thrown" "I", .fieldLink RX4 7 "ConcertUsherModel" "s" "[I"] ++ wsX40)
def wsX4_fadesIn_r1 : List Cond := [Cond.fieldLink RX4 7 "ConcertUsherModel" "s" "[I", Cond.methodLink RX4 101 yX4_putAside, Cond.instanceMethod yX4_putAside, Cond.selects RX4 yX4_putAside yX4_putAside, Cond.initialized RX4, Cond.code yX4_putAside cX4_putAside 2 none, Cond.fieldLink RX4 13 "ConcertUsherModel" "aside" "[I", Cond.methodLink RX4 91 yX4_goesBy, Cond.instanceMethod yX4_goesBy, Cond.selects RX4 yX4_goesBy yX4_goesBy, Cond.code yX4_goesBy cX4_goesBy 3 (some .boolean), Cond.methodLink RX4 88 yX4_due, Cond.instanceMethod yX4_due, Cond.selects RX4 yX4_due yX4_due, Cond.code yX4_due cX4_due 1 (some .int), Cond.methodLink RX4 65 yX4_chiefNow, Cond.instanceMethod yX4_chiefNow, Cond.selects RX4 yX4_chiefNow yX4_chiefNow, Cond.code yX4_chiefNow cX4_chiefNow 1 (some .int), Cond.methodLink RX4 36 yX4_calls, Cond.instanceMethod yX4_calls, Cond.selects RX4 yX4_calls yX4_calls, Cond.code yX4_calls cX4_calls 2 none, Cond.methodLink RX4 104 yX4_takeBack]
def wsX4_fadesIn_r2 : List Cond := [Cond.instanceMethod yX4_takeBack, Cond.selects RX4 yX4_takeBack yX4_takeBack, Cond.code yX4_takeBack cX4_takeBack 2 none]
def wsX4_fadesIn : List Cond := .code yX4_fadesIn cX4_fadesIn 4 (some .int) :: ((wsX4_fadesIn_r1 ++ wsX4_fadesIn_r2) ++ wsX40)
def wsX4_minutesToFade_r1 : List Cond := [Cond.fieldLink RX4 25 "ConcertUsherModel" "thrown" "I", Cond.methodLink RX4 40 yX4_isPair, Cond.static yX4_isPair, Cond.initialized RX4, Cond.code yX4_isPair cX4_isPair 2 (some .boolean), Cond.methodLink RX4 29 yX4_in, Cond.static yX4_in, Cond.code yX4_in cX4_in 3 (some .boolean), Cond.methodLink RX4 48 yX4_cellOf, Cond.static yX4_cellOf, Cond.code yX4_cellOf cX4_cellOf 2 (some .int), Cond.methodLink RX4 107 yX4_fadesIn, Cond.instanceMethod yX4_fadesIn, Cond.selects RX4 yX4_fadesIn yX4_fadesIn, Cond.code yX4_fadesIn cX4_fadesIn 4 (some .int), Cond.fieldLink RX4 7 "ConcertUsherModel" "s" "[I", Cond.methodLink RX4 101 yX4_putAside, Cond.instanceMethod yX4_putAside, Cond.selects RX4 yX4_putAside yX4_putAside, Cond.code yX4_putAside cX4_putAside 2 none, Cond.fieldLink RX4 13 "ConcertUsherModel" "aside" "[I", Cond.methodLink RX4 91 yX4_goesBy, Cond.instanceMethod yX4_goesBy, Cond.selects RX4 yX4_goesBy yX4_goesBy]
def wsX4_minutesToFade_r2 : List Cond := [Cond.code yX4_goesBy cX4_goesBy 3 (some .boolean), Cond.methodLink RX4 88 yX4_due, Cond.instanceMethod yX4_due, Cond.selects RX4 yX4_due yX4_due, Cond.code yX4_due cX4_due 1 (some .int), Cond.methodLink RX4 65 yX4_chiefNow, Cond.instanceMethod yX4_chiefNow, Cond.selects RX4 yX4_chiefNow yX4_chiefNow, Cond.code yX4_chiefNow cX4_chiefNow 1 (some .int), Cond.methodLink RX4 36 yX4_calls, Cond.instanceMethod yX4_calls, Cond.selects RX4 yX4_calls yX4_calls, Cond.code yX4_calls cX4_calls 2 none, Cond.methodLink RX4 104 yX4_takeBack, Cond.instanceMethod yX4_takeBack, Cond.selects RX4 yX4_takeBack yX4_takeBack, Cond.code yX4_takeBack cX4_takeBack 2 none, Cond.methodLink RX4 44 yX4_fails, Cond.instanceMethod yX4_fails, Cond.selects RX4 yX4_fails yX4_fails, Cond.code yX4_fails cX4_fails 2 (some .int)]
def wsX4_minutesToFade : List Cond := .code yX4_minutesToFade cX4_minutesToFade 3 (some .int) :: ((wsX4_minutesToFade_r1 ++ wsX4_minutesToFade_r2) ++ wsX40)
def wsX4_asksIn : List Cond := .code yX4_asksIn cX4_asksIn 2 (some .int) :: ([.fieldLink RX4 7 "ConcertUsherModel" "s" "[I", .methodLink RX4 88 yX4_due, .instanceMethod yX4_due, .selects RX4 yX4_due yX4_due, .initialized RX4, .code yX4_due cX4_due 1 (some .int), .methodLink RX4 65 yX4_chiefNow, .instanceMethod yX4_chiefNow, .selects RX4 yX4_chiefNow yX4_chiefNow, .code yX4_chiefNow cX4_chiefNow 1 (some .int)] ++ wsX40)
def wsX4_minutesToQuestion : List Cond := .code yX4_minutesToQuestion cX4_minutesToQuestion 1 (some .int) :: ([.fieldLink RX4 25 "ConcertUsherModel" "thrown" "I", .methodLink RX4 110 yX4_asksIn, .instanceMethod yX4_asksIn, .selects RX4 yX4_asksIn yX4_asksIn, .initialized RX4, .code yX4_asksIn cX4_asksIn 2 (some .int), .fieldLink RX4 7 "ConcertUsherModel" "s" "[I", .methodLink RX4 88 yX4_due, .instanceMethod yX4_due, .selects RX4 yX4_due yX4_due, .code yX4_due cX4_due 1 (some .int), .methodLink RX4 65 yX4_chiefNow, .instanceMethod yX4_chiefNow, .selects RX4 yX4_chiefNow yX4_chiefNow, .code yX4_chiefNow cX4_chiefNow 1 (some .int)] ++ wsX40)
def wsX4_disturbedAfter_r1 : List Cond := [Cond.fieldLink RX4 25 "ConcertUsherModel" "thrown" "I", Cond.methodLink RX4 78 yX4_isConcert, Cond.static yX4_isConcert, Cond.initialized RX4, Cond.code yX4_isConcert cX4_isConcert 1 (some .boolean), Cond.methodLink RX4 29 yX4_in, Cond.static yX4_in, Cond.code yX4_in cX4_in 3 (some .boolean), Cond.methodLink RX4 44 yX4_fails, Cond.instanceMethod yX4_fails, Cond.selects RX4 yX4_fails yX4_fails, Cond.code yX4_fails cX4_fails 2 (some .int), Cond.methodLink RX4 101 yX4_putAside, Cond.instanceMethod yX4_putAside, Cond.selects RX4 yX4_putAside yX4_putAside, Cond.code yX4_putAside cX4_putAside 2 none, Cond.fieldLink RX4 13 "ConcertUsherModel" "aside" "[I", Cond.fieldLink RX4 7 "ConcertUsherModel" "s" "[I", Cond.methodLink RX4 95 yX4_passes, Cond.instanceMethod yX4_passes, Cond.selects RX4 yX4_passes yX4_passes, Cond.code yX4_passes cX4_passes 4 (some .int), Cond.methodLink RX4 91 yX4_goesBy, Cond.instanceMethod yX4_goesBy]
def wsX4_disturbedAfter_r2 : List Cond := [Cond.selects RX4 yX4_goesBy yX4_goesBy, Cond.code yX4_goesBy cX4_goesBy 3 (some .boolean), Cond.methodLink RX4 88 yX4_due, Cond.instanceMethod yX4_due, Cond.selects RX4 yX4_due yX4_due, Cond.code yX4_due cX4_due 1 (some .int), Cond.methodLink RX4 65 yX4_chiefNow, Cond.instanceMethod yX4_chiefNow, Cond.selects RX4 yX4_chiefNow yX4_chiefNow, Cond.code yX4_chiefNow cX4_chiefNow 1 (some .int), Cond.methodLink RX4 36 yX4_calls, Cond.instanceMethod yX4_calls, Cond.selects RX4 yX4_calls yX4_calls, Cond.code yX4_calls cX4_calls 2 none, Cond.methodLink RX4 72 yX4_goes, Cond.instanceMethod yX4_goes, Cond.selects RX4 yX4_goes yX4_goes, Cond.code yX4_goes cX4_goes 3 (some .boolean), Cond.methodLink RX4 48 yX4_cellOf, Cond.static yX4_cellOf, Cond.code yX4_cellOf cX4_cellOf 2 (some .int), Cond.methodLink RX4 75 yX4_wants, Cond.instanceMethod yX4_wants, Cond.selects RX4 yX4_wants yX4_wants]
def wsX4_disturbedAfter_r3 : List Cond := [Cond.code yX4_wants cX4_wants 3 (some .boolean), Cond.methodLink RX4 104 yX4_takeBack, Cond.instanceMethod yX4_takeBack, Cond.selects RX4 yX4_takeBack yX4_takeBack, Cond.code yX4_takeBack cX4_takeBack 2 none]
def wsX4_disturbedAfter : List Cond := .code yX4_disturbedAfter cX4_disturbedAfter 5 (some .int) :: ((wsX4_disturbedAfter_r1 ++ (wsX4_disturbedAfter_r2 ++ wsX4_disturbedAfter_r3)) ++ wsX40)
def wsX4_append : List Cond := .code yX4_append cX4_append 2 (some .int) :: ([.fieldLink RX4 25 "ConcertUsherModel" "thrown" "I", .fieldLink RX4 113 "ConcertUsherModel" "length" "I", .fieldLink RX4 19 "ConcertUsherModel" "buffer" "[I", .methodLink RX4 29 yX4_in, .static yX4_in, .initialized RX4, .code yX4_in cX4_in 3 (some .boolean), .methodLink RX4 44 yX4_fails, .instanceMethod yX4_fails, .selects RX4 yX4_fails yX4_fails, .code yX4_fails cX4_fails 2 (some .int)] ++ wsX40)
def wsX4_clearText : List Cond := .code yX4_clearText cX4_clearText 2 (some .int) :: ([.fieldLink RX4 25 "ConcertUsherModel" "thrown" "I", .fieldLink RX4 113 "ConcertUsherModel" "length" "I"] ++ wsX40)
def wsX4_sign : List Cond := .code yX4_sign cX4_sign 1 (some .int) :: ([.fieldLink RX4 116 "ConcertUsherModel" "at" "I", .fieldLink RX4 113 "ConcertUsherModel" "length" "I", .fieldLink RX4 19 "ConcertUsherModel" "buffer" "[I"] ++ wsX40)
def wsX4_figure : List Cond := .code yX4_figure cX4_figure 4 (some .int) :: ([.fieldLink RX4 119 "ConcertUsherModel" "isWell" "Z", .fieldLink RX4 116 "ConcertUsherModel" "at" "I", .methodLink RX4 123 yX4_sign, .instanceMethod yX4_sign, .selects RX4 yX4_sign yX4_sign, .initialized RX4, .code yX4_sign cX4_sign 1 (some .int), .fieldLink RX4 113 "ConcertUsherModel" "length" "I", .fieldLink RX4 19 "ConcertUsherModel" "buffer" "[I", .methodLink RX4 29 yX4_in, .static yX4_in, .code yX4_in cX4_in 3 (some .boolean)] ++ wsX40)
def wsX4_number : List Cond := .code yX4_number cX4_number 2 (some .int) :: ([.fieldLink RX4 119 "ConcertUsherModel" "isWell" "Z", .fieldLink RX4 116 "ConcertUsherModel" "at" "I", .methodLink RX4 126 yX4_figure, .instanceMethod yX4_figure, .selects RX4 yX4_figure yX4_figure, .initialized RX4, .code yX4_figure cX4_figure 4 (some .int), .methodLink RX4 123 yX4_sign, .instanceMethod yX4_sign, .selects RX4 yX4_sign yX4_sign, .code yX4_sign cX4_sign 1 (some .int), .fieldLink RX4 113 "ConcertUsherModel" "length" "I", .fieldLink RX4 19 "ConcertUsherModel" "buffer" "[I", .methodLink RX4 29 yX4_in, .static yX4_in, .code yX4_in cX4_in 3 (some .boolean)] ++ wsX40)
def wsX4_readsEvent : List Cond := .code yX4_readsEvent cX4_readsEvent 3 none :: ([.fieldLink RX4 129 "ConcertUsherModel" "readMany" "I", .fieldLink RX4 119 "ConcertUsherModel" "isWell" "Z", .fieldLink RX4 116 "ConcertUsherModel" "at" "I", .fieldLink RX4 22 "ConcertUsherModel" "read" "[I", .methodLink RX4 123 yX4_sign, .instanceMethod yX4_sign, .selects RX4 yX4_sign yX4_sign, .initialized RX4, .code yX4_sign cX4_sign 1 (some .int), .fieldLink RX4 113 "ConcertUsherModel" "length" "I", .fieldLink RX4 19 "ConcertUsherModel" "buffer" "[I", .methodLink RX4 132 yX4_number, .instanceMethod yX4_number, .selects RX4 yX4_number yX4_number, .code yX4_number cX4_number 2 (some .int), .methodLink RX4 126 yX4_figure, .instanceMethod yX4_figure, .selects RX4 yX4_figure yX4_figure, .code yX4_figure cX4_figure 4 (some .int), .methodLink RX4 29 yX4_in, .static yX4_in, .code yX4_in cX4_in 3 (some .boolean)] ++ wsX40)
def wsX4_reads_r1 : List Cond := [Cond.fieldLink RX4 116 "ConcertUsherModel" "at" "I", Cond.fieldLink RX4 129 "ConcertUsherModel" "readMany" "I", Cond.fieldLink RX4 119 "ConcertUsherModel" "isWell" "Z", Cond.fieldLink RX4 113 "ConcertUsherModel" "length" "I", Cond.methodLink RX4 135 yX4_readsEvent, Cond.instanceMethod yX4_readsEvent, Cond.selects RX4 yX4_readsEvent yX4_readsEvent, Cond.initialized RX4, Cond.code yX4_readsEvent cX4_readsEvent 3 none, Cond.fieldLink RX4 22 "ConcertUsherModel" "read" "[I", Cond.methodLink RX4 123 yX4_sign, Cond.instanceMethod yX4_sign, Cond.selects RX4 yX4_sign yX4_sign, Cond.code yX4_sign cX4_sign 1 (some .int), Cond.fieldLink RX4 19 "ConcertUsherModel" "buffer" "[I", Cond.methodLink RX4 132 yX4_number, Cond.instanceMethod yX4_number, Cond.selects RX4 yX4_number yX4_number, Cond.code yX4_number cX4_number 2 (some .int), Cond.methodLink RX4 126 yX4_figure, Cond.instanceMethod yX4_figure, Cond.selects RX4 yX4_figure yX4_figure, Cond.code yX4_figure cX4_figure 4 (some .int), Cond.methodLink RX4 29 yX4_in]
def wsX4_reads_r2 : List Cond := [Cond.static yX4_in, Cond.code yX4_in cX4_in 3 (some .boolean)]
def wsX4_reads : List Cond := .code yX4_reads cX4_reads 1 (some .boolean) :: ((wsX4_reads_r1 ++ wsX4_reads_r2) ++ wsX40)
def wsX4_firstError_r1 : List Cond := [Cond.fieldLink RX4 25 "ConcertUsherModel" "thrown" "I", Cond.fieldLink RX4 113 "ConcertUsherModel" "length" "I", Cond.fieldLink RX4 116 "ConcertUsherModel" "at" "I", Cond.methodLink RX4 138 yX4_reads, Cond.instanceMethod yX4_reads, Cond.selects RX4 yX4_reads yX4_reads, Cond.initialized RX4, Cond.code yX4_reads cX4_reads 1 (some .boolean), Cond.fieldLink RX4 129 "ConcertUsherModel" "readMany" "I", Cond.fieldLink RX4 119 "ConcertUsherModel" "isWell" "Z", Cond.methodLink RX4 135 yX4_readsEvent, Cond.instanceMethod yX4_readsEvent, Cond.selects RX4 yX4_readsEvent yX4_readsEvent, Cond.code yX4_readsEvent cX4_readsEvent 3 none, Cond.fieldLink RX4 22 "ConcertUsherModel" "read" "[I", Cond.methodLink RX4 123 yX4_sign, Cond.instanceMethod yX4_sign, Cond.selects RX4 yX4_sign yX4_sign, Cond.code yX4_sign cX4_sign 1 (some .int), Cond.fieldLink RX4 19 "ConcertUsherModel" "buffer" "[I", Cond.methodLink RX4 132 yX4_number, Cond.instanceMethod yX4_number, Cond.selects RX4 yX4_number yX4_number, Cond.code yX4_number cX4_number 2 (some .int)]
def wsX4_firstError_r2 : List Cond := [Cond.methodLink RX4 126 yX4_figure, Cond.instanceMethod yX4_figure, Cond.selects RX4 yX4_figure yX4_figure, Cond.code yX4_figure cX4_figure 4 (some .int), Cond.methodLink RX4 29 yX4_in, Cond.static yX4_in, Cond.code yX4_in cX4_in 3 (some .boolean)]
def wsX4_firstError : List Cond := .code yX4_firstError cX4_firstError 1 (some .int) :: ((wsX4_firstError_r1 ++ wsX4_firstError_r2) ++ wsX40)
def wsX4_does_r1 : List Cond := [Cond.fieldLink RX4 22 "ConcertUsherModel" "read" "[I", Cond.fieldLink RX4 7 "ConcertUsherModel" "s" "[I", Cond.methodLink RX4 48 yX4_cellOf, Cond.static yX4_cellOf, Cond.initialized RX4, Cond.code yX4_cellOf cX4_cellOf 2 (some .int), Cond.methodLink RX4 55 yX4_comes, Cond.instanceMethod yX4_comes, Cond.selects RX4 yX4_comes yX4_comes, Cond.code yX4_comes cX4_comes 2 (some .int), Cond.methodLink RX4 36 yX4_calls, Cond.instanceMethod yX4_calls, Cond.selects RX4 yX4_calls yX4_calls, Cond.code yX4_calls cX4_calls 2 none, Cond.methodLink RX4 61 yX4_leaves, Cond.instanceMethod yX4_leaves, Cond.selects RX4 yX4_leaves yX4_leaves, Cond.code yX4_leaves cX4_leaves 3 (some .int), Cond.methodLink RX4 58 yX4_farewell, Cond.instanceMethod yX4_farewell, Cond.selects RX4 yX4_farewell yX4_farewell, Cond.code yX4_farewell cX4_farewell 2 none, Cond.methodLink RX4 98 yX4_plays, Cond.instanceMethod yX4_plays]
def wsX4_does_r2 : List Cond := [Cond.selects RX4 yX4_plays yX4_plays, Cond.code yX4_plays cX4_plays 6 (some .int), Cond.methodLink RX4 72 yX4_goes, Cond.instanceMethod yX4_goes, Cond.selects RX4 yX4_goes yX4_goes, Cond.code yX4_goes cX4_goes 3 (some .boolean), Cond.methodLink RX4 75 yX4_wants, Cond.instanceMethod yX4_wants, Cond.selects RX4 yX4_wants yX4_wants, Cond.code yX4_wants cX4_wants 3 (some .boolean), Cond.methodLink RX4 95 yX4_passes, Cond.instanceMethod yX4_passes, Cond.selects RX4 yX4_passes yX4_passes, Cond.code yX4_passes cX4_passes 4 (some .int), Cond.methodLink RX4 91 yX4_goesBy, Cond.instanceMethod yX4_goesBy, Cond.selects RX4 yX4_goesBy yX4_goesBy, Cond.code yX4_goesBy cX4_goesBy 3 (some .boolean), Cond.methodLink RX4 88 yX4_due, Cond.instanceMethod yX4_due, Cond.selects RX4 yX4_due yX4_due, Cond.code yX4_due cX4_due 1 (some .int), Cond.methodLink RX4 65 yX4_chiefNow, Cond.instanceMethod yX4_chiefNow]
def wsX4_does_r3 : List Cond := [Cond.selects RX4 yX4_chiefNow yX4_chiefNow, Cond.code yX4_chiefNow cX4_chiefNow 1 (some .int)]
def wsX4_does : List Cond := .code yX4_does cX4_does 4 (some .boolean) :: ((wsX4_does_r1 ++ (wsX4_does_r2 ++ wsX4_does_r3)) ++ wsX40)
def wsX4_run_r1 : List Cond := [Cond.fieldLink RX4 25 "ConcertUsherModel" "thrown" "I", Cond.fieldLink RX4 113 "ConcertUsherModel" "length" "I", Cond.fieldLink RX4 129 "ConcertUsherModel" "readMany" "I", Cond.methodLink RX4 138 yX4_reads, Cond.instanceMethod yX4_reads, Cond.selects RX4 yX4_reads yX4_reads, Cond.initialized RX4, Cond.code yX4_reads cX4_reads 1 (some .boolean), Cond.fieldLink RX4 116 "ConcertUsherModel" "at" "I", Cond.fieldLink RX4 119 "ConcertUsherModel" "isWell" "Z", Cond.methodLink RX4 135 yX4_readsEvent, Cond.instanceMethod yX4_readsEvent, Cond.selects RX4 yX4_readsEvent yX4_readsEvent, Cond.code yX4_readsEvent cX4_readsEvent 3 none, Cond.fieldLink RX4 22 "ConcertUsherModel" "read" "[I", Cond.methodLink RX4 123 yX4_sign, Cond.instanceMethod yX4_sign, Cond.selects RX4 yX4_sign yX4_sign, Cond.code yX4_sign cX4_sign 1 (some .int), Cond.fieldLink RX4 19 "ConcertUsherModel" "buffer" "[I", Cond.methodLink RX4 132 yX4_number, Cond.instanceMethod yX4_number, Cond.selects RX4 yX4_number yX4_number, Cond.code yX4_number cX4_number 2 (some .int)]
def wsX4_run_r2 : List Cond := [Cond.methodLink RX4 126 yX4_figure, Cond.instanceMethod yX4_figure, Cond.selects RX4 yX4_figure yX4_figure, Cond.code yX4_figure cX4_figure 4 (some .int), Cond.methodLink RX4 29 yX4_in, Cond.static yX4_in, Cond.code yX4_in cX4_in 3 (some .boolean), Cond.methodLink RX4 44 yX4_fails, Cond.instanceMethod yX4_fails, Cond.selects RX4 yX4_fails yX4_fails, Cond.code yX4_fails cX4_fails 2 (some .int), Cond.methodLink RX4 52 yX4_saves, Cond.instanceMethod yX4_saves, Cond.selects RX4 yX4_saves yX4_saves, Cond.code yX4_saves cX4_saves 2 none, Cond.fieldLink RX4 33 "ConcertUsherModel" "savedMany" "I", Cond.fieldLink RX4 16 "ConcertUsherModel" "saved" "[I", Cond.fieldLink RX4 7 "ConcertUsherModel" "s" "[I", Cond.methodLink RX4 141 yX4_does, Cond.instanceMethod yX4_does, Cond.selects RX4 yX4_does yX4_does, Cond.code yX4_does cX4_does 4 (some .boolean), Cond.methodLink RX4 48 yX4_cellOf, Cond.static yX4_cellOf]
def wsX4_run_r3 : List Cond := [Cond.code yX4_cellOf cX4_cellOf 2 (some .int), Cond.methodLink RX4 55 yX4_comes, Cond.instanceMethod yX4_comes, Cond.selects RX4 yX4_comes yX4_comes, Cond.code yX4_comes cX4_comes 2 (some .int), Cond.methodLink RX4 36 yX4_calls, Cond.instanceMethod yX4_calls, Cond.selects RX4 yX4_calls yX4_calls, Cond.code yX4_calls cX4_calls 2 none, Cond.methodLink RX4 61 yX4_leaves, Cond.instanceMethod yX4_leaves, Cond.selects RX4 yX4_leaves yX4_leaves, Cond.code yX4_leaves cX4_leaves 3 (some .int), Cond.methodLink RX4 58 yX4_farewell, Cond.instanceMethod yX4_farewell, Cond.selects RX4 yX4_farewell yX4_farewell, Cond.code yX4_farewell cX4_farewell 2 none, Cond.methodLink RX4 98 yX4_plays, Cond.instanceMethod yX4_plays, Cond.selects RX4 yX4_plays yX4_plays, Cond.code yX4_plays cX4_plays 6 (some .int), Cond.methodLink RX4 72 yX4_goes, Cond.instanceMethod yX4_goes, Cond.selects RX4 yX4_goes yX4_goes]
def wsX4_run_r4 : List Cond := [Cond.code yX4_goes cX4_goes 3 (some .boolean), Cond.methodLink RX4 75 yX4_wants, Cond.instanceMethod yX4_wants, Cond.selects RX4 yX4_wants yX4_wants, Cond.code yX4_wants cX4_wants 3 (some .boolean), Cond.methodLink RX4 95 yX4_passes, Cond.instanceMethod yX4_passes, Cond.selects RX4 yX4_passes yX4_passes, Cond.code yX4_passes cX4_passes 4 (some .int), Cond.methodLink RX4 91 yX4_goesBy, Cond.instanceMethod yX4_goesBy, Cond.selects RX4 yX4_goesBy yX4_goesBy, Cond.code yX4_goesBy cX4_goesBy 3 (some .boolean), Cond.methodLink RX4 88 yX4_due, Cond.instanceMethod yX4_due, Cond.selects RX4 yX4_due yX4_due, Cond.code yX4_due cX4_due 1 (some .int), Cond.methodLink RX4 65 yX4_chiefNow, Cond.instanceMethod yX4_chiefNow, Cond.selects RX4 yX4_chiefNow yX4_chiefNow, Cond.code yX4_chiefNow cX4_chiefNow 1 (some .int)]
def wsX4_run : List Cond := .code yX4_run cX4_run 2 (some .int) :: ((wsX4_run_r1 ++ (wsX4_run_r2 ++ (wsX4_run_r3 ++ wsX4_run_r4))) ++ wsX40)
def wsX4_undo : List Cond := .code yX4_undo cX4_undo 2 (some .int) :: ([.fieldLink RX4 25 "ConcertUsherModel" "thrown" "I", .fieldLink RX4 33 "ConcertUsherModel" "savedMany" "I", .fieldLink RX4 7 "ConcertUsherModel" "s" "[I", .fieldLink RX4 16 "ConcertUsherModel" "saved" "[I", .methodLink RX4 44 yX4_fails, .instanceMethod yX4_fails, .selects RX4 yX4_fails yX4_fails, .initialized RX4, .code yX4_fails cX4_fails 2 (some .int)] ++ wsX40)
def wsX4_savedStates : List Cond := .code yX4_savedStates cX4_savedStates 1 (some .int) :: ([.fieldLink RX4 25 "ConcertUsherModel" "thrown" "I", .fieldLink RX4 33 "ConcertUsherModel" "savedMany" "I"] ++ wsX40)
def wsX4_hashes : List Cond := .code yX4_hashes cX4_hashes 2 none :: ([.constantLong RX4 144 (31), .fieldLink RX4 146 "ConcertUsherModel" "hash" "J"] ++ wsX40)
def wsX4_digest_r1 : List Cond := [Cond.fieldLink RX4 25 "ConcertUsherModel" "thrown" "I", Cond.constantLong RX4 150 (4701), Cond.fieldLink RX4 146 "ConcertUsherModel" "hash" "J", Cond.fieldLink RX4 7 "ConcertUsherModel" "s" "[I", Cond.methodLink RX4 152 yX4_hashes, Cond.instanceMethod yX4_hashes, Cond.selects RX4 yX4_hashes yX4_hashes, Cond.initialized RX4, Cond.code yX4_hashes cX4_hashes 2 none, Cond.constantLong RX4 144 (31), Cond.methodLink RX4 65 yX4_chiefNow, Cond.instanceMethod yX4_chiefNow, Cond.selects RX4 yX4_chiefNow yX4_chiefNow, Cond.code yX4_chiefNow cX4_chiefNow 1 (some .int), Cond.methodLink RX4 69 yX4_entriesNow, Cond.instanceMethod yX4_entriesNow, Cond.selects RX4 yX4_entriesNow yX4_entriesNow, Cond.code yX4_entriesNow cX4_entriesNow 3 (some .int), Cond.methodLink RX4 110 yX4_asksIn, Cond.instanceMethod yX4_asksIn, Cond.selects RX4 yX4_asksIn yX4_asksIn, Cond.code yX4_asksIn cX4_asksIn 2 (some .int), Cond.methodLink RX4 88 yX4_due, Cond.instanceMethod yX4_due]
def wsX4_digest_r2 : List Cond := [Cond.selects RX4 yX4_due yX4_due, Cond.code yX4_due cX4_due 1 (some .int), Cond.methodLink RX4 82 yX4_rowsOf, Cond.instanceMethod yX4_rowsOf, Cond.selects RX4 yX4_rowsOf yX4_rowsOf, Cond.code yX4_rowsOf cX4_rowsOf 4 (some .int), Cond.methodLink RX4 72 yX4_goes, Cond.instanceMethod yX4_goes, Cond.selects RX4 yX4_goes yX4_goes, Cond.code yX4_goes cX4_goes 3 (some .boolean), Cond.methodLink RX4 48 yX4_cellOf, Cond.static yX4_cellOf, Cond.code yX4_cellOf cX4_cellOf 2 (some .int), Cond.methodLink RX4 85 yX4_wantedOf, Cond.instanceMethod yX4_wantedOf, Cond.selects RX4 yX4_wantedOf yX4_wantedOf, Cond.code yX4_wantedOf cX4_wantedOf 4 (some .int), Cond.methodLink RX4 75 yX4_wants, Cond.instanceMethod yX4_wants, Cond.selects RX4 yX4_wants yX4_wants, Cond.code yX4_wants cX4_wants 3 (some .boolean), Cond.methodLink RX4 107 yX4_fadesIn, Cond.instanceMethod yX4_fadesIn, Cond.selects RX4 yX4_fadesIn yX4_fadesIn]
def wsX4_digest_r3 : List Cond := [Cond.code yX4_fadesIn cX4_fadesIn 4 (some .int), Cond.methodLink RX4 101 yX4_putAside, Cond.instanceMethod yX4_putAside, Cond.selects RX4 yX4_putAside yX4_putAside, Cond.code yX4_putAside cX4_putAside 2 none, Cond.fieldLink RX4 13 "ConcertUsherModel" "aside" "[I", Cond.methodLink RX4 91 yX4_goesBy, Cond.instanceMethod yX4_goesBy, Cond.selects RX4 yX4_goesBy yX4_goesBy, Cond.code yX4_goesBy cX4_goesBy 3 (some .boolean), Cond.methodLink RX4 36 yX4_calls, Cond.instanceMethod yX4_calls, Cond.selects RX4 yX4_calls yX4_calls, Cond.code yX4_calls cX4_calls 2 none, Cond.methodLink RX4 104 yX4_takeBack, Cond.instanceMethod yX4_takeBack, Cond.selects RX4 yX4_takeBack yX4_takeBack, Cond.code yX4_takeBack cX4_takeBack 2 none]
def wsX4_digest : List Cond := .code yX4_digest cX4_digest 2 (some .long) :: ((wsX4_digest_r1 ++ (wsX4_digest_r2 ++ wsX4_digest_r3)) ++ wsX40)
def wsJ9_max_7cf53 : List Cond := .code yJ9_max_7cf53 cJ9_max_7cf53 2 (some .int) :: ([])
def wsL_come_r1 : List Cond := [Cond.classLink RL 13 "java/lang/IndexOutOfBoundsException", Cond.classLink RL 15 "java/lang/IllegalStateException", Cond.methodLink RL 7 yX3_come, Cond.instanceMethod yX3_come, Cond.selects RX3 yX3_come yX3_come, Cond.initialized RX3, Cond.code yX3_come cX3_come 4 (some .int), Cond.classLink RX3 45 "java/lang/IllegalStateException", Cond.initialized "java/lang/IllegalStateException", Cond.fieldLink RX3 12 "ConcertUsher" "hall" "LConcertUsher$Hall;", Cond.fieldLink RX3 19 "ConcertUsher" "history" "LConcertUsher$History;", Cond.fieldLink RX3 59 "ConcertUsher$Hall" "listeners" "[I", Cond.methodLink RX3 30 yX3_checkRow, Cond.static yX3_checkRow, Cond.code yX3_checkRow cX3_checkRow 1 none, Cond.classLink RX3 101 "java/lang/IndexOutOfBoundsException", Cond.initialized "java/lang/IndexOutOfBoundsException", Cond.methodLink RX3 34 yX3_checkConcert, Cond.static yX3_checkConcert, Cond.code yX3_checkConcert cX3_checkConcert 1 none, Cond.methodLink RX3 37 yX3_placeOf, Cond.static yX3_placeOf, Cond.code yX3_placeOf cX3_placeOf 2 (some .int), Cond.methodLink RX3 41 yX1_hasRoom]
def wsL_come_r2 : List Cond := [Cond.instanceMethod yX1_hasRoom, Cond.selects RX1 yX1_hasRoom yX1_hasRoom, Cond.initialized RX1, Cond.code yX1_hasRoom cX1_hasRoom 2 (some .boolean), Cond.fieldLink RX1 9 "ConcertUsher$Hall" "listeners" "[I", Cond.methodLink RX3 52 yX2_keep, Cond.instanceMethod yX2_keep, Cond.selects RX2 yX2_keep yX2_keep, Cond.initialized RX2, Cond.code yX2_keep cX2_keep 2 none, Cond.fieldLink RX2 21 "ConcertUsher$History" "size" "I", Cond.fieldLink RX2 17 "ConcertUsher$History" "oldest" "I", Cond.fieldLink RX2 11 "ConcertUsher$History" "halls" "[LConcertUsher$Hall;", Cond.methodLink RX2 25 yX1_copyFrom, Cond.instanceMethod yX1_copyFrom, Cond.selects RX1 yX1_copyFrom yX1_copyFrom, Cond.code yX1_copyFrom cX1_copyFrom 2 none, Cond.methodLink RX1 50 arraycopyName, Cond.native arraycopyName, Cond.static arraycopyName, Cond.initialized "java/lang/System", Cond.fieldLink RX1 15 "ConcertUsher$Hall" "rests" "[I", Cond.fieldLink RX1 18 "ConcertUsher$Hall" "counts" "[I", Cond.fieldLink RX1 21 "ConcertUsher$Hall" "openRows" "I"]
def wsL_come_r3 : List Cond := [Cond.fieldLink RX1 25 "ConcertUsher$Hall" "isQuick" "Z", Cond.fieldLink RX1 29 "ConcertUsher$Hall" "isFirstPresent" "Z", Cond.fieldLink RX1 32 "ConcertUsher$Hall" "isSecondPresent" "Z", Cond.fieldLink RX1 35 "ConcertUsher$Hall" "fading" "I", Cond.fieldLink RX1 38 "ConcertUsher$Hall" "patience" "I", Cond.fieldLink RX1 41 "ConcertUsher$Hall" "asking" "I", Cond.fieldLink RX1 44 "ConcertUsher$Hall" "minutes" "I", Cond.fieldLink RX1 47 "ConcertUsher$Hall" "sinceQuestion" "I", Cond.methodLink RX3 56 yX1_seat, Cond.instanceMethod yX1_seat, Cond.selects RX1 yX1_seat yX1_seat, Cond.code yX1_seat cX1_seat 2 none, Cond.methodLink RX1 56 yX1_hearCall, Cond.instanceMethod yX1_hearCall, Cond.selects RX1 yX1_hearCall yX1_hearCall, Cond.code yX1_hearCall cX1_hearCall 2 none]
def wsL_come : List Cond := .codeWith yL_come cL_come 5 (some .int) [(0, 10, 13, 13), (0, 10, 17, 15)] :: ((wsL_come_r1 ++ (wsL_come_r2 ++ wsL_come_r3)) ++ wsX30 ++ wsX10 ++ wsX20 ++ (vx_atS RX3 49 "java/lang/IllegalStateException" ["java/lang/RuntimeException", "java/lang/Exception"]).filter goodWord ++ (vx_atS RX3 105 "java/lang/IndexOutOfBoundsException" ["java/lang/RuntimeException", "java/lang/Exception"]).filter goodWord)
def wsL_leave_r1 : List Cond := [Cond.classLink RL 13 "java/lang/IndexOutOfBoundsException", Cond.classLink RL 15 "java/lang/IllegalStateException", Cond.methodLink RL 17 yX3_leave, Cond.instanceMethod yX3_leave, Cond.selects RX3 yX3_leave yX3_leave, Cond.initialized RX3, Cond.code yX3_leave cX3_leave 5 (some .int), Cond.classLink RX3 45 "java/lang/IllegalStateException", Cond.initialized "java/lang/IllegalStateException", Cond.fieldLink RX3 12 "ConcertUsher" "hall" "LConcertUsher$Hall;", Cond.fieldLink RX3 19 "ConcertUsher" "history" "LConcertUsher$History;", Cond.fieldLink RX3 59 "ConcertUsher$Hall" "listeners" "[I", Cond.methodLink RX3 30 yX3_checkRow, Cond.static yX3_checkRow, Cond.code yX3_checkRow cX3_checkRow 1 none, Cond.classLink RX3 101 "java/lang/IndexOutOfBoundsException", Cond.initialized "java/lang/IndexOutOfBoundsException", Cond.methodLink RX3 34 yX3_checkConcert, Cond.static yX3_checkConcert, Cond.code yX3_checkConcert cX3_checkConcert 1 none, Cond.methodLink RX3 37 yX3_placeOf, Cond.static yX3_placeOf, Cond.code yX3_placeOf cX3_placeOf 2 (some .int), Cond.methodLink RX3 63 yX1_isWantedAt]
def wsL_leave_r2 : List Cond := [Cond.instanceMethod yX1_isWantedAt, Cond.selects RX1 yX1_isWantedAt yX1_isWantedAt, Cond.initialized RX1, Cond.code yX1_isWantedAt cX1_isWantedAt 2 (some .boolean), Cond.fieldLink RX1 9 "ConcertUsher$Hall" "listeners" "[I", Cond.methodLink RX3 52 yX2_keep, Cond.instanceMethod yX2_keep, Cond.selects RX2 yX2_keep yX2_keep, Cond.initialized RX2, Cond.code yX2_keep cX2_keep 2 none, Cond.fieldLink RX2 21 "ConcertUsher$History" "size" "I", Cond.fieldLink RX2 17 "ConcertUsher$History" "oldest" "I", Cond.fieldLink RX2 11 "ConcertUsher$History" "halls" "[LConcertUsher$Hall;", Cond.methodLink RX2 25 yX1_copyFrom, Cond.instanceMethod yX1_copyFrom, Cond.selects RX1 yX1_copyFrom yX1_copyFrom, Cond.code yX1_copyFrom cX1_copyFrom 2 none, Cond.methodLink RX1 50 arraycopyName, Cond.native arraycopyName, Cond.static arraycopyName, Cond.initialized "java/lang/System", Cond.fieldLink RX1 15 "ConcertUsher$Hall" "rests" "[I", Cond.fieldLink RX1 18 "ConcertUsher$Hall" "counts" "[I", Cond.fieldLink RX1 21 "ConcertUsher$Hall" "openRows" "I"]
def wsL_leave_r3 : List Cond := [Cond.fieldLink RX1 25 "ConcertUsher$Hall" "isQuick" "Z", Cond.fieldLink RX1 29 "ConcertUsher$Hall" "isFirstPresent" "Z", Cond.fieldLink RX1 32 "ConcertUsher$Hall" "isSecondPresent" "Z", Cond.fieldLink RX1 35 "ConcertUsher$Hall" "fading" "I", Cond.fieldLink RX1 38 "ConcertUsher$Hall" "patience" "I", Cond.fieldLink RX1 41 "ConcertUsher$Hall" "asking" "I", Cond.fieldLink RX1 44 "ConcertUsher$Hall" "minutes" "I", Cond.fieldLink RX1 47 "ConcertUsher$Hall" "sinceQuestion" "I", Cond.methodLink RX3 68 yX1_unseat, Cond.instanceMethod yX1_unseat, Cond.selects RX1 yX1_unseat yX1_unseat, Cond.code yX1_unseat cX1_unseat 3 none, Cond.methodLink RX1 60 yX1_hearFarewell, Cond.instanceMethod yX1_hearFarewell, Cond.selects RX1 yX1_hearFarewell yX1_hearFarewell, Cond.code yX1_hearFarewell cX1_hearFarewell 2 none, Cond.methodLink RX1 63 yX1_isWantedAt, Cond.methodLink RX1 67 yX1_askRow, Cond.instanceMethod yX1_askRow, Cond.selects RX1 yX1_askRow yX1_askRow, Cond.code yX1_askRow cX1_askRow 2 none, Cond.methodLink RX1 56 yX1_hearCall, Cond.instanceMethod yX1_hearCall, Cond.selects RX1 yX1_hearCall yX1_hearCall]
def wsL_leave_r4 : List Cond := [Cond.code yX1_hearCall cX1_hearCall 2 none]
def wsL_leave : List Cond := .codeWith yL_leave cL_leave 6 (some .int) [(0, 12, 15, 13), (0, 12, 19, 15)] :: ((wsL_leave_r1 ++ (wsL_leave_r2 ++ (wsL_leave_r3 ++ wsL_leave_r4))) ++ wsX30 ++ wsX10 ++ wsX20 ++ (vx_atS RX3 49 "java/lang/IllegalStateException" ["java/lang/RuntimeException", "java/lang/Exception"]).filter goodWord ++ (vx_atS RX3 105 "java/lang/IndexOutOfBoundsException" ["java/lang/RuntimeException", "java/lang/Exception"]).filter goodWord)
def wsL_listeners : List Cond := .codeWith yL_listeners cL_listeners 5 (some .int) [(0, 10, 13, 13)] :: ([.classLink RL 13 "java/lang/IndexOutOfBoundsException", .methodLink RL 21 yX3_listeners, .instanceMethod yX3_listeners, .selects RX3 yX3_listeners yX3_listeners, .initialized RX3, .code yX3_listeners cX3_listeners 3 (some .int), .fieldLink RX3 12 "ConcertUsher" "hall" "LConcertUsher$Hall;", .fieldLink RX3 59 "ConcertUsher$Hall" "listeners" "[I", .methodLink RX3 30 yX3_checkRow, .static yX3_checkRow, .code yX3_checkRow cX3_checkRow 1 none, .classLink RX3 101 "java/lang/IndexOutOfBoundsException", .initialized "java/lang/IndexOutOfBoundsException", .methodLink RX3 34 yX3_checkConcert, .static yX3_checkConcert, .code yX3_checkConcert cX3_checkConcert 1 none, .methodLink RX3 37 yX3_placeOf, .static yX3_placeOf, .code yX3_placeOf cX3_placeOf 2 (some .int)] ++ wsX30 ++ wsX10 ++ (vx_atS RX3 105 "java/lang/IndexOutOfBoundsException" ["java/lang/RuntimeException", "java/lang/Exception"]).filter goodWord)
def wsL_setOpen_r1 : List Cond := [Cond.classLink RL 13 "java/lang/IndexOutOfBoundsException", Cond.methodLink RL 24 yX3_setOpen, Cond.instanceMethod yX3_setOpen, Cond.selects RX3 yX3_setOpen yX3_setOpen, Cond.initialized RX3, Cond.code yX3_setOpen cX3_setOpen 4 (some .boolean), Cond.fieldLink RX3 19 "ConcertUsher" "history" "LConcertUsher$History;", Cond.fieldLink RX3 12 "ConcertUsher" "hall" "LConcertUsher$Hall;", Cond.methodLink RX3 30 yX3_checkRow, Cond.static yX3_checkRow, Cond.code yX3_checkRow cX3_checkRow 1 none, Cond.classLink RX3 101 "java/lang/IndexOutOfBoundsException", Cond.initialized "java/lang/IndexOutOfBoundsException", Cond.methodLink RX3 52 yX2_keep, Cond.instanceMethod yX2_keep, Cond.selects RX2 yX2_keep yX2_keep, Cond.initialized RX2, Cond.code yX2_keep cX2_keep 2 none, Cond.fieldLink RX2 21 "ConcertUsher$History" "size" "I", Cond.fieldLink RX2 17 "ConcertUsher$History" "oldest" "I", Cond.fieldLink RX2 11 "ConcertUsher$History" "halls" "[LConcertUsher$Hall;", Cond.methodLink RX2 25 yX1_copyFrom, Cond.instanceMethod yX1_copyFrom, Cond.selects RX1 yX1_copyFrom yX1_copyFrom]
def wsL_setOpen_r2 : List Cond := [Cond.initialized RX1, Cond.code yX1_copyFrom cX1_copyFrom 2 none, Cond.fieldLink RX1 9 "ConcertUsher$Hall" "listeners" "[I", Cond.methodLink RX1 50 arraycopyName, Cond.native arraycopyName, Cond.static arraycopyName, Cond.initialized "java/lang/System", Cond.fieldLink RX1 15 "ConcertUsher$Hall" "rests" "[I", Cond.fieldLink RX1 18 "ConcertUsher$Hall" "counts" "[I", Cond.fieldLink RX1 21 "ConcertUsher$Hall" "openRows" "I", Cond.fieldLink RX1 25 "ConcertUsher$Hall" "isQuick" "Z", Cond.fieldLink RX1 29 "ConcertUsher$Hall" "isFirstPresent" "Z", Cond.fieldLink RX1 32 "ConcertUsher$Hall" "isSecondPresent" "Z", Cond.fieldLink RX1 35 "ConcertUsher$Hall" "fading" "I", Cond.fieldLink RX1 38 "ConcertUsher$Hall" "patience" "I", Cond.fieldLink RX1 41 "ConcertUsher$Hall" "asking" "I", Cond.fieldLink RX1 44 "ConcertUsher$Hall" "minutes" "I", Cond.fieldLink RX1 47 "ConcertUsher$Hall" "sinceQuestion" "I", Cond.methodLink RX3 72 yX1_isRowOpen, Cond.instanceMethod yX1_isRowOpen, Cond.selects RX1 yX1_isRowOpen yX1_isRowOpen, Cond.code yX1_isRowOpen cX1_isRowOpen 2 (some .boolean), Cond.methodLink RX3 75 yX1_turnRow, Cond.instanceMethod yX1_turnRow]
def wsL_setOpen_r3 : List Cond := [Cond.selects RX1 yX1_turnRow yX1_turnRow, Cond.code yX1_turnRow cX1_turnRow 2 none]
def wsL_setOpen : List Cond := .codeWith yL_setOpen cL_setOpen 5 (some .int) [(0, 17, 20, 13)] :: ((wsL_setOpen_r1 ++ (wsL_setOpen_r2 ++ wsL_setOpen_r3)) ++ wsX30 ++ wsX20 ++ wsX10 ++ (vx_atS RX3 105 "java/lang/IndexOutOfBoundsException" ["java/lang/RuntimeException", "java/lang/Exception"]).filter goodWord)
def wsL_setTimes_r1 : List Cond := [Cond.classLink RL 32 "java/lang/IllegalArgumentException", Cond.methodLink RL 28 yX3_setTimes, Cond.instanceMethod yX3_setTimes, Cond.selects RX3 yX3_setTimes yX3_setTimes, Cond.initialized RX3, Cond.code yX3_setTimes cX3_setTimes 5 (some .int), Cond.classLink RX3 82 "java/lang/IllegalArgumentException", Cond.initialized "java/lang/IllegalArgumentException", Cond.fieldLink RX3 19 "ConcertUsher" "history" "LConcertUsher$History;", Cond.fieldLink RX3 12 "ConcertUsher" "hall" "LConcertUsher$Hall;", Cond.fieldLink RX3 91 "ConcertUsher$Hall" "fading" "I", Cond.fieldLink RX3 95 "ConcertUsher$Hall" "patience" "I", Cond.fieldLink RX3 98 "ConcertUsher$Hall" "asking" "I", Cond.methodLink RX3 52 yX2_keep, Cond.instanceMethod yX2_keep, Cond.selects RX2 yX2_keep yX2_keep, Cond.initialized RX2, Cond.code yX2_keep cX2_keep 2 none, Cond.fieldLink RX2 21 "ConcertUsher$History" "size" "I", Cond.fieldLink RX2 17 "ConcertUsher$History" "oldest" "I", Cond.fieldLink RX2 11 "ConcertUsher$History" "halls" "[LConcertUsher$Hall;", Cond.methodLink RX2 25 yX1_copyFrom, Cond.instanceMethod yX1_copyFrom, Cond.selects RX1 yX1_copyFrom yX1_copyFrom]
def wsL_setTimes_r2 : List Cond := [Cond.initialized RX1, Cond.code yX1_copyFrom cX1_copyFrom 2 none, Cond.fieldLink RX1 9 "ConcertUsher$Hall" "listeners" "[I", Cond.methodLink RX1 50 arraycopyName, Cond.native arraycopyName, Cond.static arraycopyName, Cond.initialized "java/lang/System", Cond.fieldLink RX1 15 "ConcertUsher$Hall" "rests" "[I", Cond.fieldLink RX1 18 "ConcertUsher$Hall" "counts" "[I", Cond.fieldLink RX1 21 "ConcertUsher$Hall" "openRows" "I", Cond.fieldLink RX1 25 "ConcertUsher$Hall" "isQuick" "Z", Cond.fieldLink RX1 29 "ConcertUsher$Hall" "isFirstPresent" "Z", Cond.fieldLink RX1 32 "ConcertUsher$Hall" "isSecondPresent" "Z", Cond.fieldLink RX1 35 "ConcertUsher$Hall" "fading" "I", Cond.fieldLink RX1 38 "ConcertUsher$Hall" "patience" "I", Cond.fieldLink RX1 41 "ConcertUsher$Hall" "asking" "I", Cond.fieldLink RX1 44 "ConcertUsher$Hall" "minutes" "I", Cond.fieldLink RX1 47 "ConcertUsher$Hall" "sinceQuestion" "I"]
def wsL_setTimes : List Cond := .codeWith yL_setTimes cL_setTimes 6 (some .int) [(0, 12, 15, 32)] :: ((wsL_setTimes_r1 ++ wsL_setTimes_r2) ++ wsX30 ++ wsX10 ++ wsX20 ++ (vx_atS RX3 86 "java/lang/IllegalArgumentException" ["java/lang/RuntimeException", "java/lang/Exception"]).filter goodWord)
def wsL_setPresent_r1 : List Cond := [Cond.classLink RL 13 "java/lang/IndexOutOfBoundsException", Cond.methodLink RL 34 yX3_setPresent, Cond.instanceMethod yX3_setPresent, Cond.selects RX3 yX3_setPresent yX3_setPresent, Cond.initialized RX3, Cond.code yX3_setPresent cX3_setPresent 3 (some .int), Cond.classLink RX3 101 "java/lang/IndexOutOfBoundsException", Cond.initialized "java/lang/IndexOutOfBoundsException", Cond.fieldLink RX3 19 "ConcertUsher" "history" "LConcertUsher$History;", Cond.fieldLink RX3 12 "ConcertUsher" "hall" "LConcertUsher$Hall;", Cond.fieldLink RX3 106 "ConcertUsher$Hall" "isFirstPresent" "Z", Cond.fieldLink RX3 109 "ConcertUsher$Hall" "isSecondPresent" "Z", Cond.methodLink RX3 52 yX2_keep, Cond.instanceMethod yX2_keep, Cond.selects RX2 yX2_keep yX2_keep, Cond.initialized RX2, Cond.code yX2_keep cX2_keep 2 none, Cond.fieldLink RX2 21 "ConcertUsher$History" "size" "I", Cond.fieldLink RX2 17 "ConcertUsher$History" "oldest" "I", Cond.fieldLink RX2 11 "ConcertUsher$History" "halls" "[LConcertUsher$Hall;", Cond.methodLink RX2 25 yX1_copyFrom, Cond.instanceMethod yX1_copyFrom, Cond.selects RX1 yX1_copyFrom yX1_copyFrom, Cond.initialized RX1]
def wsL_setPresent_r2 : List Cond := [Cond.code yX1_copyFrom cX1_copyFrom 2 none, Cond.fieldLink RX1 9 "ConcertUsher$Hall" "listeners" "[I", Cond.methodLink RX1 50 arraycopyName, Cond.native arraycopyName, Cond.static arraycopyName, Cond.initialized "java/lang/System", Cond.fieldLink RX1 15 "ConcertUsher$Hall" "rests" "[I", Cond.fieldLink RX1 18 "ConcertUsher$Hall" "counts" "[I", Cond.fieldLink RX1 21 "ConcertUsher$Hall" "openRows" "I", Cond.fieldLink RX1 25 "ConcertUsher$Hall" "isQuick" "Z", Cond.fieldLink RX1 29 "ConcertUsher$Hall" "isFirstPresent" "Z", Cond.fieldLink RX1 32 "ConcertUsher$Hall" "isSecondPresent" "Z", Cond.fieldLink RX1 35 "ConcertUsher$Hall" "fading" "I", Cond.fieldLink RX1 38 "ConcertUsher$Hall" "patience" "I", Cond.fieldLink RX1 41 "ConcertUsher$Hall" "asking" "I", Cond.fieldLink RX1 44 "ConcertUsher$Hall" "minutes" "I", Cond.fieldLink RX1 47 "ConcertUsher$Hall" "sinceQuestion" "I", Cond.methodLink RX3 112 yX1_chiefAsker, Cond.instanceMethod yX1_chiefAsker, Cond.selects RX1 yX1_chiefAsker yX1_chiefAsker, Cond.code yX1_chiefAsker cX1_chiefAsker 1 (some .int)]
def wsL_setPresent : List Cond := .codeWith yL_setPresent cL_setPresent 5 (some .int) [(0, 10, 13, 13)] :: ((wsL_setPresent_r1 ++ wsL_setPresent_r2) ++ wsX30 ++ wsX10 ++ wsX20 ++ (vx_atS RX3 105 "java/lang/IndexOutOfBoundsException" ["java/lang/RuntimeException", "java/lang/Exception"]).filter goodWord)
def wsL_rest : List Cond := .codeWith yL_rest cL_rest 5 (some .int) [(0, 10, 13, 13)] :: ([.classLink RL 13 "java/lang/IndexOutOfBoundsException", .methodLink RL 38 yX3_rest, .instanceMethod yX3_rest, .selects RX3 yX3_rest yX3_rest, .initialized RX3, .code yX3_rest cX3_rest 3 (some .int), .fieldLink RX3 12 "ConcertUsher" "hall" "LConcertUsher$Hall;", .fieldLink RX3 116 "ConcertUsher$Hall" "rests" "[I", .methodLink RX3 30 yX3_checkRow, .static yX3_checkRow, .code yX3_checkRow cX3_checkRow 1 none, .classLink RX3 101 "java/lang/IndexOutOfBoundsException", .initialized "java/lang/IndexOutOfBoundsException", .methodLink RX3 34 yX3_checkConcert, .static yX3_checkConcert, .code yX3_checkConcert cX3_checkConcert 1 none, .methodLink RX3 37 yX3_placeOf, .static yX3_placeOf, .code yX3_placeOf cX3_placeOf 2 (some .int)] ++ wsX30 ++ wsX10 ++ (vx_atS RX3 105 "java/lang/IndexOutOfBoundsException" ["java/lang/RuntimeException", "java/lang/Exception"]).filter goodWord)
def wsL_isOpen : List Cond := .codeWith yL_isOpen cL_isOpen 4 (some .int) [(0, 16, 19, 13)] :: ([.classLink RL 13 "java/lang/IndexOutOfBoundsException", .methodLink RL 41 yX3_isOpen, .instanceMethod yX3_isOpen, .selects RX3 yX3_isOpen yX3_isOpen, .initialized RX3, .code yX3_isOpen cX3_isOpen 2 (some .boolean), .fieldLink RX3 12 "ConcertUsher" "hall" "LConcertUsher$Hall;", .methodLink RX3 30 yX3_checkRow, .static yX3_checkRow, .code yX3_checkRow cX3_checkRow 1 none, .classLink RX3 101 "java/lang/IndexOutOfBoundsException", .initialized "java/lang/IndexOutOfBoundsException", .methodLink RX3 72 yX1_isRowOpen, .instanceMethod yX1_isRowOpen, .selects RX1 yX1_isRowOpen yX1_isRowOpen, .initialized RX1, .code yX1_isRowOpen cX1_isRowOpen 2 (some .boolean), .fieldLink RX1 21 "ConcertUsher$Hall" "openRows" "I"] ++ wsX30 ++ wsX10 ++ (vx_atS RX3 105 "java/lang/IndexOutOfBoundsException" ["java/lang/RuntimeException", "java/lang/Exception"]).filter goodWord)
def wsL_rows : List Cond := .codeWith yL_rows cL_rows 4 (some .int) [(0, 9, 12, 13)] :: ([.classLink RL 13 "java/lang/IndexOutOfBoundsException", .methodLink RL 45 yX3_rows, .instanceMethod yX3_rows, .selects RX3 yX3_rows yX3_rows, .initialized RX3, .code yX3_rows cX3_rows 2 (some .int), .fieldLink RX3 12 "ConcertUsher" "hall" "LConcertUsher$Hall;", .methodLink RX3 34 yX3_checkConcert, .static yX3_checkConcert, .code yX3_checkConcert cX3_checkConcert 1 none, .classLink RX3 101 "java/lang/IndexOutOfBoundsException", .initialized "java/lang/IndexOutOfBoundsException", .methodLink RX3 122 yX1_rowsThatGet, .instanceMethod yX1_rowsThatGet, .selects RX1 yX1_rowsThatGet yX1_rowsThatGet, .initialized RX1, .code yX1_rowsThatGet cX1_rowsThatGet 4 (some .int), .fieldLink RX1 21 "ConcertUsher$Hall" "openRows" "I", .fieldLink RX1 15 "ConcertUsher$Hall" "rests" "[I", .static yX3_placeOf, .code yX3_placeOf cX3_placeOf 2 (some .int)] ++ wsX30 ++ wsX10 ++ (vx_atS RX3 105 "java/lang/IndexOutOfBoundsException" ["java/lang/RuntimeException", "java/lang/Exception"]).filter goodWord)
def wsL_wanted : List Cond := .codeWith yL_wanted cL_wanted 4 (some .int) [(0, 9, 12, 13)] :: ([.classLink RL 13 "java/lang/IndexOutOfBoundsException", .methodLink RL 49 yX3_wanted, .instanceMethod yX3_wanted, .selects RX3 yX3_wanted yX3_wanted, .initialized RX3, .code yX3_wanted cX3_wanted 2 (some .int), .fieldLink RX3 12 "ConcertUsher" "hall" "LConcertUsher$Hall;", .methodLink RX3 34 yX3_checkConcert, .static yX3_checkConcert, .code yX3_checkConcert cX3_checkConcert 1 none, .classLink RX3 101 "java/lang/IndexOutOfBoundsException", .initialized "java/lang/IndexOutOfBoundsException", .methodLink RX3 126 yX1_rowsThatWant, .instanceMethod yX1_rowsThatWant, .selects RX1 yX1_rowsThatWant yX1_rowsThatWant, .initialized RX1, .code yX1_rowsThatWant cX1_rowsThatWant 4 (some .int), .static yX3_placeOf, .code yX3_placeOf cX3_placeOf 2 (some .int), .methodLink RX1 63 yX1_isWantedAt, .instanceMethod yX1_isWantedAt, .selects RX1 yX1_isWantedAt yX1_isWantedAt, .code yX1_isWantedAt cX1_isWantedAt 2 (some .boolean), .fieldLink RX1 9 "ConcertUsher$Hall" "listeners" "[I"] ++ wsX30 ++ wsX10 ++ (vx_atS RX3 105 "java/lang/IndexOutOfBoundsException" ["java/lang/RuntimeException", "java/lang/Exception"]).filter goodWord)
def wsL_pass_r1 : List Cond := [Cond.classLink RL 32 "java/lang/IllegalArgumentException", Cond.methodLink RL 52 yX3_pass, Cond.instanceMethod yX3_pass, Cond.selects RX3 yX3_pass yX3_pass, Cond.initialized RX3, Cond.code yX3_pass cX3_pass 2 (some .int), Cond.fieldLink RX3 19 "ConcertUsher" "history" "LConcertUsher$History;", Cond.fieldLink RX3 12 "ConcertUsher" "hall" "LConcertUsher$Hall;", Cond.methodLink RX3 129 yX3_checkMinutes, Cond.static yX3_checkMinutes, Cond.code yX3_checkMinutes cX3_checkMinutes 1 none, Cond.classLink RX3 82 "java/lang/IllegalArgumentException", Cond.initialized "java/lang/IllegalArgumentException", Cond.methodLink RX3 52 yX2_keep, Cond.instanceMethod yX2_keep, Cond.selects RX2 yX2_keep yX2_keep, Cond.initialized RX2, Cond.code yX2_keep cX2_keep 2 none, Cond.fieldLink RX2 21 "ConcertUsher$History" "size" "I", Cond.fieldLink RX2 17 "ConcertUsher$History" "oldest" "I", Cond.fieldLink RX2 11 "ConcertUsher$History" "halls" "[LConcertUsher$Hall;", Cond.methodLink RX2 25 yX1_copyFrom, Cond.instanceMethod yX1_copyFrom, Cond.selects RX1 yX1_copyFrom yX1_copyFrom]
def wsL_pass_r2 : List Cond := [Cond.initialized RX1, Cond.code yX1_copyFrom cX1_copyFrom 2 none, Cond.fieldLink RX1 9 "ConcertUsher$Hall" "listeners" "[I", Cond.methodLink RX1 50 arraycopyName, Cond.native arraycopyName, Cond.static arraycopyName, Cond.initialized "java/lang/System", Cond.fieldLink RX1 15 "ConcertUsher$Hall" "rests" "[I", Cond.fieldLink RX1 18 "ConcertUsher$Hall" "counts" "[I", Cond.fieldLink RX1 21 "ConcertUsher$Hall" "openRows" "I", Cond.fieldLink RX1 25 "ConcertUsher$Hall" "isQuick" "Z", Cond.fieldLink RX1 29 "ConcertUsher$Hall" "isFirstPresent" "Z", Cond.fieldLink RX1 32 "ConcertUsher$Hall" "isSecondPresent" "Z", Cond.fieldLink RX1 35 "ConcertUsher$Hall" "fading" "I", Cond.fieldLink RX1 38 "ConcertUsher$Hall" "patience" "I", Cond.fieldLink RX1 41 "ConcertUsher$Hall" "asking" "I", Cond.fieldLink RX1 44 "ConcertUsher$Hall" "minutes" "I", Cond.fieldLink RX1 47 "ConcertUsher$Hall" "sinceQuestion" "I", Cond.methodLink RX3 132 yX1_letPass, Cond.instanceMethod yX1_letPass, Cond.selects RX1 yX1_letPass yX1_letPass, Cond.code yX1_letPass cX1_letPass 4 (some .int), Cond.methodLink RX1 74 yX1_fadeEntries, Cond.instanceMethod yX1_fadeEntries]
def wsL_pass_r3 : List Cond := [Cond.selects RX1 yX1_fadeEntries yX1_fadeEntries, Cond.code yX1_fadeEntries cX1_fadeEntries 2 none, Cond.methodLink RX1 77 yX1_timeBetweenQuestions, Cond.instanceMethod yX1_timeBetweenQuestions, Cond.selects RX1 yX1_timeBetweenQuestions yX1_timeBetweenQuestions, Cond.code yX1_timeBetweenQuestions cX1_timeBetweenQuestions 1 (some .int), Cond.methodLink RX1 84 yX1_chiefAsker, Cond.instanceMethod yX1_chiefAsker, Cond.selects RX1 yX1_chiefAsker yX1_chiefAsker, Cond.code yX1_chiefAsker cX1_chiefAsker 1 (some .int), Cond.methodLink RX1 81 yX1_askAllRows, Cond.instanceMethod yX1_askAllRows, Cond.selects RX1 yX1_askAllRows yX1_askAllRows, Cond.code yX1_askAllRows cX1_askAllRows 2 none, Cond.methodLink RX1 63 yX1_isWantedAt, Cond.instanceMethod yX1_isWantedAt, Cond.selects RX1 yX1_isWantedAt yX1_isWantedAt, Cond.code yX1_isWantedAt cX1_isWantedAt 2 (some .boolean), Cond.methodLink RX1 56 yX1_hearCall, Cond.instanceMethod yX1_hearCall, Cond.selects RX1 yX1_hearCall yX1_hearCall, Cond.code yX1_hearCall cX1_hearCall 2 none]
def wsL_pass : List Cond := .codeWith yL_pass cL_pass 4 (some .int) [(0, 9, 12, 32)] :: ((wsL_pass_r1 ++ (wsL_pass_r2 ++ wsL_pass_r3)) ++ wsX30 ++ wsX20 ++ wsX10 ++ (vx_atS RX3 86 "java/lang/IllegalArgumentException" ["java/lang/RuntimeException", "java/lang/Exception"]).filter goodWord)
def wsL_play_r1 : List Cond := [Cond.classLink RL 13 "java/lang/IndexOutOfBoundsException", Cond.methodLink RL 55 yX3_play, Cond.instanceMethod yX3_play, Cond.selects RX3 yX3_play yX3_play, Cond.initialized RX3, Cond.code yX3_play cX3_play 2 (some .int), Cond.fieldLink RX3 19 "ConcertUsher" "history" "LConcertUsher$History;", Cond.fieldLink RX3 12 "ConcertUsher" "hall" "LConcertUsher$Hall;", Cond.methodLink RX3 34 yX3_checkConcert, Cond.static yX3_checkConcert, Cond.code yX3_checkConcert cX3_checkConcert 1 none, Cond.classLink RX3 101 "java/lang/IndexOutOfBoundsException", Cond.initialized "java/lang/IndexOutOfBoundsException", Cond.methodLink RX3 52 yX2_keep, Cond.instanceMethod yX2_keep, Cond.selects RX2 yX2_keep yX2_keep, Cond.initialized RX2, Cond.code yX2_keep cX2_keep 2 none, Cond.fieldLink RX2 21 "ConcertUsher$History" "size" "I", Cond.fieldLink RX2 17 "ConcertUsher$History" "oldest" "I", Cond.fieldLink RX2 11 "ConcertUsher$History" "halls" "[LConcertUsher$Hall;", Cond.methodLink RX2 25 yX1_copyFrom, Cond.instanceMethod yX1_copyFrom, Cond.selects RX1 yX1_copyFrom yX1_copyFrom]
def wsL_play_r2 : List Cond := [Cond.initialized RX1, Cond.code yX1_copyFrom cX1_copyFrom 2 none, Cond.fieldLink RX1 9 "ConcertUsher$Hall" "listeners" "[I", Cond.methodLink RX1 50 arraycopyName, Cond.native arraycopyName, Cond.static arraycopyName, Cond.initialized "java/lang/System", Cond.fieldLink RX1 15 "ConcertUsher$Hall" "rests" "[I", Cond.fieldLink RX1 18 "ConcertUsher$Hall" "counts" "[I", Cond.fieldLink RX1 21 "ConcertUsher$Hall" "openRows" "I", Cond.fieldLink RX1 25 "ConcertUsher$Hall" "isQuick" "Z", Cond.fieldLink RX1 29 "ConcertUsher$Hall" "isFirstPresent" "Z", Cond.fieldLink RX1 32 "ConcertUsher$Hall" "isSecondPresent" "Z", Cond.fieldLink RX1 35 "ConcertUsher$Hall" "fading" "I", Cond.fieldLink RX1 38 "ConcertUsher$Hall" "patience" "I", Cond.fieldLink RX1 41 "ConcertUsher$Hall" "asking" "I", Cond.fieldLink RX1 44 "ConcertUsher$Hall" "minutes" "I", Cond.fieldLink RX1 47 "ConcertUsher$Hall" "sinceQuestion" "I", Cond.methodLink RX3 135 yX1_perform, Cond.instanceMethod yX1_perform, Cond.selects RX1 yX1_perform yX1_perform, Cond.code yX1_perform cX1_perform 4 (some .int), Cond.methodLink RX1 87 yX1_rowsThatGet, Cond.instanceMethod yX1_rowsThatGet]
def wsL_play_r3 : List Cond := [Cond.selects RX1 yX1_rowsThatGet yX1_rowsThatGet, Cond.code yX1_rowsThatGet cX1_rowsThatGet 4 (some .int), Cond.static yX3_placeOf, Cond.code yX3_placeOf cX3_placeOf 2 (some .int), Cond.methodLink RX1 91 yX1_rowsThatWant, Cond.instanceMethod yX1_rowsThatWant, Cond.selects RX1 yX1_rowsThatWant yX1_rowsThatWant, Cond.code yX1_rowsThatWant cX1_rowsThatWant 4 (some .int), Cond.methodLink RX1 63 yX1_isWantedAt, Cond.instanceMethod yX1_isWantedAt, Cond.selects RX1 yX1_isWantedAt yX1_isWantedAt, Cond.code yX1_isWantedAt cX1_isWantedAt 2 (some .boolean), Cond.methodLink RX1 94 yJ6_bitCount_0f7a4, Cond.static yJ6_bitCount_0f7a4, Cond.initialized RJ6, Cond.code yJ6_bitCount_0f7a4 cJ6_bitCount_0f7a4 1 (some .int), Cond.constant RJ6 265 (1431655765), Cond.constant RJ6 266 (858993459), Cond.constant RJ6 267 (252645135)]
def wsL_play : List Cond := .codeWith yL_play cL_play 4 (some .int) [(0, 9, 12, 13)] :: ((wsL_play_r1 ++ (wsL_play_r2 ++ wsL_play_r3)) ++ wsX30 ++ wsX20 ++ wsX10 ++ (vx_atS RX3 105 "java/lang/IndexOutOfBoundsException" ["java/lang/RuntimeException", "java/lang/Exception"]).filter goodWord)
def wsL_count : List Cond := .codeWith yL_count cL_count 4 (some .int) [(0, 9, 12, 13)] :: ([.classLink RL 13 "java/lang/IndexOutOfBoundsException", .methodLink RL 58 yX3_count, .instanceMethod yX3_count, .selects RX3 yX3_count yX3_count, .initialized RX3, .code yX3_count cX3_count 2 (some .int), .classLink RX3 101 "java/lang/IndexOutOfBoundsException", .initialized "java/lang/IndexOutOfBoundsException", .fieldLink RX3 12 "ConcertUsher" "hall" "LConcertUsher$Hall;", .fieldLink RX3 146 "ConcertUsher$Hall" "counts" "[I"] ++ wsX30 ++ wsX10 ++ (vx_atS RX3 105 "java/lang/IndexOutOfBoundsException" ["java/lang/RuntimeException", "java/lang/Exception"]).filter goodWord)
def wsL_minutesToFade_r1 : List Cond := [Cond.classLink RL 13 "java/lang/IndexOutOfBoundsException", Cond.methodLink RL 61 yX3_minutesToFade, Cond.instanceMethod yX3_minutesToFade, Cond.selects RX3 yX3_minutesToFade yX3_minutesToFade, Cond.initialized RX3, Cond.code yX3_minutesToFade cX3_minutesToFade 3 (some .int), Cond.fieldLink RX3 12 "ConcertUsher" "hall" "LConcertUsher$Hall;", Cond.methodLink RX3 30 yX3_checkRow, Cond.static yX3_checkRow, Cond.code yX3_checkRow cX3_checkRow 1 none, Cond.classLink RX3 101 "java/lang/IndexOutOfBoundsException", Cond.initialized "java/lang/IndexOutOfBoundsException", Cond.methodLink RX3 34 yX3_checkConcert, Cond.static yX3_checkConcert, Cond.code yX3_checkConcert cX3_checkConcert 1 none, Cond.methodLink RX3 37 yX3_placeOf, Cond.static yX3_placeOf, Cond.code yX3_placeOf cX3_placeOf 2 (some .int), Cond.methodLink RX3 149 yX1_fadesIn, Cond.instanceMethod yX1_fadesIn, Cond.selects RX1 yX1_fadesIn yX1_fadesIn, Cond.initialized RX1, Cond.code yX1_fadesIn cX1_fadesIn 3 (some .int), Cond.fieldLink RX1 15 "ConcertUsher$Hall" "rests" "[I"]
def wsL_minutesToFade_r2 : List Cond := [Cond.fieldLink RX1 35 "ConcertUsher$Hall" "fading" "I", Cond.methodLink RX1 104 yX1_asksIn, Cond.instanceMethod yX1_asksIn, Cond.selects RX1 yX1_asksIn yX1_asksIn, Cond.code yX1_asksIn cX1_asksIn 1 (some .int), Cond.fieldLink RX1 47 "ConcertUsher$Hall" "sinceQuestion" "I", Cond.methodLink RX1 99 Lib.Math.max.name, Cond.static Lib.Math.max.name, Cond.initialized "java/lang/Math", Cond.code Lib.Math.max.name Lib.Math.max.code 2 (some .int), Cond.methodLink RX1 77 yX1_timeBetweenQuestions, Cond.instanceMethod yX1_timeBetweenQuestions, Cond.selects RX1 yX1_timeBetweenQuestions yX1_timeBetweenQuestions, Cond.code yX1_timeBetweenQuestions cX1_timeBetweenQuestions 1 (some .int), Cond.fieldLink RX1 41 "ConcertUsher$Hall" "asking" "I", Cond.methodLink RX1 84 yX1_chiefAsker, Cond.instanceMethod yX1_chiefAsker, Cond.selects RX1 yX1_chiefAsker yX1_chiefAsker, Cond.code yX1_chiefAsker cX1_chiefAsker 1 (some .int), Cond.fieldLink RX1 32 "ConcertUsher$Hall" "isSecondPresent" "Z", Cond.fieldLink RX1 29 "ConcertUsher$Hall" "isFirstPresent" "Z", Cond.methodLink RX1 63 yX1_isWantedAt, Cond.instanceMethod yX1_isWantedAt, Cond.selects RX1 yX1_isWantedAt yX1_isWantedAt]
def wsL_minutesToFade_r3 : List Cond := [Cond.code yX1_isWantedAt cX1_isWantedAt 2 (some .boolean), Cond.fieldLink RX1 9 "ConcertUsher$Hall" "listeners" "[I"]
def wsL_minutesToFade : List Cond := .codeWith yL_minutesToFade cL_minutesToFade 5 (some .int) [(0, 10, 13, 13)] :: ((wsL_minutesToFade_r1 ++ (wsL_minutesToFade_r2 ++ wsL_minutesToFade_r3)) ++ wsX30 ++ wsX10 ++ (vx_atS RX3 105 "java/lang/IndexOutOfBoundsException" ["java/lang/RuntimeException", "java/lang/Exception"]).filter goodWord)
def wsL_disturbedAfter_r1 : List Cond := [Cond.classLink RL 13 "java/lang/IndexOutOfBoundsException", Cond.classLink RL 32 "java/lang/IllegalArgumentException", Cond.methodLink RL 64 yX3_disturbedAfter, Cond.instanceMethod yX3_disturbedAfter, Cond.selects RX3 yX3_disturbedAfter yX3_disturbedAfter, Cond.initialized RX3, Cond.code yX3_disturbedAfter cX3_disturbedAfter 3 (some .int), Cond.fieldLink RX3 12 "ConcertUsher" "hall" "LConcertUsher$Hall;", Cond.methodLink RX3 34 yX3_checkConcert, Cond.static yX3_checkConcert, Cond.code yX3_checkConcert cX3_checkConcert 1 none, Cond.classLink RX3 101 "java/lang/IndexOutOfBoundsException", Cond.initialized "java/lang/IndexOutOfBoundsException", Cond.methodLink RX3 129 yX3_checkMinutes, Cond.static yX3_checkMinutes, Cond.code yX3_checkMinutes cX3_checkMinutes 1 none, Cond.classLink RX3 82 "java/lang/IllegalArgumentException", Cond.initialized "java/lang/IllegalArgumentException", Cond.methodLink RX3 155 yX1_disturbedIn, Cond.instanceMethod yX1_disturbedIn, Cond.selects RX1 yX1_disturbedIn yX1_disturbedIn, Cond.initialized RX1, Cond.code yX1_disturbedIn cX1_disturbedIn 6 (some .int), Cond.fieldLink RX1 15 "ConcertUsher$Hall" "rests" "[I"]
def wsL_disturbedAfter_r2 : List Cond := [Cond.static yX3_placeOf, Cond.code yX3_placeOf cX3_placeOf 2 (some .int), Cond.methodLink RX1 63 yX1_isWantedAt, Cond.instanceMethod yX1_isWantedAt, Cond.selects RX1 yX1_isWantedAt yX1_isWantedAt, Cond.code yX1_isWantedAt cX1_isWantedAt 2 (some .boolean), Cond.fieldLink RX1 9 "ConcertUsher$Hall" "listeners" "[I", Cond.methodLink RX1 107 yX1_isRowOpen, Cond.instanceMethod yX1_isRowOpen, Cond.selects RX1 yX1_isRowOpen yX1_isRowOpen, Cond.code yX1_isRowOpen cX1_isRowOpen 2 (some .boolean), Cond.fieldLink RX1 21 "ConcertUsher$Hall" "openRows" "I"]
def wsL_disturbedAfter : List Cond := .codeWith yL_disturbedAfter cL_disturbedAfter 5 (some .int) [(0, 10, 13, 13), (0, 10, 17, 32)] :: ((wsL_disturbedAfter_r1 ++ wsL_disturbedAfter_r2) ++ wsX30 ++ wsX10 ++ (vx_atS RX3 105 "java/lang/IndexOutOfBoundsException" ["java/lang/RuntimeException", "java/lang/Exception"]).filter goodWord ++ (vx_atS RX3 86 "java/lang/IllegalArgumentException" ["java/lang/RuntimeException", "java/lang/Exception"]).filter goodWord)
def wsL_append : List Cond := .codeWith yL_append cL_append 4 (some .int) [(0, 9, 12, 32), (0, 9, 15, 15)] :: ([.classLink RL 32 "java/lang/IllegalArgumentException", .classLink RL 15 "java/lang/IllegalStateException", .methodLink RL 67 yX3_append, .instanceMethod yX3_append, .selects RX3 yX3_append yX3_append, .initialized RX3, .code yX3_append cX3_append 2 (some .int), .classLink RX3 82 "java/lang/IllegalArgumentException", .initialized "java/lang/IllegalArgumentException", .classLink RX3 45 "java/lang/IllegalStateException", .initialized "java/lang/IllegalStateException", .fieldLink RX3 26 "ConcertUsher" "text" "LConcertUsher$EventText;", .fieldLink RX3 160 "ConcertUsher$EventText" "length" "I", .methodLink RX3 165 yX0_add, .instanceMethod yX0_add, .selects RX0 yX0_add yX0_add, .initialized RX0, .code yX0_add cX0_add 2 none, .fieldLink RX0 15 "ConcertUsher$EventText" "length" "I", .fieldLink RX0 9 "ConcertUsher$EventText" "signs" "[C"] ++ wsX30 ++ wsX00 ++ (vx_atS RX3 86 "java/lang/IllegalArgumentException" ["java/lang/RuntimeException", "java/lang/Exception"]).filter goodWord ++ (vx_atS RX3 49 "java/lang/IllegalStateException" ["java/lang/RuntimeException", "java/lang/Exception"]).filter goodWord)
def wsL_run_r1 : List Cond := [Cond.classLink RL 32 "java/lang/IllegalArgumentException", Cond.methodLink RL 70 yX3_run, Cond.instanceMethod yX3_run, Cond.selects RX3 yX3_run yX3_run, Cond.initialized RX3, Cond.code yX3_run cX3_run 2 (some .int), Cond.classLink RX3 82 "java/lang/IllegalArgumentException", Cond.initialized "java/lang/IllegalArgumentException", Cond.fieldLink RX3 26 "ConcertUsher" "text" "LConcertUsher$EventText;", Cond.fieldLink RX3 19 "ConcertUsher" "history" "LConcertUsher$History;", Cond.fieldLink RX3 12 "ConcertUsher" "hall" "LConcertUsher$Hall;", Cond.fieldLink RX3 160 "ConcertUsher$EventText" "length" "I", Cond.methodLink RX3 172 yX0_isComplete, Cond.instanceMethod yX0_isComplete, Cond.selects RX0 yX0_isComplete yX0_isComplete, Cond.initialized RX0, Cond.code yX0_isComplete cX0_isComplete 3 (some .boolean), Cond.fieldLink RX0 15 "ConcertUsher$EventText" "length" "I", Cond.methodLink RX0 19 yX0_signAt, Cond.instanceMethod yX0_signAt, Cond.selects RX0 yX0_signAt yX0_signAt, Cond.code yX0_signAt cX0_signAt 2 (some .char), Cond.fieldLink RX0 9 "ConcertUsher$EventText" "signs" "[C", Cond.methodLink RX0 27 yX0_stateAfter]
def wsL_run_r2 : List Cond := [Cond.static yX0_stateAfter, Cond.code yX0_stateAfter cX0_stateAfter 2 (some .int), Cond.methodLink RX0 31 yX0_stateAfterLetter, Cond.static yX0_stateAfterLetter, Cond.code yX0_stateAfterLetter cX0_stateAfterLetter 1 (some .int), Cond.methodLink RX0 35 yX0_isBetween, Cond.static yX0_isBetween, Cond.code yX0_isBetween cX0_isBetween 3 (some .boolean), Cond.methodLink RX0 39 yX0_stateAfterFirstDigit, Cond.static yX0_stateAfterFirstDigit, Cond.code yX0_stateAfterFirstDigit cX0_stateAfterFirstDigit 1 (some .int), Cond.methodLink RX0 42 yX0_stateAfterEvent, Cond.static yX0_stateAfterEvent, Cond.code yX0_stateAfterEvent cX0_stateAfterEvent 1 (some .int), Cond.methodLink RX3 52 yX2_keep, Cond.instanceMethod yX2_keep, Cond.selects RX2 yX2_keep yX2_keep, Cond.initialized RX2, Cond.code yX2_keep cX2_keep 2 none, Cond.fieldLink RX2 21 "ConcertUsher$History" "size" "I", Cond.fieldLink RX2 17 "ConcertUsher$History" "oldest" "I", Cond.fieldLink RX2 11 "ConcertUsher$History" "halls" "[LConcertUsher$Hall;", Cond.methodLink RX2 25 yX1_copyFrom, Cond.instanceMethod yX1_copyFrom]
def wsL_run_r3 : List Cond := [Cond.selects RX1 yX1_copyFrom yX1_copyFrom, Cond.initialized RX1, Cond.code yX1_copyFrom cX1_copyFrom 2 none, Cond.fieldLink RX1 9 "ConcertUsher$Hall" "listeners" "[I", Cond.methodLink RX1 50 arraycopyName, Cond.native arraycopyName, Cond.static arraycopyName, Cond.initialized "java/lang/System", Cond.fieldLink RX1 15 "ConcertUsher$Hall" "rests" "[I", Cond.fieldLink RX1 18 "ConcertUsher$Hall" "counts" "[I", Cond.fieldLink RX1 21 "ConcertUsher$Hall" "openRows" "I", Cond.fieldLink RX1 25 "ConcertUsher$Hall" "isQuick" "Z", Cond.fieldLink RX1 29 "ConcertUsher$Hall" "isFirstPresent" "Z", Cond.fieldLink RX1 32 "ConcertUsher$Hall" "isSecondPresent" "Z", Cond.fieldLink RX1 35 "ConcertUsher$Hall" "fading" "I", Cond.fieldLink RX1 38 "ConcertUsher$Hall" "patience" "I", Cond.fieldLink RX1 41 "ConcertUsher$Hall" "asking" "I", Cond.fieldLink RX1 44 "ConcertUsher$Hall" "minutes" "I", Cond.fieldLink RX1 47 "ConcertUsher$Hall" "sinceQuestion" "I", Cond.methodLink RX3 178 yX3_doEvents, Cond.instanceMethod yX3_doEvents, Cond.selects RX3 yX3_doEvents yX3_doEvents, Cond.code yX3_doEvents cX3_doEvents 3 (some .int), Cond.methodLink RX3 206 yX0_startsEvent]
def wsL_run_r4 : List Cond := [Cond.instanceMethod yX0_startsEvent, Cond.selects RX0 yX0_startsEvent yX0_startsEvent, Cond.code yX0_startsEvent cX0_startsEvent 2 (some .boolean), Cond.methodLink RX3 209 yX3_doEvent, Cond.instanceMethod yX3_doEvent, Cond.selects RX3 yX3_doEvent yX3_doEvent, Cond.code yX3_doEvent cX3_doEvent 3 (some .boolean), Cond.methodLink RX3 212 yX0_digitAt, Cond.instanceMethod yX0_digitAt, Cond.selects RX0 yX0_digitAt yX0_digitAt, Cond.code yX0_digitAt cX0_digitAt 2 (some .int), Cond.methodLink RX3 215 yX0_signAt, Cond.methodLink RX3 37 yX3_placeOf, Cond.static yX3_placeOf, Cond.code yX3_placeOf cX3_placeOf 2 (some .int), Cond.methodLink RX3 219 yX3_seatIfRoom, Cond.instanceMethod yX3_seatIfRoom, Cond.selects RX3 yX3_seatIfRoom yX3_seatIfRoom, Cond.code yX3_seatIfRoom cX3_seatIfRoom 2 (some .boolean), Cond.methodLink RX3 41 yX1_hasRoom, Cond.instanceMethod yX1_hasRoom, Cond.selects RX1 yX1_hasRoom yX1_hasRoom, Cond.code yX1_hasRoom cX1_hasRoom 2 (some .boolean), Cond.methodLink RX3 56 yX1_seat]
def wsL_run_r5 : List Cond := [Cond.instanceMethod yX1_seat, Cond.selects RX1 yX1_seat yX1_seat, Cond.code yX1_seat cX1_seat 2 none, Cond.methodLink RX1 56 yX1_hearCall, Cond.instanceMethod yX1_hearCall, Cond.selects RX1 yX1_hearCall yX1_hearCall, Cond.code yX1_hearCall cX1_hearCall 2 none, Cond.methodLink RX3 222 yX3_unseatIfWanted, Cond.instanceMethod yX3_unseatIfWanted, Cond.selects RX3 yX3_unseatIfWanted yX3_unseatIfWanted, Cond.code yX3_unseatIfWanted cX3_unseatIfWanted 3 (some .boolean), Cond.methodLink RX3 63 yX1_isWantedAt, Cond.instanceMethod yX1_isWantedAt, Cond.selects RX1 yX1_isWantedAt yX1_isWantedAt, Cond.code yX1_isWantedAt cX1_isWantedAt 2 (some .boolean), Cond.methodLink RX3 68 yX1_unseat, Cond.instanceMethod yX1_unseat, Cond.selects RX1 yX1_unseat yX1_unseat, Cond.code yX1_unseat cX1_unseat 3 none, Cond.methodLink RX1 60 yX1_hearFarewell, Cond.instanceMethod yX1_hearFarewell, Cond.selects RX1 yX1_hearFarewell yX1_hearFarewell, Cond.code yX1_hearFarewell cX1_hearFarewell 2 none, Cond.methodLink RX1 63 yX1_isWantedAt]
def wsL_run_r6 : List Cond := [Cond.methodLink RX1 67 yX1_askRow, Cond.instanceMethod yX1_askRow, Cond.selects RX1 yX1_askRow yX1_askRow, Cond.code yX1_askRow cX1_askRow 2 none, Cond.methodLink RX3 135 yX1_perform, Cond.instanceMethod yX1_perform, Cond.selects RX1 yX1_perform yX1_perform, Cond.code yX1_perform cX1_perform 4 (some .int), Cond.methodLink RX1 87 yX1_rowsThatGet, Cond.instanceMethod yX1_rowsThatGet, Cond.selects RX1 yX1_rowsThatGet yX1_rowsThatGet, Cond.code yX1_rowsThatGet cX1_rowsThatGet 4 (some .int), Cond.methodLink RX1 91 yX1_rowsThatWant, Cond.instanceMethod yX1_rowsThatWant, Cond.selects RX1 yX1_rowsThatWant yX1_rowsThatWant, Cond.code yX1_rowsThatWant cX1_rowsThatWant 4 (some .int), Cond.methodLink RX1 94 yJ6_bitCount_0f7a4, Cond.static yJ6_bitCount_0f7a4, Cond.initialized RJ6, Cond.code yJ6_bitCount_0f7a4 cJ6_bitCount_0f7a4 1 (some .int), Cond.constant RJ6 265 (1431655765), Cond.constant RJ6 266 (858993459), Cond.constant RJ6 267 (252645135), Cond.methodLink RX3 226 yX0_numberAt]
def wsL_run_r7 : List Cond := [Cond.instanceMethod yX0_numberAt, Cond.selects RX0 yX0_numberAt yX0_numberAt, Cond.code yX0_numberAt cX0_numberAt 3 (some .int), Cond.methodLink RX0 23 yX0_digitAt, Cond.methodLink RX3 132 yX1_letPass, Cond.instanceMethod yX1_letPass, Cond.selects RX1 yX1_letPass yX1_letPass, Cond.code yX1_letPass cX1_letPass 4 (some .int), Cond.methodLink RX1 74 yX1_fadeEntries, Cond.instanceMethod yX1_fadeEntries, Cond.selects RX1 yX1_fadeEntries yX1_fadeEntries, Cond.code yX1_fadeEntries cX1_fadeEntries 2 none, Cond.methodLink RX1 77 yX1_timeBetweenQuestions, Cond.instanceMethod yX1_timeBetweenQuestions, Cond.selects RX1 yX1_timeBetweenQuestions yX1_timeBetweenQuestions, Cond.code yX1_timeBetweenQuestions cX1_timeBetweenQuestions 1 (some .int), Cond.methodLink RX1 84 yX1_chiefAsker, Cond.instanceMethod yX1_chiefAsker, Cond.selects RX1 yX1_chiefAsker yX1_chiefAsker, Cond.code yX1_chiefAsker cX1_chiefAsker 1 (some .int), Cond.methodLink RX1 81 yX1_askAllRows, Cond.instanceMethod yX1_askAllRows, Cond.selects RX1 yX1_askAllRows yX1_askAllRows, Cond.code yX1_askAllRows cX1_askAllRows 2 none]
def wsL_run_r8 : List Cond := [Cond.methodLink RX3 75 yX1_turnRow, Cond.instanceMethod yX1_turnRow, Cond.selects RX1 yX1_turnRow yX1_turnRow, Cond.code yX1_turnRow cX1_turnRow 2 none]
def wsL_run : List Cond := .codeWith yL_run cL_run 3 (some .int) [(0, 8, 11, 32)] :: ((wsL_run_r1 ++ (wsL_run_r2 ++ (wsL_run_r3 ++ (wsL_run_r4 ++ (wsL_run_r5 ++ (wsL_run_r6 ++ (wsL_run_r7 ++ wsL_run_r8))))))) ++ wsX30 ++ wsX00 ++ wsX20 ++ wsX10 ++ (vx_atS RX3 86 "java/lang/IllegalArgumentException" ["java/lang/RuntimeException", "java/lang/Exception"]).filter goodWord)
def wsL_undo_r1 : List Cond := [Cond.classLink RL 15 "java/lang/IllegalStateException", Cond.methodLink RL 74 yX3_undo, Cond.instanceMethod yX3_undo, Cond.selects RX3 yX3_undo yX3_undo, Cond.initialized RX3, Cond.code yX3_undo cX3_undo 1 (some .int), Cond.classLink RX3 45 "java/lang/IllegalStateException", Cond.initialized "java/lang/IllegalStateException", Cond.fieldLink RX3 19 "ConcertUsher" "history" "LConcertUsher$History;", Cond.fieldLink RX3 181 "ConcertUsher$History" "size" "I", Cond.fieldLink RX3 12 "ConcertUsher" "hall" "LConcertUsher$Hall;", Cond.methodLink RX3 186 yX2_takeBack, Cond.instanceMethod yX2_takeBack, Cond.selects RX2 yX2_takeBack yX2_takeBack, Cond.initialized RX2, Cond.code yX2_takeBack cX2_takeBack 2 none, Cond.fieldLink RX2 21 "ConcertUsher$History" "size" "I", Cond.fieldLink RX2 11 "ConcertUsher$History" "halls" "[LConcertUsher$Hall;", Cond.fieldLink RX2 17 "ConcertUsher$History" "oldest" "I", Cond.methodLink RX2 25 yX1_copyFrom, Cond.instanceMethod yX1_copyFrom, Cond.selects RX1 yX1_copyFrom yX1_copyFrom, Cond.initialized RX1, Cond.code yX1_copyFrom cX1_copyFrom 2 none]
def wsL_undo_r2 : List Cond := [Cond.fieldLink RX1 9 "ConcertUsher$Hall" "listeners" "[I", Cond.methodLink RX1 50 arraycopyName, Cond.native arraycopyName, Cond.static arraycopyName, Cond.initialized "java/lang/System", Cond.fieldLink RX1 15 "ConcertUsher$Hall" "rests" "[I", Cond.fieldLink RX1 18 "ConcertUsher$Hall" "counts" "[I", Cond.fieldLink RX1 21 "ConcertUsher$Hall" "openRows" "I", Cond.fieldLink RX1 25 "ConcertUsher$Hall" "isQuick" "Z", Cond.fieldLink RX1 29 "ConcertUsher$Hall" "isFirstPresent" "Z", Cond.fieldLink RX1 32 "ConcertUsher$Hall" "isSecondPresent" "Z", Cond.fieldLink RX1 35 "ConcertUsher$Hall" "fading" "I", Cond.fieldLink RX1 38 "ConcertUsher$Hall" "patience" "I", Cond.fieldLink RX1 41 "ConcertUsher$Hall" "asking" "I", Cond.fieldLink RX1 44 "ConcertUsher$Hall" "minutes" "I", Cond.fieldLink RX1 47 "ConcertUsher$Hall" "sinceQuestion" "I"]
def wsL_undo : List Cond := .codeWith yL_undo cL_undo 3 (some .int) [(0, 8, 11, 15)] :: ((wsL_undo_r1 ++ wsL_undo_r2) ++ wsX30 ++ wsX20 ++ wsX10 ++ (vx_atS RX3 49 "java/lang/IllegalStateException" ["java/lang/RuntimeException", "java/lang/Exception"]).filter goodWord)
def wsL_law0_r1 : List Cond := [Cond.classLink RL 8 RX3, Cond.instantiable RX3 3, Cond.initialized RX3, Cond.classLink RL 78 RX4, Cond.instantiable RX4 12, Cond.initialized RX4, Cond.arrayClass .long, Cond.methodLink RL 77 yX3_init, Cond.instanceMethod yX3_init, Cond.code yX3_init cX3_init 1 none, Cond.methodLink RX3 3 objectInit, Cond.instanceMethod objectInit, Cond.code objectInit ⟨#[0xb1]⟩ 1 none, Cond.classLink RX3 9 RX1, Cond.instantiable RX1 12, Cond.initialized RX1, Cond.fieldLink RX3 12 "ConcertUsher" "hall" "LConcertUsher$Hall;", Cond.classLink RX3 16 RX2, Cond.instantiable RX2 3, Cond.initialized RX2, Cond.fieldLink RX3 19 "ConcertUsher" "history" "LConcertUsher$History;", Cond.classLink RX3 23 RX0, Cond.instantiable RX0 2, Cond.initialized RX0]
def wsL_law0_r2 : List Cond := [Cond.fieldLink RX3 26 "ConcertUsher" "text" "LConcertUsher$EventText;", Cond.instanceMethod yX1_init, Cond.code yX1_init cX1_init 1 none, Cond.methodLink RX1 3 objectInit, Cond.arrayClass .int, Cond.fieldLink RX1 9 "ConcertUsher$Hall" "listeners" "[I", Cond.fieldLink RX1 15 "ConcertUsher$Hall" "rests" "[I", Cond.fieldLink RX1 18 "ConcertUsher$Hall" "counts" "[I", Cond.fieldLink RX1 21 "ConcertUsher$Hall" "openRows" "I", Cond.fieldLink RX1 25 "ConcertUsher$Hall" "isQuick" "Z", Cond.fieldLink RX1 29 "ConcertUsher$Hall" "isFirstPresent" "Z", Cond.fieldLink RX1 32 "ConcertUsher$Hall" "isSecondPresent" "Z", Cond.fieldLink RX1 35 "ConcertUsher$Hall" "fading" "I", Cond.fieldLink RX1 38 "ConcertUsher$Hall" "patience" "I", Cond.fieldLink RX1 41 "ConcertUsher$Hall" "asking" "I", Cond.fieldLink RX1 44 "ConcertUsher$Hall" "minutes" "I", Cond.fieldLink RX1 47 "ConcertUsher$Hall" "sinceQuestion" "I", Cond.methodLink RX3 18 yX2_init, Cond.instanceMethod yX2_init, Cond.code yX2_init cX2_init 2 none, Cond.methodLink RX2 3 objectInit, Cond.classLink RX2 9 RX1, Cond.fieldLink RX2 11 "ConcertUsher$History" "halls" "[LConcertUsher$Hall;", Cond.fieldLink RX2 17 "ConcertUsher$History" "oldest" "I"]
def wsL_law0_r3 : List Cond := [Cond.fieldLink RX2 21 "ConcertUsher$History" "size" "I", Cond.instanceMethod yX0_init, Cond.code yX0_init cX0_init 1 none, Cond.methodLink RX0 3 objectInit, Cond.arrayClass .char, Cond.fieldLink RX0 9 "ConcertUsher$EventText" "signs" "[C", Cond.fieldLink RX0 15 "ConcertUsher$EventText" "length" "I", Cond.methodLink RL 80 yX4_init, Cond.instanceMethod yX4_init, Cond.code yX4_init cX4_init 1 none, Cond.methodLink RX4 1 objectInit, Cond.fieldLink RX4 7 "ConcertUsherModel" "s" "[I", Cond.fieldLink RX4 13 "ConcertUsherModel" "aside" "[I", Cond.fieldLink RX4 16 "ConcertUsherModel" "saved" "[I", Cond.fieldLink RX4 19 "ConcertUsherModel" "buffer" "[I", Cond.fieldLink RX4 22 "ConcertUsherModel" "read" "[I", Cond.fieldLink RX4 25 "ConcertUsherModel" "thrown" "I", Cond.methodLink RL 81 yL_come, Cond.static yL_come, Cond.initialized RL, Cond.codeWith yL_come cL_come 5 (some .int) [(0, 10, 13, 13), (0, 10, 17, 15)], Cond.classLink RL 13 "java/lang/IndexOutOfBoundsException", Cond.classLink RL 15 "java/lang/IllegalStateException", Cond.methodLink RL 7 yX3_come]
def wsL_law0_r4 : List Cond := [Cond.instanceMethod yX3_come, Cond.selects RX3 yX3_come yX3_come, Cond.code yX3_come cX3_come 4 (some .int), Cond.classLink RX3 45 "java/lang/IllegalStateException", Cond.initialized "java/lang/IllegalStateException", Cond.fieldLink RX3 59 "ConcertUsher$Hall" "listeners" "[I", Cond.methodLink RX3 30 yX3_checkRow, Cond.static yX3_checkRow, Cond.code yX3_checkRow cX3_checkRow 1 none, Cond.classLink RX3 101 "java/lang/IndexOutOfBoundsException", Cond.initialized "java/lang/IndexOutOfBoundsException", Cond.methodLink RX3 34 yX3_checkConcert, Cond.static yX3_checkConcert, Cond.code yX3_checkConcert cX3_checkConcert 1 none, Cond.methodLink RX3 37 yX3_placeOf, Cond.static yX3_placeOf, Cond.code yX3_placeOf cX3_placeOf 2 (some .int), Cond.methodLink RX3 41 yX1_hasRoom, Cond.instanceMethod yX1_hasRoom, Cond.selects RX1 yX1_hasRoom yX1_hasRoom, Cond.code yX1_hasRoom cX1_hasRoom 2 (some .boolean), Cond.methodLink RX3 52 yX2_keep, Cond.instanceMethod yX2_keep, Cond.selects RX2 yX2_keep yX2_keep]
def wsL_law0_r5 : List Cond := [Cond.code yX2_keep cX2_keep 2 none, Cond.methodLink RX2 25 yX1_copyFrom, Cond.instanceMethod yX1_copyFrom, Cond.selects RX1 yX1_copyFrom yX1_copyFrom, Cond.code yX1_copyFrom cX1_copyFrom 2 none, Cond.methodLink RX1 50 arraycopyName, Cond.native arraycopyName, Cond.static arraycopyName, Cond.initialized "java/lang/System", Cond.methodLink RX3 56 yX1_seat, Cond.instanceMethod yX1_seat, Cond.selects RX1 yX1_seat yX1_seat, Cond.code yX1_seat cX1_seat 2 none, Cond.methodLink RX1 56 yX1_hearCall, Cond.instanceMethod yX1_hearCall, Cond.selects RX1 yX1_hearCall yX1_hearCall, Cond.code yX1_hearCall cX1_hearCall 2 none, Cond.methodLink RL 86 yX4_come, Cond.instanceMethod yX4_come, Cond.selects RX4 yX4_come yX4_come, Cond.code yX4_come cX4_come 3 (some .int), Cond.methodLink RX4 40 yX4_isPair, Cond.static yX4_isPair, Cond.code yX4_isPair cX4_isPair 2 (some .boolean)]
def wsL_law0_r6 : List Cond := [Cond.methodLink RX4 29 yX4_in, Cond.static yX4_in, Cond.code yX4_in cX4_in 3 (some .boolean), Cond.methodLink RX4 44 yX4_fails, Cond.instanceMethod yX4_fails, Cond.selects RX4 yX4_fails yX4_fails, Cond.code yX4_fails cX4_fails 2 (some .int), Cond.methodLink RX4 48 yX4_cellOf, Cond.static yX4_cellOf, Cond.code yX4_cellOf cX4_cellOf 2 (some .int), Cond.methodLink RX4 52 yX4_saves, Cond.instanceMethod yX4_saves, Cond.selects RX4 yX4_saves yX4_saves, Cond.code yX4_saves cX4_saves 2 none, Cond.fieldLink RX4 33 "ConcertUsherModel" "savedMany" "I", Cond.methodLink RX4 55 yX4_comes, Cond.instanceMethod yX4_comes, Cond.selects RX4 yX4_comes yX4_comes, Cond.code yX4_comes cX4_comes 2 (some .int), Cond.methodLink RX4 36 yX4_calls, Cond.instanceMethod yX4_calls, Cond.selects RX4 yX4_calls yX4_calls, Cond.code yX4_calls cX4_calls 2 none, Cond.methodLink RL 87 yX4_thrown]
def wsL_law0_r7 : List Cond := [Cond.instanceMethod yX4_thrown, Cond.selects RX4 yX4_thrown yX4_thrown, Cond.code yX4_thrown cX4_thrown 1 (some .int), Cond.methodLink RL 90 yL_leave, Cond.static yL_leave, Cond.codeWith yL_leave cL_leave 6 (some .int) [(0, 12, 15, 13), (0, 12, 19, 15)], Cond.methodLink RL 17 yX3_leave, Cond.instanceMethod yX3_leave, Cond.selects RX3 yX3_leave yX3_leave, Cond.code yX3_leave cX3_leave 5 (some .int), Cond.methodLink RX3 63 yX1_isWantedAt, Cond.instanceMethod yX1_isWantedAt, Cond.selects RX1 yX1_isWantedAt yX1_isWantedAt, Cond.code yX1_isWantedAt cX1_isWantedAt 2 (some .boolean), Cond.methodLink RX3 68 yX1_unseat, Cond.instanceMethod yX1_unseat, Cond.selects RX1 yX1_unseat yX1_unseat, Cond.code yX1_unseat cX1_unseat 3 none, Cond.methodLink RX1 60 yX1_hearFarewell, Cond.instanceMethod yX1_hearFarewell, Cond.selects RX1 yX1_hearFarewell yX1_hearFarewell, Cond.code yX1_hearFarewell cX1_hearFarewell 2 none, Cond.methodLink RX1 63 yX1_isWantedAt, Cond.methodLink RX1 67 yX1_askRow]
def wsL_law0_r8 : List Cond := [Cond.instanceMethod yX1_askRow, Cond.selects RX1 yX1_askRow yX1_askRow, Cond.code yX1_askRow cX1_askRow 2 none, Cond.methodLink RL 93 yX4_leave, Cond.instanceMethod yX4_leave, Cond.selects RX4 yX4_leave yX4_leave, Cond.code yX4_leave cX4_leave 4 (some .int), Cond.methodLink RX4 61 yX4_leaves, Cond.instanceMethod yX4_leaves, Cond.selects RX4 yX4_leaves yX4_leaves, Cond.code yX4_leaves cX4_leaves 3 (some .int), Cond.methodLink RX4 58 yX4_farewell, Cond.instanceMethod yX4_farewell, Cond.selects RX4 yX4_farewell yX4_farewell, Cond.code yX4_farewell cX4_farewell 2 none, Cond.methodLink RL 94 yL_listeners, Cond.static yL_listeners, Cond.codeWith yL_listeners cL_listeners 5 (some .int) [(0, 10, 13, 13)], Cond.methodLink RL 21 yX3_listeners, Cond.instanceMethod yX3_listeners, Cond.selects RX3 yX3_listeners yX3_listeners, Cond.code yX3_listeners cX3_listeners 3 (some .int), Cond.methodLink RL 96 yX4_listeners, Cond.instanceMethod yX4_listeners]
def wsL_law0_r9 : List Cond := [Cond.selects RX4 yX4_listeners yX4_listeners, Cond.code yX4_listeners cX4_listeners 3 (some .int), Cond.methodLink RL 97 yL_setOpen, Cond.static yL_setOpen, Cond.codeWith yL_setOpen cL_setOpen 5 (some .int) [(0, 17, 20, 13)], Cond.methodLink RL 24 yX3_setOpen, Cond.instanceMethod yX3_setOpen, Cond.selects RX3 yX3_setOpen yX3_setOpen, Cond.code yX3_setOpen cX3_setOpen 4 (some .boolean), Cond.methodLink RX3 72 yX1_isRowOpen, Cond.instanceMethod yX1_isRowOpen, Cond.selects RX1 yX1_isRowOpen yX1_isRowOpen, Cond.code yX1_isRowOpen cX1_isRowOpen 2 (some .boolean), Cond.methodLink RX3 75 yX1_turnRow, Cond.instanceMethod yX1_turnRow, Cond.selects RX1 yX1_turnRow yX1_turnRow, Cond.code yX1_turnRow cX1_turnRow 2 none, Cond.methodLink RL 100 yX4_setOpen, Cond.instanceMethod yX4_setOpen, Cond.selects RX4 yX4_setOpen yX4_setOpen, Cond.code yX4_setOpen cX4_setOpen 4 (some .boolean), Cond.methodLink RL 101 yX3_setQuick, Cond.instanceMethod yX3_setQuick, Cond.selects RX3 yX3_setQuick yX3_setQuick]
def wsL_law0_r10 : List Cond := [Cond.code yX3_setQuick cX3_setQuick 3 (some .boolean), Cond.fieldLink RX3 78 "ConcertUsher$Hall" "isQuick" "Z", Cond.methodLink RL 105 yX4_setQuick, Cond.instanceMethod yX4_setQuick, Cond.selects RX4 yX4_setQuick yX4_setQuick, Cond.code yX4_setQuick cX4_setQuick 3 (some .boolean), Cond.methodLink RL 106 yL_setTimes, Cond.static yL_setTimes, Cond.codeWith yL_setTimes cL_setTimes 6 (some .int) [(0, 12, 15, 32)], Cond.classLink RL 32 "java/lang/IllegalArgumentException", Cond.methodLink RL 28 yX3_setTimes, Cond.instanceMethod yX3_setTimes, Cond.selects RX3 yX3_setTimes yX3_setTimes, Cond.code yX3_setTimes cX3_setTimes 5 (some .int), Cond.classLink RX3 82 "java/lang/IllegalArgumentException", Cond.initialized "java/lang/IllegalArgumentException", Cond.fieldLink RX3 91 "ConcertUsher$Hall" "fading" "I", Cond.fieldLink RX3 95 "ConcertUsher$Hall" "patience" "I", Cond.fieldLink RX3 98 "ConcertUsher$Hall" "asking" "I", Cond.methodLink RL 109 yX4_setTimes, Cond.instanceMethod yX4_setTimes, Cond.selects RX4 yX4_setTimes yX4_setTimes, Cond.code yX4_setTimes cX4_setTimes 5 (some .int), Cond.methodLink RL 110 yL_setPresent]
def wsL_law0_r11 : List Cond := [Cond.static yL_setPresent, Cond.codeWith yL_setPresent cL_setPresent 5 (some .int) [(0, 10, 13, 13)], Cond.methodLink RL 34 yX3_setPresent, Cond.instanceMethod yX3_setPresent, Cond.selects RX3 yX3_setPresent yX3_setPresent, Cond.code yX3_setPresent cX3_setPresent 3 (some .int), Cond.fieldLink RX3 106 "ConcertUsher$Hall" "isFirstPresent" "Z", Cond.fieldLink RX3 109 "ConcertUsher$Hall" "isSecondPresent" "Z", Cond.methodLink RX3 112 yX1_chiefAsker, Cond.instanceMethod yX1_chiefAsker, Cond.selects RX1 yX1_chiefAsker yX1_chiefAsker, Cond.code yX1_chiefAsker cX1_chiefAsker 1 (some .int), Cond.methodLink RL 112 yX4_setPresent, Cond.instanceMethod yX4_setPresent, Cond.selects RX4 yX4_setPresent yX4_setPresent, Cond.code yX4_setPresent cX4_setPresent 3 (some .int), Cond.methodLink RX4 65 yX4_chiefNow, Cond.instanceMethod yX4_chiefNow, Cond.selects RX4 yX4_chiefNow yX4_chiefNow, Cond.code yX4_chiefNow cX4_chiefNow 1 (some .int), Cond.methodLink RL 113 yX3_chief, Cond.instanceMethod yX3_chief, Cond.selects RX3 yX3_chief yX3_chief, Cond.code yX3_chief cX3_chief 1 (some .int)]
def wsL_law0_r12 : List Cond := [Cond.methodLink RL 116 yX4_chief, Cond.instanceMethod yX4_chief, Cond.selects RX4 yX4_chief yX4_chief, Cond.code yX4_chief cX4_chief 1 (some .int), Cond.methodLink RL 117 yL_rest, Cond.static yL_rest, Cond.codeWith yL_rest cL_rest 5 (some .int) [(0, 10, 13, 13)], Cond.methodLink RL 38 yX3_rest, Cond.instanceMethod yX3_rest, Cond.selects RX3 yX3_rest yX3_rest, Cond.code yX3_rest cX3_rest 3 (some .int), Cond.fieldLink RX3 116 "ConcertUsher$Hall" "rests" "[I", Cond.methodLink RL 119 yX4_rest, Cond.instanceMethod yX4_rest, Cond.selects RX4 yX4_rest yX4_rest, Cond.code yX4_rest cX4_rest 3 (some .int), Cond.methodLink RL 120 yX3_entries, Cond.instanceMethod yX3_entries, Cond.selects RX3 yX3_entries yX3_entries, Cond.code yX3_entries cX3_entries 1 (some .int), Cond.methodLink RX3 119 yX1_entriesInAll, Cond.instanceMethod yX1_entriesInAll, Cond.selects RX1 yX1_entriesInAll yX1_entriesInAll, Cond.code yX1_entriesInAll cX1_entriesInAll 3 (some .int)]
def wsL_law0_r13 : List Cond := [Cond.methodLink RL 123 yX4_entries, Cond.instanceMethod yX4_entries, Cond.selects RX4 yX4_entries yX4_entries, Cond.code yX4_entries cX4_entries 1 (some .int), Cond.methodLink RX4 69 yX4_entriesNow, Cond.instanceMethod yX4_entriesNow, Cond.selects RX4 yX4_entriesNow yX4_entriesNow, Cond.code yX4_entriesNow cX4_entriesNow 3 (some .int), Cond.methodLink RL 124 yL_isOpen, Cond.static yL_isOpen, Cond.codeWith yL_isOpen cL_isOpen 4 (some .int) [(0, 16, 19, 13)], Cond.methodLink RL 41 yX3_isOpen, Cond.instanceMethod yX3_isOpen, Cond.selects RX3 yX3_isOpen yX3_isOpen, Cond.code yX3_isOpen cX3_isOpen 2 (some .boolean), Cond.methodLink RL 127 yX4_isOpen, Cond.instanceMethod yX4_isOpen, Cond.selects RX4 yX4_isOpen yX4_isOpen, Cond.code yX4_isOpen cX4_isOpen 2 (some .boolean), Cond.methodLink RL 128 yL_rows, Cond.static yL_rows, Cond.codeWith yL_rows cL_rows 4 (some .int) [(0, 9, 12, 13)], Cond.methodLink RL 45 yX3_rows, Cond.instanceMethod yX3_rows]
def wsL_law0_r14 : List Cond := [Cond.selects RX3 yX3_rows yX3_rows, Cond.code yX3_rows cX3_rows 2 (some .int), Cond.methodLink RX3 122 yX1_rowsThatGet, Cond.instanceMethod yX1_rowsThatGet, Cond.selects RX1 yX1_rowsThatGet yX1_rowsThatGet, Cond.code yX1_rowsThatGet cX1_rowsThatGet 4 (some .int), Cond.methodLink RL 130 yX4_rows, Cond.instanceMethod yX4_rows, Cond.selects RX4 yX4_rows yX4_rows, Cond.code yX4_rows cX4_rows 2 (some .int), Cond.methodLink RX4 78 yX4_isConcert, Cond.static yX4_isConcert, Cond.code yX4_isConcert cX4_isConcert 1 (some .boolean), Cond.methodLink RX4 82 yX4_rowsOf, Cond.instanceMethod yX4_rowsOf, Cond.selects RX4 yX4_rowsOf yX4_rowsOf, Cond.code yX4_rowsOf cX4_rowsOf 4 (some .int), Cond.methodLink RX4 72 yX4_goes, Cond.instanceMethod yX4_goes, Cond.selects RX4 yX4_goes yX4_goes, Cond.code yX4_goes cX4_goes 3 (some .boolean), Cond.methodLink RL 131 yL_wanted, Cond.static yL_wanted, Cond.codeWith yL_wanted cL_wanted 4 (some .int) [(0, 9, 12, 13)]]
def wsL_law0_r15 : List Cond := [Cond.methodLink RL 49 yX3_wanted, Cond.instanceMethod yX3_wanted, Cond.selects RX3 yX3_wanted yX3_wanted, Cond.code yX3_wanted cX3_wanted 2 (some .int), Cond.methodLink RX3 126 yX1_rowsThatWant, Cond.instanceMethod yX1_rowsThatWant, Cond.selects RX1 yX1_rowsThatWant yX1_rowsThatWant, Cond.code yX1_rowsThatWant cX1_rowsThatWant 4 (some .int), Cond.methodLink RL 133 yX4_wanted, Cond.instanceMethod yX4_wanted, Cond.selects RX4 yX4_wanted yX4_wanted, Cond.code yX4_wanted cX4_wanted 2 (some .int), Cond.methodLink RX4 85 yX4_wantedOf, Cond.instanceMethod yX4_wantedOf, Cond.selects RX4 yX4_wantedOf yX4_wantedOf, Cond.code yX4_wantedOf cX4_wantedOf 4 (some .int), Cond.methodLink RX4 75 yX4_wants, Cond.instanceMethod yX4_wants, Cond.selects RX4 yX4_wants yX4_wants, Cond.code yX4_wants cX4_wants 3 (some .boolean), Cond.methodLink RL 134 yL_pass, Cond.static yL_pass, Cond.codeWith yL_pass cL_pass 4 (some .int) [(0, 9, 12, 32)], Cond.methodLink RL 52 yX3_pass]
def wsL_law0_r16 : List Cond := [Cond.instanceMethod yX3_pass, Cond.selects RX3 yX3_pass yX3_pass, Cond.code yX3_pass cX3_pass 2 (some .int), Cond.methodLink RX3 129 yX3_checkMinutes, Cond.static yX3_checkMinutes, Cond.code yX3_checkMinutes cX3_checkMinutes 1 none, Cond.methodLink RX3 132 yX1_letPass, Cond.instanceMethod yX1_letPass, Cond.selects RX1 yX1_letPass yX1_letPass, Cond.code yX1_letPass cX1_letPass 4 (some .int), Cond.methodLink RX1 74 yX1_fadeEntries, Cond.instanceMethod yX1_fadeEntries, Cond.selects RX1 yX1_fadeEntries yX1_fadeEntries, Cond.code yX1_fadeEntries cX1_fadeEntries 2 none, Cond.methodLink RX1 77 yX1_timeBetweenQuestions, Cond.instanceMethod yX1_timeBetweenQuestions, Cond.selects RX1 yX1_timeBetweenQuestions yX1_timeBetweenQuestions, Cond.code yX1_timeBetweenQuestions cX1_timeBetweenQuestions 1 (some .int), Cond.methodLink RX1 84 yX1_chiefAsker, Cond.methodLink RX1 81 yX1_askAllRows, Cond.instanceMethod yX1_askAllRows, Cond.selects RX1 yX1_askAllRows yX1_askAllRows, Cond.code yX1_askAllRows cX1_askAllRows 2 none, Cond.methodLink RL 136 yX4_pass]
def wsL_law0_r17 : List Cond := [Cond.instanceMethod yX4_pass, Cond.selects RX4 yX4_pass yX4_pass, Cond.code yX4_pass cX4_pass 2 (some .int), Cond.methodLink RX4 95 yX4_passes, Cond.instanceMethod yX4_passes, Cond.selects RX4 yX4_passes yX4_passes, Cond.code yX4_passes cX4_passes 4 (some .int), Cond.methodLink RX4 91 yX4_goesBy, Cond.instanceMethod yX4_goesBy, Cond.selects RX4 yX4_goesBy yX4_goesBy, Cond.code yX4_goesBy cX4_goesBy 3 (some .boolean), Cond.methodLink RX4 88 yX4_due, Cond.instanceMethod yX4_due, Cond.selects RX4 yX4_due yX4_due, Cond.code yX4_due cX4_due 1 (some .int), Cond.methodLink RL 137 yL_play, Cond.static yL_play, Cond.codeWith yL_play cL_play 4 (some .int) [(0, 9, 12, 13)], Cond.methodLink RL 55 yX3_play, Cond.instanceMethod yX3_play, Cond.selects RX3 yX3_play yX3_play, Cond.code yX3_play cX3_play 2 (some .int), Cond.methodLink RX3 135 yX1_perform, Cond.instanceMethod yX1_perform]
def wsL_law0_r18 : List Cond := [Cond.selects RX1 yX1_perform yX1_perform, Cond.code yX1_perform cX1_perform 4 (some .int), Cond.methodLink RX1 87 yX1_rowsThatGet, Cond.methodLink RX1 91 yX1_rowsThatWant, Cond.methodLink RX1 94 yJ6_bitCount_0f7a4, Cond.static yJ6_bitCount_0f7a4, Cond.initialized RJ6, Cond.code yJ6_bitCount_0f7a4 cJ6_bitCount_0f7a4 1 (some .int), Cond.constant RJ6 265 (1431655765), Cond.constant RJ6 266 (858993459), Cond.constant RJ6 267 (252645135), Cond.methodLink RL 139 yX4_play, Cond.instanceMethod yX4_play, Cond.selects RX4 yX4_play yX4_play, Cond.code yX4_play cX4_play 2 (some .int), Cond.methodLink RX4 98 yX4_plays, Cond.instanceMethod yX4_plays, Cond.selects RX4 yX4_plays yX4_plays, Cond.code yX4_plays cX4_plays 6 (some .int), Cond.methodLink RL 140 yX3_minutes, Cond.instanceMethod yX3_minutes, Cond.selects RX3 yX3_minutes yX3_minutes, Cond.code yX3_minutes cX3_minutes 1 (some .int), Cond.fieldLink RX3 138 "ConcertUsher$Hall" "minutes" "I"]
def wsL_law0_r19 : List Cond := [Cond.methodLink RL 143 yX4_minutes, Cond.instanceMethod yX4_minutes, Cond.selects RX4 yX4_minutes yX4_minutes, Cond.code yX4_minutes cX4_minutes 1 (some .int), Cond.methodLink RL 144 yX3_sinceQuestion, Cond.instanceMethod yX3_sinceQuestion, Cond.selects RX3 yX3_sinceQuestion yX3_sinceQuestion, Cond.code yX3_sinceQuestion cX3_sinceQuestion 1 (some .int), Cond.fieldLink RX3 141 "ConcertUsher$Hall" "sinceQuestion" "I", Cond.methodLink RL 147 yX4_sinceQuestion, Cond.instanceMethod yX4_sinceQuestion, Cond.selects RX4 yX4_sinceQuestion yX4_sinceQuestion, Cond.code yX4_sinceQuestion cX4_sinceQuestion 1 (some .int), Cond.methodLink RL 148 yL_count, Cond.static yL_count, Cond.codeWith yL_count cL_count 4 (some .int) [(0, 9, 12, 13)], Cond.methodLink RL 58 yX3_count, Cond.instanceMethod yX3_count, Cond.selects RX3 yX3_count yX3_count, Cond.code yX3_count cX3_count 2 (some .int), Cond.fieldLink RX3 146 "ConcertUsher$Hall" "counts" "[I", Cond.methodLink RL 150 yX4_count, Cond.instanceMethod yX4_count, Cond.selects RX4 yX4_count yX4_count]
def wsL_law0_r20 : List Cond := [Cond.code yX4_count cX4_count 2 (some .int), Cond.methodLink RL 151 yX3_usefulShare, Cond.instanceMethod yX3_usefulShare, Cond.selects RX3 yX3_usefulShare yX3_usefulShare, Cond.code yX3_usefulShare cX3_usefulShare 3 (some .double), Cond.methodLink RL 155 yX4_usefulShare, Cond.instanceMethod yX4_usefulShare, Cond.selects RX4 yX4_usefulShare yX4_usefulShare, Cond.code yX4_usefulShare cX4_usefulShare 2 (some .double), Cond.methodLink RL 156 yL_minutesToFade, Cond.static yL_minutesToFade, Cond.codeWith yL_minutesToFade cL_minutesToFade 5 (some .int) [(0, 10, 13, 13)], Cond.methodLink RL 61 yX3_minutesToFade, Cond.instanceMethod yX3_minutesToFade, Cond.selects RX3 yX3_minutesToFade yX3_minutesToFade, Cond.code yX3_minutesToFade cX3_minutesToFade 3 (some .int), Cond.methodLink RX3 149 yX1_fadesIn, Cond.instanceMethod yX1_fadesIn, Cond.selects RX1 yX1_fadesIn yX1_fadesIn, Cond.code yX1_fadesIn cX1_fadesIn 3 (some .int), Cond.methodLink RX1 104 yX1_asksIn, Cond.instanceMethod yX1_asksIn, Cond.selects RX1 yX1_asksIn yX1_asksIn, Cond.code yX1_asksIn cX1_asksIn 1 (some .int)]
def wsL_law0_r21 : List Cond := [Cond.methodLink RX1 99 Lib.Math.max.name, Cond.static Lib.Math.max.name, Cond.initialized "java/lang/Math", Cond.code Lib.Math.max.name Lib.Math.max.code 2 (some .int), Cond.methodLink RL 158 yX4_minutesToFade, Cond.instanceMethod yX4_minutesToFade, Cond.selects RX4 yX4_minutesToFade yX4_minutesToFade, Cond.code yX4_minutesToFade cX4_minutesToFade 3 (some .int), Cond.methodLink RX4 107 yX4_fadesIn, Cond.instanceMethod yX4_fadesIn, Cond.selects RX4 yX4_fadesIn yX4_fadesIn, Cond.code yX4_fadesIn cX4_fadesIn 4 (some .int), Cond.methodLink RX4 101 yX4_putAside, Cond.instanceMethod yX4_putAside, Cond.selects RX4 yX4_putAside yX4_putAside, Cond.code yX4_putAside cX4_putAside 2 none, Cond.methodLink RX4 104 yX4_takeBack, Cond.instanceMethod yX4_takeBack, Cond.selects RX4 yX4_takeBack yX4_takeBack, Cond.code yX4_takeBack cX4_takeBack 2 none, Cond.methodLink RL 159 yX3_minutesToQuestion, Cond.instanceMethod yX3_minutesToQuestion, Cond.selects RX3 yX3_minutesToQuestion yX3_minutesToQuestion, Cond.code yX3_minutesToQuestion cX3_minutesToQuestion 1 (some .int)]
def wsL_law0_r22 : List Cond := [Cond.methodLink RX3 152 yX1_asksIn, Cond.methodLink RL 162 yX4_minutesToQuestion, Cond.instanceMethod yX4_minutesToQuestion, Cond.selects RX4 yX4_minutesToQuestion yX4_minutesToQuestion, Cond.code yX4_minutesToQuestion cX4_minutesToQuestion 1 (some .int), Cond.methodLink RX4 110 yX4_asksIn, Cond.instanceMethod yX4_asksIn, Cond.selects RX4 yX4_asksIn yX4_asksIn, Cond.code yX4_asksIn cX4_asksIn 2 (some .int), Cond.methodLink RL 163 yL_disturbedAfter, Cond.static yL_disturbedAfter, Cond.codeWith yL_disturbedAfter cL_disturbedAfter 5 (some .int) [(0, 10, 13, 13), (0, 10, 17, 32)], Cond.methodLink RL 64 yX3_disturbedAfter, Cond.instanceMethod yX3_disturbedAfter, Cond.selects RX3 yX3_disturbedAfter yX3_disturbedAfter, Cond.code yX3_disturbedAfter cX3_disturbedAfter 3 (some .int), Cond.methodLink RX3 155 yX1_disturbedIn, Cond.instanceMethod yX1_disturbedIn, Cond.selects RX1 yX1_disturbedIn yX1_disturbedIn, Cond.code yX1_disturbedIn cX1_disturbedIn 6 (some .int), Cond.methodLink RX1 107 yX1_isRowOpen, Cond.methodLink RL 165 yX4_disturbedAfter, Cond.instanceMethod yX4_disturbedAfter, Cond.selects RX4 yX4_disturbedAfter yX4_disturbedAfter]
def wsL_law0_r23 : List Cond := [Cond.code yX4_disturbedAfter cX4_disturbedAfter 5 (some .int), Cond.methodLink RL 166 yL_append, Cond.static yL_append, Cond.codeWith yL_append cL_append 4 (some .int) [(0, 9, 12, 32), (0, 9, 15, 15)], Cond.methodLink RL 67 yX3_append, Cond.instanceMethod yX3_append, Cond.selects RX3 yX3_append yX3_append, Cond.code yX3_append cX3_append 2 (some .int), Cond.fieldLink RX3 160 "ConcertUsher$EventText" "length" "I", Cond.methodLink RX3 165 yX0_add, Cond.instanceMethod yX0_add, Cond.selects RX0 yX0_add yX0_add, Cond.code yX0_add cX0_add 2 none, Cond.methodLink RL 168 yX4_append, Cond.instanceMethod yX4_append, Cond.selects RX4 yX4_append yX4_append, Cond.code yX4_append cX4_append 2 (some .int), Cond.fieldLink RX4 113 "ConcertUsherModel" "length" "I", Cond.methodLink RL 169 yX3_clearText, Cond.instanceMethod yX3_clearText, Cond.selects RX3 yX3_clearText yX3_clearText, Cond.code yX3_clearText cX3_clearText 2 (some .int), Cond.methodLink RL 172 yX4_clearText, Cond.instanceMethod yX4_clearText]
def wsL_law0_r24 : List Cond := [Cond.selects RX4 yX4_clearText yX4_clearText, Cond.code yX4_clearText cX4_clearText 2 (some .int), Cond.methodLink RL 173 yX3_firstError, Cond.instanceMethod yX3_firstError, Cond.selects RX3 yX3_firstError yX3_firstError, Cond.code yX3_firstError cX3_firstError 1 (some .int), Cond.methodLink RX3 169 yX0_firstWrongSign, Cond.instanceMethod yX0_firstWrongSign, Cond.selects RX0 yX0_firstWrongSign yX0_firstWrongSign, Cond.code yX0_firstWrongSign cX0_firstWrongSign 3 (some .int), Cond.methodLink RX0 19 yX0_signAt, Cond.instanceMethod yX0_signAt, Cond.selects RX0 yX0_signAt yX0_signAt, Cond.code yX0_signAt cX0_signAt 2 (some .char), Cond.methodLink RX0 27 yX0_stateAfter, Cond.static yX0_stateAfter, Cond.code yX0_stateAfter cX0_stateAfter 2 (some .int), Cond.methodLink RX0 31 yX0_stateAfterLetter, Cond.static yX0_stateAfterLetter, Cond.code yX0_stateAfterLetter cX0_stateAfterLetter 1 (some .int), Cond.methodLink RX0 35 yX0_isBetween, Cond.static yX0_isBetween, Cond.code yX0_isBetween cX0_isBetween 3 (some .boolean), Cond.methodLink RX0 39 yX0_stateAfterFirstDigit]
def wsL_law0_r25 : List Cond := [Cond.static yX0_stateAfterFirstDigit, Cond.code yX0_stateAfterFirstDigit cX0_stateAfterFirstDigit 1 (some .int), Cond.methodLink RX0 42 yX0_stateAfterEvent, Cond.static yX0_stateAfterEvent, Cond.code yX0_stateAfterEvent cX0_stateAfterEvent 1 (some .int), Cond.methodLink RL 176 yX4_firstError, Cond.instanceMethod yX4_firstError, Cond.selects RX4 yX4_firstError yX4_firstError, Cond.code yX4_firstError cX4_firstError 1 (some .int), Cond.fieldLink RX4 116 "ConcertUsherModel" "at" "I", Cond.methodLink RX4 138 yX4_reads, Cond.instanceMethod yX4_reads, Cond.selects RX4 yX4_reads yX4_reads, Cond.code yX4_reads cX4_reads 1 (some .boolean), Cond.fieldLink RX4 129 "ConcertUsherModel" "readMany" "I", Cond.fieldLink RX4 119 "ConcertUsherModel" "isWell" "Z", Cond.methodLink RX4 135 yX4_readsEvent, Cond.instanceMethod yX4_readsEvent, Cond.selects RX4 yX4_readsEvent yX4_readsEvent, Cond.code yX4_readsEvent cX4_readsEvent 3 none, Cond.methodLink RX4 123 yX4_sign, Cond.instanceMethod yX4_sign, Cond.selects RX4 yX4_sign yX4_sign, Cond.code yX4_sign cX4_sign 1 (some .int)]
def wsL_law0_r26 : List Cond := [Cond.methodLink RX4 132 yX4_number, Cond.instanceMethod yX4_number, Cond.selects RX4 yX4_number yX4_number, Cond.code yX4_number cX4_number 2 (some .int), Cond.methodLink RX4 126 yX4_figure, Cond.instanceMethod yX4_figure, Cond.selects RX4 yX4_figure yX4_figure, Cond.code yX4_figure cX4_figure 4 (some .int), Cond.methodLink RL 177 yL_run, Cond.static yL_run, Cond.codeWith yL_run cL_run 3 (some .int) [(0, 8, 11, 32)], Cond.methodLink RL 70 yX3_run, Cond.instanceMethod yX3_run, Cond.selects RX3 yX3_run yX3_run, Cond.code yX3_run cX3_run 2 (some .int), Cond.methodLink RX3 172 yX0_isComplete, Cond.instanceMethod yX0_isComplete, Cond.selects RX0 yX0_isComplete yX0_isComplete, Cond.code yX0_isComplete cX0_isComplete 3 (some .boolean), Cond.methodLink RX3 178 yX3_doEvents, Cond.instanceMethod yX3_doEvents, Cond.selects RX3 yX3_doEvents yX3_doEvents, Cond.code yX3_doEvents cX3_doEvents 3 (some .int), Cond.methodLink RX3 206 yX0_startsEvent]
def wsL_law0_r27 : List Cond := [Cond.instanceMethod yX0_startsEvent, Cond.selects RX0 yX0_startsEvent yX0_startsEvent, Cond.code yX0_startsEvent cX0_startsEvent 2 (some .boolean), Cond.methodLink RX3 209 yX3_doEvent, Cond.instanceMethod yX3_doEvent, Cond.selects RX3 yX3_doEvent yX3_doEvent, Cond.code yX3_doEvent cX3_doEvent 3 (some .boolean), Cond.methodLink RX3 212 yX0_digitAt, Cond.instanceMethod yX0_digitAt, Cond.selects RX0 yX0_digitAt yX0_digitAt, Cond.code yX0_digitAt cX0_digitAt 2 (some .int), Cond.methodLink RX3 215 yX0_signAt, Cond.methodLink RX3 219 yX3_seatIfRoom, Cond.instanceMethod yX3_seatIfRoom, Cond.selects RX3 yX3_seatIfRoom yX3_seatIfRoom, Cond.code yX3_seatIfRoom cX3_seatIfRoom 2 (some .boolean), Cond.methodLink RX3 222 yX3_unseatIfWanted, Cond.instanceMethod yX3_unseatIfWanted, Cond.selects RX3 yX3_unseatIfWanted yX3_unseatIfWanted, Cond.code yX3_unseatIfWanted cX3_unseatIfWanted 3 (some .boolean), Cond.methodLink RX3 226 yX0_numberAt, Cond.instanceMethod yX0_numberAt, Cond.selects RX0 yX0_numberAt yX0_numberAt, Cond.code yX0_numberAt cX0_numberAt 3 (some .int)]
def wsL_law0_r28 : List Cond := [Cond.methodLink RX0 23 yX0_digitAt, Cond.methodLink RL 180 yX4_run, Cond.instanceMethod yX4_run, Cond.selects RX4 yX4_run yX4_run, Cond.code yX4_run cX4_run 2 (some .int), Cond.methodLink RX4 141 yX4_does, Cond.instanceMethod yX4_does, Cond.selects RX4 yX4_does yX4_does, Cond.code yX4_does cX4_does 4 (some .boolean), Cond.methodLink RL 181 yL_undo, Cond.static yL_undo, Cond.codeWith yL_undo cL_undo 3 (some .int) [(0, 8, 11, 15)], Cond.methodLink RL 74 yX3_undo, Cond.instanceMethod yX3_undo, Cond.selects RX3 yX3_undo yX3_undo, Cond.code yX3_undo cX3_undo 1 (some .int), Cond.fieldLink RX3 181 "ConcertUsher$History" "size" "I", Cond.methodLink RX3 186 yX2_takeBack, Cond.instanceMethod yX2_takeBack, Cond.selects RX2 yX2_takeBack yX2_takeBack, Cond.code yX2_takeBack cX2_takeBack 2 none, Cond.methodLink RL 183 yX4_undo, Cond.instanceMethod yX4_undo, Cond.selects RX4 yX4_undo yX4_undo]
def wsL_law0_r29 : List Cond := [Cond.code yX4_undo cX4_undo 2 (some .int), Cond.methodLink RL 184 yX3_savedStates, Cond.instanceMethod yX3_savedStates, Cond.selects RX3 yX3_savedStates yX3_savedStates, Cond.code yX3_savedStates cX3_savedStates 1 (some .int), Cond.methodLink RL 187 yX4_savedStates, Cond.instanceMethod yX4_savedStates, Cond.selects RX4 yX4_savedStates yX4_savedStates, Cond.code yX4_savedStates cX4_savedStates 1 (some .int), Cond.methodLink RL 188 yX3_digest, Cond.instanceMethod yX3_digest, Cond.selects RX3 yX3_digest yX3_digest, Cond.code yX3_digest cX3_digest 4 (some .long), Cond.constantLong RX3 189 (4701), Cond.methodLink RX3 191 yX3_mix, Cond.static yX3_mix, Cond.code yX3_mix cX3_mix 3 (some .long), Cond.constantLong RX3 198 (31), Cond.methodLink RX3 195 yX3_mixRow, Cond.instanceMethod yX3_mixRow, Cond.selects RX3 yX3_mixRow yX3_mixRow, Cond.code yX3_mixRow cX3_mixRow 8 (some .long), Cond.methodLink RL 192 yX4_digest, Cond.instanceMethod yX4_digest]
def wsL_law0_r30 : List Cond := [Cond.selects RX4 yX4_digest yX4_digest, Cond.code yX4_digest cX4_digest 2 (some .long), Cond.constantLong RX4 150 (4701), Cond.fieldLink RX4 146 "ConcertUsherModel" "hash" "J", Cond.methodLink RX4 152 yX4_hashes, Cond.instanceMethod yX4_hashes, Cond.selects RX4 yX4_hashes yX4_hashes, Cond.code yX4_hashes cX4_hashes 2 none, Cond.constantLong RX4 144 (31)]
def wsL_law0 : List Cond := (wsL_law0_r1 ++ (wsL_law0_r2 ++ (wsL_law0_r3 ++ (wsL_law0_r4 ++ (wsL_law0_r5 ++ (wsL_law0_r6 ++ (wsL_law0_r7 ++ (wsL_law0_r8 ++ (wsL_law0_r9 ++ (wsL_law0_r10 ++ (wsL_law0_r11 ++ (wsL_law0_r12 ++ (wsL_law0_r13 ++ (wsL_law0_r14 ++ (wsL_law0_r15 ++ (wsL_law0_r16 ++ (wsL_law0_r17 ++ (wsL_law0_r18 ++ (wsL_law0_r19 ++ (wsL_law0_r20 ++ (wsL_law0_r21 ++ (wsL_law0_r22 ++ (wsL_law0_r23 ++ (wsL_law0_r24 ++ (wsL_law0_r25 ++ (wsL_law0_r26 ++ (wsL_law0_r27 ++ (wsL_law0_r28 ++ (wsL_law0_r29 ++ wsL_law0_r30))))))))))))))))))))))))))))) ++ wsX30 ++ wsX40 ++ wsX10 ++ wsX20 ++ wsX00 ++ ([] : List Cond)
end
section
def wsL_law : List Cond := wsL_law0 ++ (vx_atS RX3 49 "java/lang/IllegalStateException" ["java/lang/RuntimeException", "java/lang/Exception"]).filter goodWord ++ (vx_atS RX3 105 "java/lang/IndexOutOfBoundsException" ["java/lang/RuntimeException", "java/lang/Exception"]).filter goodWord ++ (vx_atS RX3 86 "java/lang/IllegalArgumentException" ["java/lang/RuntimeException", "java/lang/Exception"]).filter goodWord
set_option maxRecDepth 20000 in
theorem wsL_law0_r1_in : ∀ w ∈ wsL_law0_r1, w ∈ lw_tbl := fun w h => (goodIn_p wsL_law0_r1 [58, 61] (by decide +kernel) (by decide +kernel) w h).1
set_option maxRecDepth 20000 in
theorem wsL_law0_r2_in : ∀ w ∈ wsL_law0_r2, w ∈ lw_tbl := fun w h => (goodIn_p wsL_law0_r2 [66, 121] (by decide +kernel) (by decide +kernel) w h).1
set_option maxRecDepth 20000 in
theorem wsL_law0_r3_in : ∀ w ∈ wsL_law0_r3, w ∈ lw_tbl := fun w h => (goodIn_p wsL_law0_r3 [141, 647] (by decide +kernel) (by decide +kernel) w h).1
set_option maxRecDepth 20000 in
theorem wsL_law0_r4_in : ∀ w ∈ wsL_law0_r4, w ∈ lw_tbl := fun w h => (goodIn_p wsL_law0_r4 [302, 305, 376, 271, 381] (by decide +kernel) (by decide +kernel) w h).1
set_option maxRecDepth 20000 in
theorem wsL_law0_r5_in : ∀ w ∈ wsL_law0_r5, w ∈ lw_tbl := fun w h => (goodIn_p wsL_law0_r5 [169, 173, 401, 405, 693, 696] (by decide +kernel) (by decide +kernel) w h).1
set_option maxRecDepth 20000 in
theorem wsL_law0_r6_in : ∀ w ∈ wsL_law0_r6, w ∈ lw_tbl := fun w h => (goodIn_p wsL_law0_r6 [699, 703, 706, 710, 714, 718] (by decide +kernel) (by decide +kernel) w h).1
set_option maxRecDepth 20000 in
theorem wsL_law0_r7_in : ∀ w ∈ wsL_law0_r7, w ∈ lw_tbl := fun w h => (goodIn_p wsL_law0_r7 [689, 412, 279, 418, 422] (by decide +kernel) (by decide +kernel) w h).1
set_option maxRecDepth 20000 in
theorem wsL_law0_r8_in : ∀ w ∈ wsL_law0_r8, w ∈ lw_tbl := fun w h => (goodIn_p wsL_law0_r8 [426, 722, 726, 730, 433] (by decide +kernel) (by decide +kernel) w h).1
set_option maxRecDepth 20000 in
theorem wsL_law0_r9_in : ∀ w ∈ wsL_law0_r9, w ∈ lw_tbl := fun w h => (goodIn_p wsL_law0_r9 [734, 440, 287, 444, 738] (by decide +kernel) (by decide +kernel) w h).1
set_option maxRecDepth 20000 in
theorem wsL_law0_r10_in : ∀ w ∈ wsL_law0_r10, w ∈ lw_tbl := fun w h => (goodIn_p wsL_law0_r10 [165, 742, 452, 746] (by decide +kernel) (by decide +kernel) w h).1
set_option maxRecDepth 20000 in
theorem wsL_law0_r11_in : ∀ w ∈ wsL_law0_r11, w ∈ lw_tbl := fun w h => (goodIn_p wsL_law0_r11 [477, 184, 750, 754, 180] (by decide +kernel) (by decide +kernel) w h).1
set_option maxRecDepth 20000 in
theorem wsL_law0_r12_in : ∀ w ∈ wsL_law0_r12, w ∈ lw_tbl := fun w h => (goodIn_p wsL_law0_r12 [758, 485, 762, 188, 192] (by decide +kernel) (by decide +kernel) w h).1
set_option maxRecDepth 20000 in
theorem wsL_law0_r13_in : ∀ w ∈ wsL_law0_r13, w ∈ lw_tbl := fun w h => (goodIn_p wsL_law0_r13 [766, 770, 492, 774] (by decide +kernel) (by decide +kernel) w h).1
set_option maxRecDepth 20000 in
theorem wsL_law0_r14_in : ∀ w ∈ wsL_law0_r14, w ∈ lw_tbl := fun w h => (goodIn_p wsL_law0_r14 [499, 268, 778, 781, 785, 789] (by decide +kernel) (by decide +kernel) w h).1
set_option maxRecDepth 20000 in
theorem wsL_law0_r15_in : ∀ w ∈ wsL_law0_r15, w ∈ lw_tbl := fun w h => (goodIn_p wsL_law0_r15 [506, 275, 793, 797, 801] (by decide +kernel) (by decide +kernel) w h).1
set_option maxRecDepth 20000 in
theorem wsL_law0_r16_in : ∀ w ∈ wsL_law0_r16, w ∈ lw_tbl := fun w h => (goodIn_p wsL_law0_r16 [513, 516, 521, 525, 216, 529] (by decide +kernel) (by decide +kernel) w h).1
set_option maxRecDepth 20000 in
theorem wsL_law0_r17_in : ∀ w ∈ wsL_law0_r17, w ∈ lw_tbl := fun w h => (goodIn_p wsL_law0_r17 [805, 809, 813, 817, 536] (by decide +kernel) (by decide +kernel) w h).1
set_option maxRecDepth 20000 in
theorem wsL_law0_r18_in : ∀ w ∈ wsL_law0_r18, w ∈ lw_tbl := fun w h => (goodIn_p wsL_law0_r18 [540, 545, 821, 825, 196] (by decide +kernel) (by decide +kernel) w h).1
set_option maxRecDepth 20000 in
theorem wsL_law0_r19_in : ∀ w ∈ wsL_law0_r19, w ∈ lw_tbl := fun w h => (goodIn_p wsL_law0_r19 [829, 200, 833, 555] (by decide +kernel) (by decide +kernel) w h).1
set_option maxRecDepth 20000 in
theorem wsL_law0_r20_in : ∀ w ∈ wsL_law0_r20, w ∈ lw_tbl := fun w h => (goodIn_p wsL_law0_r20 [837, 204, 841, 563, 292, 212] (by decide +kernel) (by decide +kernel) w h).1
set_option maxRecDepth 20000 in
theorem wsL_law0_r21_in : ∀ w ∈ wsL_law0_r21, w ∈ lw_tbl := fun w h => (goodIn_p wsL_law0_r21 [220, 845, 849, 853, 857, 208] (by decide +kernel) (by decide +kernel) w h).1
set_option maxRecDepth 20000 in
theorem wsL_law0_r22_in : ∀ w ∈ wsL_law0_r22, w ∈ lw_tbl := fun w h => (goodIn_p wsL_law0_r22 [861, 865, 570, 574] (by decide +kernel) (by decide +kernel) w h).1
set_option maxRecDepth 20000 in
theorem wsL_law0_r23_in : ∀ w ∈ wsL_law0_r23, w ∈ lw_tbl := fun w h => (goodIn_p wsL_law0_r23 [869, 582, 588, 873, 224] (by decide +kernel) (by decide +kernel) w h).1
set_option maxRecDepth 20000 in
theorem wsL_law0_r24_in : ∀ w ∈ wsL_law0_r24, w ∈ lw_tbl := fun w h => (goodIn_p wsL_law0_r24 [877, 228, 232, 236, 239, 242, 245] (by decide +kernel) (by decide +kernel) w h).1
set_option maxRecDepth 20000 in
theorem wsL_law0_r25_in : ∀ w ∈ wsL_law0_r25, w ∈ lw_tbl := fun w h => (goodIn_p wsL_law0_r25 [248, 251, 881, 885, 889, 893] (by decide +kernel) (by decide +kernel) w h).1
set_option maxRecDepth 20000 in
theorem wsL_law0_r26_in : ∀ w ∈ wsL_law0_r26, w ∈ lw_tbl := fun w h => (goodIn_p wsL_law0_r26 [897, 901, 595, 599, 604] (by decide +kernel) (by decide +kernel) w h).1
set_option maxRecDepth 20000 in
theorem wsL_law0_r27_in : ∀ w ∈ wsL_law0_r27, w ∈ lw_tbl := fun w h => (goodIn_p wsL_law0_r27 [608, 612, 616, 621, 625, 629] (by decide +kernel) (by decide +kernel) w h).1
set_option maxRecDepth 20000 in
theorem wsL_law0_r28_in : ∀ w ∈ wsL_law0_r28, w ∈ lw_tbl := fun w h => (goodIn_p wsL_law0_r28 [905, 909, 637, 642] (by decide +kernel) (by decide +kernel) w h).1
set_option maxRecDepth 20000 in
theorem wsL_law0_r29_in : ∀ w ∈ wsL_law0_r29, w ∈ lw_tbl := fun w h => (goodIn_p wsL_law0_r29 [913, 255, 917, 259, 263, 283] (by decide +kernel) (by decide +kernel) w h).1
set_option maxRecDepth 20000 in
theorem wsL_law0_r30_in : ∀ w ∈ wsL_law0_r30, w ∈ lw_tbl := fun w h => (goodIn_p wsL_law0_r30 [921, 926] (by decide +kernel) (by decide +kernel) w h).1
theorem wsX30_in : ∀ w ∈ wsX30, w ∈ lw_tbl := by decide +kernel
theorem wsX40_in : ∀ w ∈ wsX40, w ∈ lw_tbl := by decide +kernel
theorem wsX10_in : ∀ w ∈ wsX10, w ∈ lw_tbl := by decide +kernel
theorem wsX20_in : ∀ w ∈ wsX20, w ∈ lw_tbl := by decide +kernel
theorem wsX00_in : ∀ w ∈ wsX00, w ∈ lw_tbl := by decide +kernel
theorem k_app_in {a b : List Cond} (ha : ∀ w ∈ a, w ∈ lw_tbl) (hb : ∀ w ∈ b, w ∈ lw_tbl) : ∀ w ∈ a ++ b, w ∈ lw_tbl := fun w h => (List.mem_append.mp h).elim (ha w) (hb w)
theorem wsL_law_in0 : ∀ w ∈ wsL_law0, w ∈ lw_tbl := (k_app_in (k_app_in (k_app_in (k_app_in (k_app_in (k_app_in (k_app_in wsL_law0_r1_in (k_app_in wsL_law0_r2_in (k_app_in wsL_law0_r3_in (k_app_in wsL_law0_r4_in (k_app_in wsL_law0_r5_in (k_app_in wsL_law0_r6_in (k_app_in wsL_law0_r7_in (k_app_in wsL_law0_r8_in (k_app_in wsL_law0_r9_in (k_app_in wsL_law0_r10_in (k_app_in wsL_law0_r11_in (k_app_in wsL_law0_r12_in (k_app_in wsL_law0_r13_in (k_app_in wsL_law0_r14_in (k_app_in wsL_law0_r15_in (k_app_in wsL_law0_r16_in (k_app_in wsL_law0_r17_in (k_app_in wsL_law0_r18_in (k_app_in wsL_law0_r19_in (k_app_in wsL_law0_r20_in (k_app_in wsL_law0_r21_in (k_app_in wsL_law0_r22_in (k_app_in wsL_law0_r23_in (k_app_in wsL_law0_r24_in (k_app_in wsL_law0_r25_in (k_app_in wsL_law0_r26_in (k_app_in wsL_law0_r27_in (k_app_in wsL_law0_r28_in (k_app_in wsL_law0_r29_in (wsL_law0_r30_in)))))))))))))))))))))))))))))) wsX30_in) wsX40_in) wsX10_in) wsX20_in) wsX00_in) (fun _ h => absurd h List.not_mem_nil))
theorem wsL_law_x0 : ∀ w ∈ (vx_atS RX3 49 "java/lang/IllegalStateException" ["java/lang/RuntimeException", "java/lang/Exception"]).filter goodWord, w ∈ lw_tbl := by decide +kernel
theorem wsL_law_x1 : ∀ w ∈ (vx_atS RX3 105 "java/lang/IndexOutOfBoundsException" ["java/lang/RuntimeException", "java/lang/Exception"]).filter goodWord, w ∈ lw_tbl := by decide +kernel
theorem wsL_law_x2 : ∀ w ∈ (vx_atS RX3 86 "java/lang/IllegalArgumentException" ["java/lang/RuntimeException", "java/lang/Exception"]).filter goodWord, w ∈ lw_tbl := by decide +kernel
theorem wsL_law_in : ∀ w ∈ wsL_law, w ∈ lw_tbl := fun w h => (List.mem_append.mp h).elim (fun h => (List.mem_append.mp h).elim (fun h => (List.mem_append.mp h).elim (fun h => wsL_law_in0 w h) (fun h => wsL_law_x0 w h)) (fun h => wsL_law_x1 w h)) (fun h => wsL_law_x2 w h)
theorem inlX0 : ∀ w ∈ wsX00, w ∈ wsL_law := fun _ h => List.mem_append_left _ (List.mem_append_left _ (List.mem_append_left _ (List.mem_append_left _ (List.mem_append_right _ h))))
theorem inX0 : ∀ w ∈ wsX00, w ∈ lw_tbl := fun w h => wsL_law_in w (inlX0 w h)
theorem inlX1 : ∀ w ∈ wsX10, w ∈ wsL_law := fun _ h => List.mem_append_left _ (List.mem_append_left _ (List.mem_append_left _ (List.mem_append_left _ (List.mem_append_left _ (List.mem_append_left _ (List.mem_append_right _ h))))))
theorem inX1 : ∀ w ∈ wsX10, w ∈ lw_tbl := fun w h => wsL_law_in w (inlX1 w h)
theorem inlX2 : ∀ w ∈ wsX20, w ∈ wsL_law := fun _ h => List.mem_append_left _ (List.mem_append_left _ (List.mem_append_left _ (List.mem_append_left _ (List.mem_append_left _ (List.mem_append_right _ h)))))
theorem inX2 : ∀ w ∈ wsX20, w ∈ lw_tbl := fun w h => wsL_law_in w (inlX2 w h)
theorem inlX3 : ∀ w ∈ wsX30, w ∈ wsL_law := fun _ h => List.mem_append_left _ (List.mem_append_left _ (List.mem_append_left _ (List.mem_append_left _ (List.mem_append_left _ (List.mem_append_left _ (List.mem_append_left _ (List.mem_append_left _ (List.mem_append_right _ h))))))))
theorem inX3 : ∀ w ∈ wsX30, w ∈ lw_tbl := fun w h => wsL_law_in w (inlX3 w h)
theorem inlX4 : ∀ w ∈ wsX40, w ∈ wsL_law := fun _ h => List.mem_append_left _ (List.mem_append_left _ (List.mem_append_left _ (List.mem_append_left _ (List.mem_append_left _ (List.mem_append_left _ (List.mem_append_left _ (List.mem_append_right _ h)))))))
theorem inX4 : ∀ w ∈ wsX40, w ∈ lw_tbl := fun w h => wsL_law_in w (inlX4 w h)
theorem inJ6 : ∀ w ∈ wsJ60, w ∈ lw_tbl := by decide +kernel
theorem inJ9 : ∀ w ∈ wsJ90, w ∈ lw_tbl := by decide +kernel
theorem inJ0 : ∀ w ∈ wsJ00, w ∈ lw_tbl := by decide +kernel
theorem inJ10 : ∀ w ∈ wsJ100, w ∈ lw_tbl := by decide +kernel
abbrev vwCl : List vw_C := [(RX0, TX0, 2), (RX1, TX1, 12), (RX2, TX2, 3), (RX3, TX3, 3), (RX4, TX4, 12)]
end
section
theorem dX0_init_0 : decode cX0_init 0 = .ok (.aload_n 0, 1) := by decide +kernel
theorem dX0_init_1 : decode cX0_init 1 = .ok (.invokespecial 3, 3) := by decide +kernel
theorem dX0_init_4 : decode cX0_init 4 = .ok (.aload_n 0, 1) := by decide +kernel
theorem dX0_init_5 : decode cX0_init 5 = .ok (.bipush 60, 2) := by decide +kernel
theorem dX0_init_7 : decode cX0_init 7 = .ok (.newarray .char, 2) := by decide +kernel
theorem dX0_init_9 : decode cX0_init 9 = .ok (.putfield 9, 3) := by decide +kernel
theorem dX0_init_12 : decode cX0_init 12 = .ok (.aload_n 0, 1) := by decide +kernel
theorem dX0_init_13 : decode cX0_init 13 = .ok (.iconst 0, 1) := by decide +kernel
theorem dX0_init_14 : decode cX0_init 14 = .ok (.putfield 15, 3) := by decide +kernel
theorem dX0_init_17 : decode cX0_init 17 = .ok (.return_, 1) := by decide +kernel
theorem dX0_add_0 : decode cX0_add 0 = .ok (.aload_n 0, 1) := by decide +kernel
theorem dX0_add_1 : decode cX0_add 1 = .ok (.getfield 15, 3) := by decide +kernel
theorem dX0_add_4 : decode cX0_add 4 = .ok (.bipush 60, 2) := by decide +kernel
theorem dX0_add_6 : decode cX0_add 6 = .ok (.if_icmp .ge 23, 3) := by decide +kernel
theorem dX0_add_9 : decode cX0_add 9 = .ok (.aload_n 0, 1) := by decide +kernel
theorem dX0_add_10 : decode cX0_add 10 = .ok (.getfield 9, 3) := by decide +kernel
theorem dX0_add_13 : decode cX0_add 13 = .ok (.aload_n 0, 1) := by decide +kernel
theorem dX0_add_14 : decode cX0_add 14 = .ok (.getfield 15, 3) := by decide +kernel
theorem dX0_add_17 : decode cX0_add 17 = .ok (.iload_n 1, 1) := by decide +kernel
theorem dX0_add_18 : decode cX0_add 18 = .ok (.castore, 1) := by decide +kernel
theorem dX0_add_19 : decode cX0_add 19 = .ok (.aload_n 0, 1) := by decide +kernel
theorem dX0_add_20 : decode cX0_add 20 = .ok (.dup, 1) := by decide +kernel
theorem dX0_add_21 : decode cX0_add 21 = .ok (.getfield 15, 3) := by decide +kernel
theorem dX0_add_24 : decode cX0_add 24 = .ok (.iconst 1, 1) := by decide +kernel
theorem dX0_add_25 : decode cX0_add 25 = .ok (.iadd, 1) := by decide +kernel
theorem dX0_add_26 : decode cX0_add 26 = .ok (.putfield 15, 3) := by decide +kernel
theorem dX0_add_29 : decode cX0_add 29 = .ok (.return_, 1) := by decide +kernel
theorem dX0_signAt_0 : decode cX0_signAt 0 = .ok (.iload_n 1, 1) := by decide +kernel
theorem dX0_signAt_1 : decode cX0_signAt 1 = .ok (.ifCond .lt 20, 3) := by decide +kernel
theorem dX0_signAt_4 : decode cX0_signAt 4 = .ok (.iload_n 1, 1) := by decide +kernel
theorem dX0_signAt_5 : decode cX0_signAt 5 = .ok (.aload_n 0, 1) := by decide +kernel
theorem dX0_signAt_6 : decode cX0_signAt 6 = .ok (.getfield 15, 3) := by decide +kernel
theorem dX0_signAt_9 : decode cX0_signAt 9 = .ok (.if_icmp .ge 12, 3) := by decide +kernel
theorem dX0_signAt_12 : decode cX0_signAt 12 = .ok (.aload_n 0, 1) := by decide +kernel
theorem dX0_signAt_13 : decode cX0_signAt 13 = .ok (.getfield 9, 3) := by decide +kernel
theorem dX0_signAt_16 : decode cX0_signAt 16 = .ok (.iload_n 1, 1) := by decide +kernel
theorem dX0_signAt_17 : decode cX0_signAt 17 = .ok (.caload, 1) := by decide +kernel
theorem dX0_signAt_18 : decode cX0_signAt 18 = .ok (.goto 5, 3) := by decide +kernel
theorem dX0_signAt_21 : decode cX0_signAt 21 = .ok (.bipush 59, 2) := by decide +kernel
theorem dX0_signAt_23 : decode cX0_signAt 23 = .ok (.ireturn, 1) := by decide +kernel
set_option maxRecDepth 20000 in
theorem ggX0_digitAt_X0_signAt : GoodIn wsX0_digitAt wsX0_signAt := goodIn_r _ [5, 6, 7, 8, 9] (by decide +kernel) (by decide +kernel)
set_option maxRecDepth 20000 in
theorem gX0_digitAt_X0_signAt : GoodIn wsX0_digitAt (wsV RX0 19 RX0 yX0_signAt wsX0_signAt) := goodIn_app (goodIn_of _ (by decide +kernel)) ggX0_digitAt_X0_signAt
theorem dX0_digitAt_0 : decode cX0_digitAt 0 = .ok (.aload_n 0, 1) := by decide +kernel
theorem dX0_digitAt_1 : decode cX0_digitAt 1 = .ok (.iload_n 1, 1) := by decide +kernel
theorem dX0_digitAt_2 : decode cX0_digitAt 2 = .ok (.invokevirtual 19, 3) := by decide +kernel
theorem dX0_digitAt_5 : decode cX0_digitAt 5 = .ok (.bipush 48, 2) := by decide +kernel
theorem dX0_digitAt_7 : decode cX0_digitAt 7 = .ok (.isub, 1) := by decide +kernel
theorem dX0_digitAt_8 : decode cX0_digitAt 8 = .ok (.ireturn, 1) := by decide +kernel
set_option maxRecDepth 20000 in
theorem ggX0_numberAt_X0_digitAt : GoodIn wsX0_numberAt wsX0_digitAt := goodIn_r _ [5, 6, 7, 8, 4, 9, 10, 11, 12, 13] (by decide +kernel) (by decide +kernel)
set_option maxRecDepth 20000 in
theorem gX0_numberAt_X0_digitAt : GoodIn wsX0_numberAt (wsV RX0 23 RX0 yX0_digitAt wsX0_digitAt) := goodIn_app (goodIn_of _ (by decide +kernel)) ggX0_numberAt_X0_digitAt
set_option maxRecDepth 20000 in
theorem ggX0_numberAt_X0_signAt : GoodIn wsX0_numberAt wsX0_signAt := goodIn_r _ [9, 10, 11, 12, 13] (by decide +kernel) (by decide +kernel)
set_option maxRecDepth 20000 in
theorem gX0_numberAt_X0_signAt : GoodIn wsX0_numberAt (wsV RX0 19 RX0 yX0_signAt wsX0_signAt) := goodIn_app (goodIn_of _ (by decide +kernel)) ggX0_numberAt_X0_signAt
theorem dX0_numberAt_0 : decode cX0_numberAt 0 = .ok (.aload_n 0, 1) := by decide +kernel
theorem dX0_numberAt_1 : decode cX0_numberAt 1 = .ok (.iload_n 1, 1) := by decide +kernel
theorem dX0_numberAt_2 : decode cX0_numberAt 2 = .ok (.invokevirtual 23, 3) := by decide +kernel
theorem dX0_numberAt_5 : decode cX0_numberAt 5 = .ok (.istore_n 2, 1) := by decide +kernel
theorem dX0_numberAt_6 : decode cX0_numberAt 6 = .ok (.aload_n 0, 1) := by decide +kernel
theorem dX0_numberAt_7 : decode cX0_numberAt 7 = .ok (.iload_n 1, 1) := by decide +kernel
theorem dX0_numberAt_8 : decode cX0_numberAt 8 = .ok (.iconst 1, 1) := by decide +kernel
theorem dX0_numberAt_9 : decode cX0_numberAt 9 = .ok (.iadd, 1) := by decide +kernel
theorem dX0_numberAt_10 : decode cX0_numberAt 10 = .ok (.invokevirtual 19, 3) := by decide +kernel
theorem dX0_numberAt_13 : decode cX0_numberAt 13 = .ok (.bipush 59, 2) := by decide +kernel
theorem dX0_numberAt_15 : decode cX0_numberAt 15 = .ok (.if_icmp .ne 7, 3) := by decide +kernel
theorem dX0_numberAt_18 : decode cX0_numberAt 18 = .ok (.iload_n 2, 1) := by decide +kernel
theorem dX0_numberAt_19 : decode cX0_numberAt 19 = .ok (.goto 15, 3) := by decide +kernel
theorem dX0_numberAt_22 : decode cX0_numberAt 22 = .ok (.bipush 10, 2) := by decide +kernel
theorem dX0_numberAt_24 : decode cX0_numberAt 24 = .ok (.iload_n 2, 1) := by decide +kernel
theorem dX0_numberAt_25 : decode cX0_numberAt 25 = .ok (.imul, 1) := by decide +kernel
theorem dX0_numberAt_26 : decode cX0_numberAt 26 = .ok (.aload_n 0, 1) := by decide +kernel
theorem dX0_numberAt_27 : decode cX0_numberAt 27 = .ok (.iload_n 1, 1) := by decide +kernel
theorem dX0_numberAt_28 : decode cX0_numberAt 28 = .ok (.iconst 1, 1) := by decide +kernel
theorem dX0_numberAt_29 : decode cX0_numberAt 29 = .ok (.iadd, 1) := by decide +kernel
theorem dX0_numberAt_30 : decode cX0_numberAt 30 = .ok (.invokevirtual 23, 3) := by decide +kernel
theorem dX0_numberAt_33 : decode cX0_numberAt 33 = .ok (.iadd, 1) := by decide +kernel
theorem dX0_numberAt_34 : decode cX0_numberAt 34 = .ok (.ireturn, 1) := by decide +kernel
set_option maxRecDepth 20000 in
theorem ggX0_startsEvent_X0_signAt : GoodIn wsX0_startsEvent wsX0_signAt := goodIn_r _ [5, 6, 7, 8, 9] (by decide +kernel) (by decide +kernel)
set_option maxRecDepth 20000 in
theorem gX0_startsEvent_X0_signAt : GoodIn wsX0_startsEvent (wsV RX0 19 RX0 yX0_signAt wsX0_signAt) := goodIn_app (goodIn_of _ (by decide +kernel)) ggX0_startsEvent_X0_signAt
theorem dX0_startsEvent_0 : decode cX0_startsEvent 0 = .ok (.iload_n 1, 1) := by decide +kernel
theorem dX0_startsEvent_1 : decode cX0_startsEvent 1 = .ok (.ifCond .eq 15, 3) := by decide +kernel
theorem dX0_startsEvent_4 : decode cX0_startsEvent 4 = .ok (.aload_n 0, 1) := by decide +kernel
theorem dX0_startsEvent_5 : decode cX0_startsEvent 5 = .ok (.iload_n 1, 1) := by decide +kernel
theorem dX0_startsEvent_6 : decode cX0_startsEvent 6 = .ok (.iconst 1, 1) := by decide +kernel
theorem dX0_startsEvent_7 : decode cX0_startsEvent 7 = .ok (.isub, 1) := by decide +kernel
theorem dX0_startsEvent_8 : decode cX0_startsEvent 8 = .ok (.invokevirtual 19, 3) := by decide +kernel
theorem dX0_startsEvent_11 : decode cX0_startsEvent 11 = .ok (.bipush 59, 2) := by decide +kernel
theorem dX0_startsEvent_13 : decode cX0_startsEvent 13 = .ok (.if_icmp .ne 7, 3) := by decide +kernel
theorem dX0_startsEvent_16 : decode cX0_startsEvent 16 = .ok (.iconst 1, 1) := by decide +kernel
theorem dX0_startsEvent_17 : decode cX0_startsEvent 17 = .ok (.goto 4, 3) := by decide +kernel
theorem dX0_startsEvent_20 : decode cX0_startsEvent 20 = .ok (.iconst 0, 1) := by decide +kernel
theorem dX0_startsEvent_21 : decode cX0_startsEvent 21 = .ok (.ireturn, 1) := by decide +kernel
set_option maxRecDepth 20000 in
theorem ggX0_firstWrongSign_X0_signAt : GoodIn wsX0_firstWrongSign wsX0_signAt := goodIn_r _ [6, 1, 7, 23, 24] (by decide +kernel) (by decide +kernel)
set_option maxRecDepth 20000 in
theorem gX0_firstWrongSign_X0_signAt : GoodIn wsX0_firstWrongSign (wsV RX0 19 RX0 yX0_signAt wsX0_signAt) := goodIn_app (goodIn_of _ (by decide +kernel)) ggX0_firstWrongSign_X0_signAt
set_option maxRecDepth 20000 in
theorem ggX0_firstWrongSign_X0_stateAfter : GoodIn wsX0_firstWrongSign wsX0_stateAfter := goodIn_r _ [10, 11, 12, 5, 13, 14, 15, 16, 17, 18, 19, 20, 21, 22] (by decide +kernel) (by decide +kernel)
set_option maxRecDepth 20000 in
theorem gX0_firstWrongSign_X0_stateAfter : GoodIn wsX0_firstWrongSign (va_wsS RX0 27 yX0_stateAfter wsX0_stateAfter) := goodIn_app (goodIn_of _ (by decide +kernel)) ggX0_firstWrongSign_X0_stateAfter
theorem dX0_firstWrongSign_0 : decode cX0_firstWrongSign 0 = .ok (.iconst 0, 1) := by decide +kernel
theorem dX0_firstWrongSign_1 : decode cX0_firstWrongSign 1 = .ok (.istore_n 1, 1) := by decide +kernel
theorem dX0_firstWrongSign_2 : decode cX0_firstWrongSign 2 = .ok (.iconst 0, 1) := by decide +kernel
theorem dX0_firstWrongSign_3 : decode cX0_firstWrongSign 3 = .ok (.istore_n 2, 1) := by decide +kernel
theorem dX0_firstWrongSign_4 : decode cX0_firstWrongSign 4 = .ok (.iload_n 2, 1) := by decide +kernel
theorem dX0_firstWrongSign_5 : decode cX0_firstWrongSign 5 = .ok (.aload_n 0, 1) := by decide +kernel
theorem dX0_firstWrongSign_6 : decode cX0_firstWrongSign 6 = .ok (.getfield 15, 3) := by decide +kernel
theorem dX0_firstWrongSign_9 : decode cX0_firstWrongSign 9 = .ok (.if_icmp .ge 27, 3) := by decide +kernel
theorem dX0_firstWrongSign_12 : decode cX0_firstWrongSign 12 = .ok (.iload_n 1, 1) := by decide +kernel
theorem dX0_firstWrongSign_13 : decode cX0_firstWrongSign 13 = .ok (.aload_n 0, 1) := by decide +kernel
theorem dX0_firstWrongSign_14 : decode cX0_firstWrongSign 14 = .ok (.iload_n 2, 1) := by decide +kernel
theorem dX0_firstWrongSign_15 : decode cX0_firstWrongSign 15 = .ok (.invokevirtual 19, 3) := by decide +kernel
theorem dX0_firstWrongSign_18 : decode cX0_firstWrongSign 18 = .ok (.invokestatic 27, 3) := by decide +kernel
theorem dX0_firstWrongSign_21 : decode cX0_firstWrongSign 21 = .ok (.istore_n 1, 1) := by decide +kernel
theorem dX0_firstWrongSign_22 : decode cX0_firstWrongSign 22 = .ok (.iload_n 1, 1) := by decide +kernel
theorem dX0_firstWrongSign_23 : decode cX0_firstWrongSign 23 = .ok (.bipush 8, 2) := by decide +kernel
theorem dX0_firstWrongSign_25 : decode cX0_firstWrongSign 25 = .ok (.if_icmp .ne 5, 3) := by decide +kernel
theorem dX0_firstWrongSign_28 : decode cX0_firstWrongSign 28 = .ok (.iload_n 2, 1) := by decide +kernel
theorem dX0_firstWrongSign_29 : decode cX0_firstWrongSign 29 = .ok (.ireturn, 1) := by decide +kernel
theorem dX0_firstWrongSign_30 : decode cX0_firstWrongSign 30 = .ok (.iinc 2 1, 3) := by decide +kernel
theorem dX0_firstWrongSign_33 : decode cX0_firstWrongSign 33 = .ok (.goto (-29), 3) := by decide +kernel
theorem dX0_firstWrongSign_36 : decode cX0_firstWrongSign 36 = .ok (.aload_n 0, 1) := by decide +kernel
theorem dX0_firstWrongSign_37 : decode cX0_firstWrongSign 37 = .ok (.getfield 15, 3) := by decide +kernel
theorem dX0_firstWrongSign_40 : decode cX0_firstWrongSign 40 = .ok (.ireturn, 1) := by decide +kernel
set_option maxRecDepth 20000 in
theorem ggX0_isComplete_X0_signAt : GoodIn wsX0_isComplete wsX0_signAt := goodIn_r _ [6, 1, 7, 23, 24] (by decide +kernel) (by decide +kernel)
set_option maxRecDepth 20000 in
theorem gX0_isComplete_X0_signAt : GoodIn wsX0_isComplete (wsV RX0 19 RX0 yX0_signAt wsX0_signAt) := goodIn_app (goodIn_of _ (by decide +kernel)) ggX0_isComplete_X0_signAt
set_option maxRecDepth 20000 in
theorem ggX0_isComplete_X0_stateAfter : GoodIn wsX0_isComplete wsX0_stateAfter := goodIn_r _ [10, 11, 12, 5, 13, 14, 15, 16, 17, 18, 19, 20, 21, 22] (by decide +kernel) (by decide +kernel)
set_option maxRecDepth 20000 in
theorem gX0_isComplete_X0_stateAfter : GoodIn wsX0_isComplete (va_wsS RX0 27 yX0_stateAfter wsX0_stateAfter) := goodIn_app (goodIn_of _ (by decide +kernel)) ggX0_isComplete_X0_stateAfter
theorem dX0_isComplete_0 : decode cX0_isComplete 0 = .ok (.iconst 0, 1) := by decide +kernel
theorem dX0_isComplete_1 : decode cX0_isComplete 1 = .ok (.istore_n 1, 1) := by decide +kernel
theorem dX0_isComplete_2 : decode cX0_isComplete 2 = .ok (.iconst 0, 1) := by decide +kernel
theorem dX0_isComplete_3 : decode cX0_isComplete 3 = .ok (.istore_n 2, 1) := by decide +kernel
theorem dX0_isComplete_4 : decode cX0_isComplete 4 = .ok (.iload_n 2, 1) := by decide +kernel
theorem dX0_isComplete_5 : decode cX0_isComplete 5 = .ok (.aload_n 0, 1) := by decide +kernel
theorem dX0_isComplete_6 : decode cX0_isComplete 6 = .ok (.getfield 15, 3) := by decide +kernel
theorem dX0_isComplete_9 : decode cX0_isComplete 9 = .ok (.if_icmp .ge 19, 3) := by decide +kernel
theorem dX0_isComplete_12 : decode cX0_isComplete 12 = .ok (.iload_n 1, 1) := by decide +kernel
theorem dX0_isComplete_13 : decode cX0_isComplete 13 = .ok (.aload_n 0, 1) := by decide +kernel
theorem dX0_isComplete_14 : decode cX0_isComplete 14 = .ok (.iload_n 2, 1) := by decide +kernel
theorem dX0_isComplete_15 : decode cX0_isComplete 15 = .ok (.invokevirtual 19, 3) := by decide +kernel
theorem dX0_isComplete_18 : decode cX0_isComplete 18 = .ok (.invokestatic 27, 3) := by decide +kernel
theorem dX0_isComplete_21 : decode cX0_isComplete 21 = .ok (.istore_n 1, 1) := by decide +kernel
theorem dX0_isComplete_22 : decode cX0_isComplete 22 = .ok (.iinc 2 1, 3) := by decide +kernel
theorem dX0_isComplete_25 : decode cX0_isComplete 25 = .ok (.goto (-21), 3) := by decide +kernel
theorem dX0_isComplete_28 : decode cX0_isComplete 28 = .ok (.iload_n 1, 1) := by decide +kernel
theorem dX0_isComplete_29 : decode cX0_isComplete 29 = .ok (.iconst 5, 1) := by decide +kernel
theorem dX0_isComplete_30 : decode cX0_isComplete 30 = .ok (.if_icmp .eq 15, 3) := by decide +kernel
theorem dX0_isComplete_33 : decode cX0_isComplete 33 = .ok (.iload_n 1, 1) := by decide +kernel
theorem dX0_isComplete_34 : decode cX0_isComplete 34 = .ok (.bipush 6, 2) := by decide +kernel
theorem dX0_isComplete_36 : decode cX0_isComplete 36 = .ok (.if_icmp .eq 9, 3) := by decide +kernel
theorem dX0_isComplete_39 : decode cX0_isComplete 39 = .ok (.iload_n 1, 1) := by decide +kernel
theorem dX0_isComplete_40 : decode cX0_isComplete 40 = .ok (.bipush 7, 2) := by decide +kernel
theorem dX0_isComplete_42 : decode cX0_isComplete 42 = .ok (.if_icmp .ne 7, 3) := by decide +kernel
theorem dX0_isComplete_45 : decode cX0_isComplete 45 = .ok (.iconst 1, 1) := by decide +kernel
theorem dX0_isComplete_46 : decode cX0_isComplete 46 = .ok (.goto 4, 3) := by decide +kernel
theorem dX0_isComplete_49 : decode cX0_isComplete 49 = .ok (.iconst 0, 1) := by decide +kernel
theorem dX0_isComplete_50 : decode cX0_isComplete 50 = .ok (.ireturn, 1) := by decide +kernel
set_option maxRecDepth 20000 in
theorem ggX0_stateAfter_X0_stateAfterLetter : GoodIn wsX0_stateAfter wsX0_stateAfterLetter := goodIn_r _ [4] (by decide +kernel) (by decide +kernel)
set_option maxRecDepth 20000 in
theorem gX0_stateAfter_X0_stateAfterLetter : GoodIn wsX0_stateAfter (va_wsS RX0 31 yX0_stateAfterLetter wsX0_stateAfterLetter) := goodIn_app (goodIn_of _ (by decide +kernel)) ggX0_stateAfter_X0_stateAfterLetter
set_option maxRecDepth 20000 in
theorem ggX0_stateAfter_X0_isBetween : GoodIn wsX0_stateAfter wsX0_isBetween := goodIn_r _ [7] (by decide +kernel) (by decide +kernel)
set_option maxRecDepth 20000 in
theorem gX0_stateAfter_X0_isBetween : GoodIn wsX0_stateAfter (va_wsS RX0 35 yX0_isBetween wsX0_isBetween) := goodIn_app (goodIn_of _ (by decide +kernel)) ggX0_stateAfter_X0_isBetween
set_option maxRecDepth 20000 in
theorem ggX0_stateAfter_X0_stateAfterFirstDigit : GoodIn wsX0_stateAfter wsX0_stateAfterFirstDigit := goodIn_r _ [10, 5, 6, 3, 7] (by decide +kernel) (by decide +kernel)
set_option maxRecDepth 20000 in
theorem gX0_stateAfter_X0_stateAfterFirstDigit : GoodIn wsX0_stateAfter (va_wsS RX0 39 yX0_stateAfterFirstDigit wsX0_stateAfterFirstDigit) := goodIn_app (goodIn_of _ (by decide +kernel)) ggX0_stateAfter_X0_stateAfterFirstDigit
set_option maxRecDepth 20000 in
theorem ggX0_stateAfter_X0_stateAfterEvent : GoodIn wsX0_stateAfter wsX0_stateAfterEvent := goodIn_r _ [13] (by decide +kernel) (by decide +kernel)
set_option maxRecDepth 20000 in
theorem gX0_stateAfter_X0_stateAfterEvent : GoodIn wsX0_stateAfter (va_wsS RX0 42 yX0_stateAfterEvent wsX0_stateAfterEvent) := goodIn_app (goodIn_of _ (by decide +kernel)) ggX0_stateAfter_X0_stateAfterEvent
theorem dX0_stateAfter_0 : decode cX0_stateAfter 0 = .ok (.iload_n 0, 1) := by decide +kernel
theorem dX0_stateAfter_1 : decode cX0_stateAfter 1 = .ok (.tableswitch 155 0 7 #[47, 52, 70, 89, 108, 113, 134, 150], 47) := by decide +kernel
theorem dX0_stateAfter_48 : decode cX0_stateAfter 48 = .ok (.iload_n 1, 1) := by decide +kernel
theorem dX0_stateAfter_49 : decode cX0_stateAfter 49 = .ok (.invokestatic 31, 3) := by decide +kernel
theorem dX0_stateAfter_52 : decode cX0_stateAfter 52 = .ok (.ireturn, 1) := by decide +kernel
theorem dX0_stateAfter_53 : decode cX0_stateAfter 53 = .ok (.iload_n 1, 1) := by decide +kernel
theorem dX0_stateAfter_54 : decode cX0_stateAfter 54 = .ok (.bipush 48, 2) := by decide +kernel
theorem dX0_stateAfter_56 : decode cX0_stateAfter 56 = .ok (.bipush 55, 2) := by decide +kernel
theorem dX0_stateAfter_58 : decode cX0_stateAfter 58 = .ok (.invokestatic 35, 3) := by decide +kernel
theorem dX0_stateAfter_61 : decode cX0_stateAfter 61 = .ok (.ifCond .eq 7, 3) := by decide +kernel
theorem dX0_stateAfter_64 : decode cX0_stateAfter 64 = .ok (.iconst 3, 1) := by decide +kernel
theorem dX0_stateAfter_65 : decode cX0_stateAfter 65 = .ok (.goto 5, 3) := by decide +kernel
theorem dX0_stateAfter_68 : decode cX0_stateAfter 68 = .ok (.bipush 8, 2) := by decide +kernel
theorem dX0_stateAfter_70 : decode cX0_stateAfter 70 = .ok (.ireturn, 1) := by decide +kernel
theorem dX0_stateAfter_71 : decode cX0_stateAfter 71 = .ok (.iload_n 1, 1) := by decide +kernel
theorem dX0_stateAfter_72 : decode cX0_stateAfter 72 = .ok (.bipush 48, 2) := by decide +kernel
theorem dX0_stateAfter_74 : decode cX0_stateAfter 74 = .ok (.bipush 55, 2) := by decide +kernel
theorem dX0_stateAfter_76 : decode cX0_stateAfter 76 = .ok (.invokestatic 35, 3) := by decide +kernel
theorem dX0_stateAfter_79 : decode cX0_stateAfter 79 = .ok (.ifCond .eq 8, 3) := by decide +kernel
theorem dX0_stateAfter_82 : decode cX0_stateAfter 82 = .ok (.bipush 7, 2) := by decide +kernel
theorem dX0_stateAfter_84 : decode cX0_stateAfter 84 = .ok (.goto 5, 3) := by decide +kernel
theorem dX0_stateAfter_87 : decode cX0_stateAfter 87 = .ok (.bipush 8, 2) := by decide +kernel
theorem dX0_stateAfter_89 : decode cX0_stateAfter 89 = .ok (.ireturn, 1) := by decide +kernel
theorem dX0_stateAfter_90 : decode cX0_stateAfter 90 = .ok (.iload_n 1, 1) := by decide +kernel
theorem dX0_stateAfter_91 : decode cX0_stateAfter 91 = .ok (.bipush 48, 2) := by decide +kernel
theorem dX0_stateAfter_93 : decode cX0_stateAfter 93 = .ok (.bipush 53, 2) := by decide +kernel
theorem dX0_stateAfter_95 : decode cX0_stateAfter 95 = .ok (.invokestatic 35, 3) := by decide +kernel
theorem dX0_stateAfter_98 : decode cX0_stateAfter 98 = .ok (.ifCond .eq 8, 3) := by decide +kernel
theorem dX0_stateAfter_101 : decode cX0_stateAfter 101 = .ok (.bipush 7, 2) := by decide +kernel
theorem dX0_stateAfter_103 : decode cX0_stateAfter 103 = .ok (.goto 5, 3) := by decide +kernel
theorem dX0_stateAfter_106 : decode cX0_stateAfter 106 = .ok (.bipush 8, 2) := by decide +kernel
theorem dX0_stateAfter_108 : decode cX0_stateAfter 108 = .ok (.ireturn, 1) := by decide +kernel
theorem dX0_stateAfter_109 : decode cX0_stateAfter 109 = .ok (.iload_n 1, 1) := by decide +kernel
theorem dX0_stateAfter_110 : decode cX0_stateAfter 110 = .ok (.invokestatic 39, 3) := by decide +kernel
theorem dX0_stateAfter_113 : decode cX0_stateAfter 113 = .ok (.ireturn, 1) := by decide +kernel
theorem dX0_stateAfter_114 : decode cX0_stateAfter 114 = .ok (.iload_n 1, 1) := by decide +kernel
theorem dX0_stateAfter_115 : decode cX0_stateAfter 115 = .ok (.bipush 48, 2) := by decide +kernel
theorem dX0_stateAfter_117 : decode cX0_stateAfter 117 = .ok (.bipush 57, 2) := by decide +kernel
theorem dX0_stateAfter_119 : decode cX0_stateAfter 119 = .ok (.invokestatic 35, 3) := by decide +kernel
theorem dX0_stateAfter_122 : decode cX0_stateAfter 122 = .ok (.ifCond .eq 8, 3) := by decide +kernel
theorem dX0_stateAfter_125 : decode cX0_stateAfter 125 = .ok (.bipush 7, 2) := by decide +kernel
theorem dX0_stateAfter_127 : decode cX0_stateAfter 127 = .ok (.goto 7, 3) := by decide +kernel
theorem dX0_stateAfter_130 : decode cX0_stateAfter 130 = .ok (.iload_n 1, 1) := by decide +kernel
theorem dX0_stateAfter_131 : decode cX0_stateAfter 131 = .ok (.invokestatic 42, 3) := by decide +kernel
theorem dX0_stateAfter_134 : decode cX0_stateAfter 134 = .ok (.ireturn, 1) := by decide +kernel
theorem dX0_stateAfter_135 : decode cX0_stateAfter 135 = .ok (.iload_n 1, 1) := by decide +kernel
theorem dX0_stateAfter_136 : decode cX0_stateAfter 136 = .ok (.bipush 48, 2) := by decide +kernel
theorem dX0_stateAfter_138 : decode cX0_stateAfter 138 = .ok (.if_icmp .ne 8, 3) := by decide +kernel
theorem dX0_stateAfter_141 : decode cX0_stateAfter 141 = .ok (.bipush 7, 2) := by decide +kernel
theorem dX0_stateAfter_143 : decode cX0_stateAfter 143 = .ok (.goto 7, 3) := by decide +kernel
theorem dX0_stateAfter_146 : decode cX0_stateAfter 146 = .ok (.iload_n 1, 1) := by decide +kernel
theorem dX0_stateAfter_147 : decode cX0_stateAfter 147 = .ok (.invokestatic 42, 3) := by decide +kernel
theorem dX0_stateAfter_150 : decode cX0_stateAfter 150 = .ok (.ireturn, 1) := by decide +kernel
theorem dX0_stateAfter_151 : decode cX0_stateAfter 151 = .ok (.iload_n 1, 1) := by decide +kernel
theorem dX0_stateAfter_152 : decode cX0_stateAfter 152 = .ok (.invokestatic 42, 3) := by decide +kernel
theorem dX0_stateAfter_155 : decode cX0_stateAfter 155 = .ok (.ireturn, 1) := by decide +kernel
theorem dX0_stateAfter_156 : decode cX0_stateAfter 156 = .ok (.bipush 8, 2) := by decide +kernel
theorem dX0_stateAfter_158 : decode cX0_stateAfter 158 = .ok (.ireturn, 1) := by decide +kernel
theorem dX0_stateAfterLetter_0 : decode cX0_stateAfterLetter 0 = .ok (.iload_n 0, 1) := by decide +kernel
theorem dX0_stateAfterLetter_1 : decode cX0_stateAfterLetter 1 = .ok (.tableswitch 95 99 116 #[87, 95, 95, 95, 95, 95, 95, 95, 95, 87, 95, 95, 93, 89, 95, 95, 87, 91], 87) := by decide +kernel
theorem dX0_stateAfterLetter_88 : decode cX0_stateAfterLetter 88 = .ok (.iconst 1, 1) := by decide +kernel
theorem dX0_stateAfterLetter_89 : decode cX0_stateAfterLetter 89 = .ok (.ireturn, 1) := by decide +kernel
theorem dX0_stateAfterLetter_90 : decode cX0_stateAfterLetter 90 = .ok (.iconst 3, 1) := by decide +kernel
theorem dX0_stateAfterLetter_91 : decode cX0_stateAfterLetter 91 = .ok (.ireturn, 1) := by decide +kernel
theorem dX0_stateAfterLetter_92 : decode cX0_stateAfterLetter 92 = .ok (.iconst 4, 1) := by decide +kernel
theorem dX0_stateAfterLetter_93 : decode cX0_stateAfterLetter 93 = .ok (.ireturn, 1) := by decide +kernel
theorem dX0_stateAfterLetter_94 : decode cX0_stateAfterLetter 94 = .ok (.iconst 2, 1) := by decide +kernel
theorem dX0_stateAfterLetter_95 : decode cX0_stateAfterLetter 95 = .ok (.ireturn, 1) := by decide +kernel
theorem dX0_stateAfterLetter_96 : decode cX0_stateAfterLetter 96 = .ok (.bipush 8, 2) := by decide +kernel
theorem dX0_stateAfterLetter_98 : decode cX0_stateAfterLetter 98 = .ok (.ireturn, 1) := by decide +kernel
set_option maxRecDepth 20000 in
theorem ggX0_stateAfterFirstDigit_X0_isBetween : GoodIn wsX0_stateAfterFirstDigit wsX0_isBetween := goodIn_r _ [4] (by decide +kernel) (by decide +kernel)
set_option maxRecDepth 20000 in
theorem gX0_stateAfterFirstDigit_X0_isBetween : GoodIn wsX0_stateAfterFirstDigit (va_wsS RX0 35 yX0_isBetween wsX0_isBetween) := goodIn_app (goodIn_of _ (by decide +kernel)) ggX0_stateAfterFirstDigit_X0_isBetween
theorem dX0_stateAfterFirstDigit_0 : decode cX0_stateAfterFirstDigit 0 = .ok (.iload_n 0, 1) := by decide +kernel
theorem dX0_stateAfterFirstDigit_1 : decode cX0_stateAfterFirstDigit 1 = .ok (.bipush 49, 2) := by decide +kernel
theorem dX0_stateAfterFirstDigit_3 : decode cX0_stateAfterFirstDigit 3 = .ok (.bipush 53, 2) := by decide +kernel
theorem dX0_stateAfterFirstDigit_5 : decode cX0_stateAfterFirstDigit 5 = .ok (.invokestatic 35, 3) := by decide +kernel
theorem dX0_stateAfterFirstDigit_8 : decode cX0_stateAfterFirstDigit 8 = .ok (.ifCond .eq 5, 3) := by decide +kernel
theorem dX0_stateAfterFirstDigit_11 : decode cX0_stateAfterFirstDigit 11 = .ok (.iconst 5, 1) := by decide +kernel
theorem dX0_stateAfterFirstDigit_12 : decode cX0_stateAfterFirstDigit 12 = .ok (.ireturn, 1) := by decide +kernel
theorem dX0_stateAfterFirstDigit_13 : decode cX0_stateAfterFirstDigit 13 = .ok (.iload_n 0, 1) := by decide +kernel
theorem dX0_stateAfterFirstDigit_14 : decode cX0_stateAfterFirstDigit 14 = .ok (.bipush 54, 2) := by decide +kernel
theorem dX0_stateAfterFirstDigit_16 : decode cX0_stateAfterFirstDigit 16 = .ok (.if_icmp .ne 6, 3) := by decide +kernel
theorem dX0_stateAfterFirstDigit_19 : decode cX0_stateAfterFirstDigit 19 = .ok (.bipush 6, 2) := by decide +kernel
theorem dX0_stateAfterFirstDigit_21 : decode cX0_stateAfterFirstDigit 21 = .ok (.ireturn, 1) := by decide +kernel
theorem dX0_stateAfterFirstDigit_22 : decode cX0_stateAfterFirstDigit 22 = .ok (.iload_n 0, 1) := by decide +kernel
theorem dX0_stateAfterFirstDigit_23 : decode cX0_stateAfterFirstDigit 23 = .ok (.bipush 55, 2) := by decide +kernel
theorem dX0_stateAfterFirstDigit_25 : decode cX0_stateAfterFirstDigit 25 = .ok (.bipush 57, 2) := by decide +kernel
theorem dX0_stateAfterFirstDigit_27 : decode cX0_stateAfterFirstDigit 27 = .ok (.invokestatic 35, 3) := by decide +kernel
theorem dX0_stateAfterFirstDigit_30 : decode cX0_stateAfterFirstDigit 30 = .ok (.ifCond .eq 8, 3) := by decide +kernel
theorem dX0_stateAfterFirstDigit_33 : decode cX0_stateAfterFirstDigit 33 = .ok (.bipush 7, 2) := by decide +kernel
theorem dX0_stateAfterFirstDigit_35 : decode cX0_stateAfterFirstDigit 35 = .ok (.goto 5, 3) := by decide +kernel
theorem dX0_stateAfterFirstDigit_38 : decode cX0_stateAfterFirstDigit 38 = .ok (.bipush 8, 2) := by decide +kernel
theorem dX0_stateAfterFirstDigit_40 : decode cX0_stateAfterFirstDigit 40 = .ok (.ireturn, 1) := by decide +kernel
theorem dX0_stateAfterEvent_0 : decode cX0_stateAfterEvent 0 = .ok (.iload_n 0, 1) := by decide +kernel
theorem dX0_stateAfterEvent_1 : decode cX0_stateAfterEvent 1 = .ok (.bipush 59, 2) := by decide +kernel
theorem dX0_stateAfterEvent_3 : decode cX0_stateAfterEvent 3 = .ok (.if_icmp .ne 7, 3) := by decide +kernel
theorem dX0_stateAfterEvent_6 : decode cX0_stateAfterEvent 6 = .ok (.iconst 0, 1) := by decide +kernel
theorem dX0_stateAfterEvent_7 : decode cX0_stateAfterEvent 7 = .ok (.goto 5, 3) := by decide +kernel
theorem dX0_stateAfterEvent_10 : decode cX0_stateAfterEvent 10 = .ok (.bipush 8, 2) := by decide +kernel
theorem dX0_stateAfterEvent_12 : decode cX0_stateAfterEvent 12 = .ok (.ireturn, 1) := by decide +kernel
theorem dX0_isBetween_0 : decode cX0_isBetween 0 = .ok (.iload_n 0, 1) := by decide +kernel
theorem dX0_isBetween_1 : decode cX0_isBetween 1 = .ok (.iload_n 1, 1) := by decide +kernel
theorem dX0_isBetween_2 : decode cX0_isBetween 2 = .ok (.if_icmp .lt 12, 3) := by decide +kernel
theorem dX0_isBetween_5 : decode cX0_isBetween 5 = .ok (.iload_n 0, 1) := by decide +kernel
theorem dX0_isBetween_6 : decode cX0_isBetween 6 = .ok (.iload_n 2, 1) := by decide +kernel
theorem dX0_isBetween_7 : decode cX0_isBetween 7 = .ok (.if_icmp .gt 7, 3) := by decide +kernel
theorem dX0_isBetween_10 : decode cX0_isBetween 10 = .ok (.iconst 1, 1) := by decide +kernel
theorem dX0_isBetween_11 : decode cX0_isBetween 11 = .ok (.goto 4, 3) := by decide +kernel
theorem dX0_isBetween_14 : decode cX0_isBetween 14 = .ok (.iconst 0, 1) := by decide +kernel
theorem dX0_isBetween_15 : decode cX0_isBetween 15 = .ok (.ireturn, 1) := by decide +kernel
theorem dX1_init_0 : decode cX1_init 0 = .ok (.aload_n 0, 1) := by decide +kernel
theorem dX1_init_1 : decode cX1_init 1 = .ok (.invokespecial 3, 3) := by decide +kernel
theorem dX1_init_4 : decode cX1_init 4 = .ok (.aload_n 0, 1) := by decide +kernel
theorem dX1_init_5 : decode cX1_init 5 = .ok (.bipush 48, 2) := by decide +kernel
theorem dX1_init_7 : decode cX1_init 7 = .ok (.newarray .int, 2) := by decide +kernel
theorem dX1_init_9 : decode cX1_init 9 = .ok (.putfield 9, 3) := by decide +kernel
theorem dX1_init_12 : decode cX1_init 12 = .ok (.aload_n 0, 1) := by decide +kernel
theorem dX1_init_13 : decode cX1_init 13 = .ok (.bipush 48, 2) := by decide +kernel
theorem dX1_init_15 : decode cX1_init 15 = .ok (.newarray .int, 2) := by decide +kernel
theorem dX1_init_17 : decode cX1_init 17 = .ok (.putfield 15, 3) := by decide +kernel
theorem dX1_init_20 : decode cX1_init 20 = .ok (.aload_n 0, 1) := by decide +kernel
theorem dX1_init_21 : decode cX1_init 21 = .ok (.bipush 6, 2) := by decide +kernel
theorem dX1_init_23 : decode cX1_init 23 = .ok (.newarray .int, 2) := by decide +kernel
theorem dX1_init_25 : decode cX1_init 25 = .ok (.putfield 18, 3) := by decide +kernel
theorem dX1_init_28 : decode cX1_init 28 = .ok (.aload_n 0, 1) := by decide +kernel
theorem dX1_init_29 : decode cX1_init 29 = .ok (.iconst 0, 1) := by decide +kernel
theorem dX1_init_30 : decode cX1_init 30 = .ok (.putfield 21, 3) := by decide +kernel
theorem dX1_init_33 : decode cX1_init 33 = .ok (.aload_n 0, 1) := by decide +kernel
theorem dX1_init_34 : decode cX1_init 34 = .ok (.iconst 0, 1) := by decide +kernel
theorem dX1_init_35 : decode cX1_init 35 = .ok (.putfield 25, 3) := by decide +kernel
theorem dX1_init_38 : decode cX1_init 38 = .ok (.aload_n 0, 1) := by decide +kernel
theorem dX1_init_39 : decode cX1_init 39 = .ok (.iconst 0, 1) := by decide +kernel
theorem dX1_init_40 : decode cX1_init 40 = .ok (.putfield 29, 3) := by decide +kernel
theorem dX1_init_43 : decode cX1_init 43 = .ok (.aload_n 0, 1) := by decide +kernel
theorem dX1_init_44 : decode cX1_init 44 = .ok (.iconst 0, 1) := by decide +kernel
theorem dX1_init_45 : decode cX1_init 45 = .ok (.putfield 32, 3) := by decide +kernel
theorem dX1_init_48 : decode cX1_init 48 = .ok (.aload_n 0, 1) := by decide +kernel
theorem dX1_init_49 : decode cX1_init 49 = .ok (.bipush 20, 2) := by decide +kernel
theorem dX1_init_51 : decode cX1_init 51 = .ok (.putfield 35, 3) := by decide +kernel
theorem dX1_init_54 : decode cX1_init 54 = .ok (.aload_n 0, 1) := by decide +kernel
theorem dX1_init_55 : decode cX1_init 55 = .ok (.iconst 3, 1) := by decide +kernel
theorem dX1_init_56 : decode cX1_init 56 = .ok (.putfield 38, 3) := by decide +kernel
theorem dX1_init_59 : decode cX1_init 59 = .ok (.aload_n 0, 1) := by decide +kernel
theorem dX1_init_60 : decode cX1_init 60 = .ok (.bipush 10, 2) := by decide +kernel
theorem dX1_init_62 : decode cX1_init 62 = .ok (.putfield 41, 3) := by decide +kernel
theorem dX1_init_65 : decode cX1_init 65 = .ok (.aload_n 0, 1) := by decide +kernel
theorem dX1_init_66 : decode cX1_init 66 = .ok (.iconst 0, 1) := by decide +kernel
theorem dX1_init_67 : decode cX1_init 67 = .ok (.putfield 44, 3) := by decide +kernel
theorem dX1_init_70 : decode cX1_init 70 = .ok (.aload_n 0, 1) := by decide +kernel
theorem dX1_init_71 : decode cX1_init 71 = .ok (.iconst 0, 1) := by decide +kernel
theorem dX1_init_72 : decode cX1_init 72 = .ok (.putfield 47, 3) := by decide +kernel
theorem dX1_init_75 : decode cX1_init 75 = .ok (.return_, 1) := by decide +kernel
theorem dX1_copyFrom_0 : decode cX1_copyFrom 0 = .ok (.aload_n 1, 1) := by decide +kernel
theorem dX1_copyFrom_1 : decode cX1_copyFrom 1 = .ok (.getfield 9, 3) := by decide +kernel
theorem dX1_copyFrom_4 : decode cX1_copyFrom 4 = .ok (.iconst 0, 1) := by decide +kernel
theorem dX1_copyFrom_5 : decode cX1_copyFrom 5 = .ok (.aload_n 0, 1) := by decide +kernel
theorem dX1_copyFrom_6 : decode cX1_copyFrom 6 = .ok (.getfield 9, 3) := by decide +kernel
theorem dX1_copyFrom_9 : decode cX1_copyFrom 9 = .ok (.iconst 0, 1) := by decide +kernel
theorem dX1_copyFrom_10 : decode cX1_copyFrom 10 = .ok (.bipush 48, 2) := by decide +kernel
theorem dX1_copyFrom_12 : decode cX1_copyFrom 12 = .ok (.invokestatic 50, 3) := by decide +kernel
theorem dX1_copyFrom_15 : decode cX1_copyFrom 15 = .ok (.aload_n 1, 1) := by decide +kernel
theorem dX1_copyFrom_16 : decode cX1_copyFrom 16 = .ok (.getfield 15, 3) := by decide +kernel
theorem dX1_copyFrom_19 : decode cX1_copyFrom 19 = .ok (.iconst 0, 1) := by decide +kernel
theorem dX1_copyFrom_20 : decode cX1_copyFrom 20 = .ok (.aload_n 0, 1) := by decide +kernel
theorem dX1_copyFrom_21 : decode cX1_copyFrom 21 = .ok (.getfield 15, 3) := by decide +kernel
theorem dX1_copyFrom_24 : decode cX1_copyFrom 24 = .ok (.iconst 0, 1) := by decide +kernel
theorem dX1_copyFrom_25 : decode cX1_copyFrom 25 = .ok (.bipush 48, 2) := by decide +kernel
theorem dX1_copyFrom_27 : decode cX1_copyFrom 27 = .ok (.invokestatic 50, 3) := by decide +kernel
theorem dX1_copyFrom_30 : decode cX1_copyFrom 30 = .ok (.aload_n 1, 1) := by decide +kernel
theorem dX1_copyFrom_31 : decode cX1_copyFrom 31 = .ok (.getfield 18, 3) := by decide +kernel
theorem dX1_copyFrom_34 : decode cX1_copyFrom 34 = .ok (.iconst 0, 1) := by decide +kernel
theorem dX1_copyFrom_35 : decode cX1_copyFrom 35 = .ok (.aload_n 0, 1) := by decide +kernel
theorem dX1_copyFrom_36 : decode cX1_copyFrom 36 = .ok (.getfield 18, 3) := by decide +kernel
theorem dX1_copyFrom_39 : decode cX1_copyFrom 39 = .ok (.iconst 0, 1) := by decide +kernel
theorem dX1_copyFrom_40 : decode cX1_copyFrom 40 = .ok (.bipush 6, 2) := by decide +kernel
theorem dX1_copyFrom_42 : decode cX1_copyFrom 42 = .ok (.invokestatic 50, 3) := by decide +kernel
theorem dX1_copyFrom_45 : decode cX1_copyFrom 45 = .ok (.aload_n 0, 1) := by decide +kernel
theorem dX1_copyFrom_46 : decode cX1_copyFrom 46 = .ok (.aload_n 1, 1) := by decide +kernel
theorem dX1_copyFrom_47 : decode cX1_copyFrom 47 = .ok (.getfield 21, 3) := by decide +kernel
theorem dX1_copyFrom_50 : decode cX1_copyFrom 50 = .ok (.putfield 21, 3) := by decide +kernel
theorem dX1_copyFrom_53 : decode cX1_copyFrom 53 = .ok (.aload_n 0, 1) := by decide +kernel
theorem dX1_copyFrom_54 : decode cX1_copyFrom 54 = .ok (.aload_n 1, 1) := by decide +kernel
theorem dX1_copyFrom_55 : decode cX1_copyFrom 55 = .ok (.getfield 25, 3) := by decide +kernel
theorem dX1_copyFrom_58 : decode cX1_copyFrom 58 = .ok (.putfield 25, 3) := by decide +kernel
theorem dX1_copyFrom_61 : decode cX1_copyFrom 61 = .ok (.aload_n 0, 1) := by decide +kernel
theorem dX1_copyFrom_62 : decode cX1_copyFrom 62 = .ok (.aload_n 1, 1) := by decide +kernel
theorem dX1_copyFrom_63 : decode cX1_copyFrom 63 = .ok (.getfield 29, 3) := by decide +kernel
theorem dX1_copyFrom_66 : decode cX1_copyFrom 66 = .ok (.putfield 29, 3) := by decide +kernel
theorem dX1_copyFrom_69 : decode cX1_copyFrom 69 = .ok (.aload_n 0, 1) := by decide +kernel
theorem dX1_copyFrom_70 : decode cX1_copyFrom 70 = .ok (.aload_n 1, 1) := by decide +kernel
theorem dX1_copyFrom_71 : decode cX1_copyFrom 71 = .ok (.getfield 32, 3) := by decide +kernel
theorem dX1_copyFrom_74 : decode cX1_copyFrom 74 = .ok (.putfield 32, 3) := by decide +kernel
theorem dX1_copyFrom_77 : decode cX1_copyFrom 77 = .ok (.aload_n 0, 1) := by decide +kernel
theorem dX1_copyFrom_78 : decode cX1_copyFrom 78 = .ok (.aload_n 1, 1) := by decide +kernel
theorem dX1_copyFrom_79 : decode cX1_copyFrom 79 = .ok (.getfield 35, 3) := by decide +kernel
theorem dX1_copyFrom_82 : decode cX1_copyFrom 82 = .ok (.putfield 35, 3) := by decide +kernel
theorem dX1_copyFrom_85 : decode cX1_copyFrom 85 = .ok (.aload_n 0, 1) := by decide +kernel
theorem dX1_copyFrom_86 : decode cX1_copyFrom 86 = .ok (.aload_n 1, 1) := by decide +kernel
theorem dX1_copyFrom_87 : decode cX1_copyFrom 87 = .ok (.getfield 38, 3) := by decide +kernel
theorem dX1_copyFrom_90 : decode cX1_copyFrom 90 = .ok (.putfield 38, 3) := by decide +kernel
theorem dX1_copyFrom_93 : decode cX1_copyFrom 93 = .ok (.aload_n 0, 1) := by decide +kernel
theorem dX1_copyFrom_94 : decode cX1_copyFrom 94 = .ok (.aload_n 1, 1) := by decide +kernel
theorem dX1_copyFrom_95 : decode cX1_copyFrom 95 = .ok (.getfield 41, 3) := by decide +kernel
theorem dX1_copyFrom_98 : decode cX1_copyFrom 98 = .ok (.putfield 41, 3) := by decide +kernel
theorem dX1_copyFrom_101 : decode cX1_copyFrom 101 = .ok (.aload_n 0, 1) := by decide +kernel
theorem dX1_copyFrom_102 : decode cX1_copyFrom 102 = .ok (.aload_n 1, 1) := by decide +kernel
theorem dX1_copyFrom_103 : decode cX1_copyFrom 103 = .ok (.getfield 44, 3) := by decide +kernel
theorem dX1_copyFrom_106 : decode cX1_copyFrom 106 = .ok (.putfield 44, 3) := by decide +kernel
theorem dX1_copyFrom_109 : decode cX1_copyFrom 109 = .ok (.aload_n 0, 1) := by decide +kernel
theorem dX1_copyFrom_110 : decode cX1_copyFrom 110 = .ok (.aload_n 1, 1) := by decide +kernel
theorem dX1_copyFrom_111 : decode cX1_copyFrom 111 = .ok (.getfield 47, 3) := by decide +kernel
theorem dX1_copyFrom_114 : decode cX1_copyFrom 114 = .ok (.putfield 47, 3) := by decide +kernel
theorem dX1_copyFrom_117 : decode cX1_copyFrom 117 = .ok (.return_, 1) := by decide +kernel
theorem dX1_hasRoom_0 : decode cX1_hasRoom 0 = .ok (.aload_n 0, 1) := by decide +kernel
theorem dX1_hasRoom_1 : decode cX1_hasRoom 1 = .ok (.getfield 9, 3) := by decide +kernel
theorem dX1_hasRoom_4 : decode cX1_hasRoom 4 = .ok (.iload_n 1, 1) := by decide +kernel
theorem dX1_hasRoom_5 : decode cX1_hasRoom 5 = .ok (.iaload, 1) := by decide +kernel
theorem dX1_hasRoom_6 : decode cX1_hasRoom 6 = .ok (.bipush 9, 2) := by decide +kernel
theorem dX1_hasRoom_8 : decode cX1_hasRoom 8 = .ok (.if_icmp .ge 7, 3) := by decide +kernel
theorem dX1_hasRoom_11 : decode cX1_hasRoom 11 = .ok (.iconst 1, 1) := by decide +kernel
theorem dX1_hasRoom_12 : decode cX1_hasRoom 12 = .ok (.goto 4, 3) := by decide +kernel
theorem dX1_hasRoom_15 : decode cX1_hasRoom 15 = .ok (.iconst 0, 1) := by decide +kernel
theorem dX1_hasRoom_16 : decode cX1_hasRoom 16 = .ok (.ireturn, 1) := by decide +kernel
theorem dX1_isWantedAt_0 : decode cX1_isWantedAt 0 = .ok (.aload_n 0, 1) := by decide +kernel
theorem dX1_isWantedAt_1 : decode cX1_isWantedAt 1 = .ok (.getfield 9, 3) := by decide +kernel
theorem dX1_isWantedAt_4 : decode cX1_isWantedAt 4 = .ok (.iload_n 1, 1) := by decide +kernel
theorem dX1_isWantedAt_5 : decode cX1_isWantedAt 5 = .ok (.iaload, 1) := by decide +kernel
theorem dX1_isWantedAt_6 : decode cX1_isWantedAt 6 = .ok (.ifCond .le 7, 3) := by decide +kernel
theorem dX1_isWantedAt_9 : decode cX1_isWantedAt 9 = .ok (.iconst 1, 1) := by decide +kernel
theorem dX1_isWantedAt_10 : decode cX1_isWantedAt 10 = .ok (.goto 4, 3) := by decide +kernel
theorem dX1_isWantedAt_13 : decode cX1_isWantedAt 13 = .ok (.iconst 0, 1) := by decide +kernel
theorem dX1_isWantedAt_14 : decode cX1_isWantedAt 14 = .ok (.ireturn, 1) := by decide +kernel
set_option maxRecDepth 20000 in
theorem ggX1_seat_X1_hearCall : GoodIn wsX1_seat wsX1_hearCall := goodIn_r _ [6, 7, 8, 9, 10, 11, 12, 13, 14, 15, 16, 17, 18, 19, 20, 21] (by decide +kernel) (by decide +kernel)
set_option maxRecDepth 20000 in
theorem gX1_seat_X1_hearCall : GoodIn wsX1_seat (wsV RX1 56 RX1 yX1_hearCall wsX1_hearCall) := goodIn_app (goodIn_of _ (by decide +kernel)) ggX1_seat_X1_hearCall
theorem dX1_seat_0 : decode cX1_seat 0 = .ok (.aload_n 0, 1) := by decide +kernel
theorem dX1_seat_1 : decode cX1_seat 1 = .ok (.getfield 9, 3) := by decide +kernel
theorem dX1_seat_4 : decode cX1_seat 4 = .ok (.iload_n 1, 1) := by decide +kernel
theorem dX1_seat_5 : decode cX1_seat 5 = .ok (.dup2, 1) := by decide +kernel
theorem dX1_seat_6 : decode cX1_seat 6 = .ok (.iaload, 1) := by decide +kernel
theorem dX1_seat_7 : decode cX1_seat 7 = .ok (.iconst 1, 1) := by decide +kernel
theorem dX1_seat_8 : decode cX1_seat 8 = .ok (.iadd, 1) := by decide +kernel
theorem dX1_seat_9 : decode cX1_seat 9 = .ok (.iastore, 1) := by decide +kernel
theorem dX1_seat_10 : decode cX1_seat 10 = .ok (.aload_n 0, 1) := by decide +kernel
theorem dX1_seat_11 : decode cX1_seat 11 = .ok (.iload_n 1, 1) := by decide +kernel
theorem dX1_seat_12 : decode cX1_seat 12 = .ok (.invokevirtual 56, 3) := by decide +kernel
theorem dX1_seat_15 : decode cX1_seat 15 = .ok (.return_, 1) := by decide +kernel
set_option maxRecDepth 20000 in
theorem ggX1_unseat_X1_hearFarewell : GoodIn wsX1_unseat wsX1_hearFarewell := goodIn_r _ [6, 7, 8, 9, 10, 11, 12, 5, 13, 1, 14, 15, 16, 17, 18, 19, 20, 21, 22, 23, 24, 25, 26, 27, 28, 29, 30, 31, 32, 33, 34, 35] (by decide +kernel) (by decide +kernel)
set_option maxRecDepth 20000 in
theorem gX1_unseat_X1_hearFarewell : GoodIn wsX1_unseat (wsV RX1 60 RX1 yX1_hearFarewell wsX1_hearFarewell) := goodIn_app (goodIn_of _ (by decide +kernel)) ggX1_unseat_X1_hearFarewell
theorem dX1_unseat_0 : decode cX1_unseat 0 = .ok (.aload_n 0, 1) := by decide +kernel
theorem dX1_unseat_1 : decode cX1_unseat 1 = .ok (.getfield 9, 3) := by decide +kernel
theorem dX1_unseat_4 : decode cX1_unseat 4 = .ok (.iload_n 1, 1) := by decide +kernel
theorem dX1_unseat_5 : decode cX1_unseat 5 = .ok (.dup2, 1) := by decide +kernel
theorem dX1_unseat_6 : decode cX1_unseat 6 = .ok (.iaload, 1) := by decide +kernel
theorem dX1_unseat_7 : decode cX1_unseat 7 = .ok (.iconst 1, 1) := by decide +kernel
theorem dX1_unseat_8 : decode cX1_unseat 8 = .ok (.isub, 1) := by decide +kernel
theorem dX1_unseat_9 : decode cX1_unseat 9 = .ok (.iastore, 1) := by decide +kernel
theorem dX1_unseat_10 : decode cX1_unseat 10 = .ok (.iload_n 2, 1) := by decide +kernel
theorem dX1_unseat_11 : decode cX1_unseat 11 = .ok (.ifCond .eq 8, 3) := by decide +kernel
theorem dX1_unseat_14 : decode cX1_unseat 14 = .ok (.aload_n 0, 1) := by decide +kernel
theorem dX1_unseat_15 : decode cX1_unseat 15 = .ok (.iload_n 1, 1) := by decide +kernel
theorem dX1_unseat_16 : decode cX1_unseat 16 = .ok (.invokevirtual 60, 3) := by decide +kernel
theorem dX1_unseat_19 : decode cX1_unseat 19 = .ok (.return_, 1) := by decide +kernel
theorem dX1_hearCall_0 : decode cX1_hearCall 0 = .ok (.aload_n 0, 1) := by decide +kernel
theorem dX1_hearCall_1 : decode cX1_hearCall 1 = .ok (.getfield 15, 3) := by decide +kernel
theorem dX1_hearCall_4 : decode cX1_hearCall 4 = .ok (.iload_n 1, 1) := by decide +kernel
theorem dX1_hearCall_5 : decode cX1_hearCall 5 = .ok (.aload_n 0, 1) := by decide +kernel
theorem dX1_hearCall_6 : decode cX1_hearCall 6 = .ok (.getfield 35, 3) := by decide +kernel
theorem dX1_hearCall_9 : decode cX1_hearCall 9 = .ok (.iastore, 1) := by decide +kernel
theorem dX1_hearCall_10 : decode cX1_hearCall 10 = .ok (.aload_n 0, 1) := by decide +kernel
theorem dX1_hearCall_11 : decode cX1_hearCall 11 = .ok (.getfield 18, 3) := by decide +kernel
theorem dX1_hearCall_14 : decode cX1_hearCall 14 = .ok (.iconst 5, 1) := by decide +kernel
theorem dX1_hearCall_15 : decode cX1_hearCall 15 = .ok (.dup2, 1) := by decide +kernel
theorem dX1_hearCall_16 : decode cX1_hearCall 16 = .ok (.iaload, 1) := by decide +kernel
theorem dX1_hearCall_17 : decode cX1_hearCall 17 = .ok (.iconst 1, 1) := by decide +kernel
theorem dX1_hearCall_18 : decode cX1_hearCall 18 = .ok (.iadd, 1) := by decide +kernel
theorem dX1_hearCall_19 : decode cX1_hearCall 19 = .ok (.iastore, 1) := by decide +kernel
theorem dX1_hearCall_20 : decode cX1_hearCall 20 = .ok (.return_, 1) := by decide +kernel
set_option maxRecDepth 20000 in
theorem ggX1_hearFarewell_X1_isWantedAt : GoodIn wsX1_hearFarewell wsX1_isWantedAt := goodIn_r _ [8, 9, 20, 21, 22, 23, 24, 25, 26, 27, 28, 29, 30, 31] (by decide +kernel) (by decide +kernel)
set_option maxRecDepth 20000 in
theorem gX1_hearFarewell_X1_isWantedAt : GoodIn wsX1_hearFarewell (wsV RX1 63 RX1 yX1_isWantedAt wsX1_isWantedAt) := goodIn_app (goodIn_of _ (by decide +kernel)) ggX1_hearFarewell_X1_isWantedAt
set_option maxRecDepth 20000 in
theorem ggX1_hearFarewell_X1_askRow : GoodIn wsX1_hearFarewell wsX1_askRow := goodIn_r _ [13, 14, 4, 5, 6, 7, 8, 9, 15, 16, 17, 18, 2, 19, 20, 21, 22, 23, 24, 25, 26, 27, 28, 29, 30, 31] (by decide +kernel) (by decide +kernel)
set_option maxRecDepth 20000 in
theorem gX1_hearFarewell_X1_askRow : GoodIn wsX1_hearFarewell (wsV RX1 67 RX1 yX1_askRow wsX1_askRow) := goodIn_app (goodIn_of _ (by decide +kernel)) ggX1_hearFarewell_X1_askRow
theorem dX1_hearFarewell_0 : decode cX1_hearFarewell 0 = .ok (.aload_n 0, 1) := by decide +kernel
theorem dX1_hearFarewell_1 : decode cX1_hearFarewell 1 = .ok (.getfield 25, 3) := by decide +kernel
theorem dX1_hearFarewell_4 : decode cX1_hearFarewell 4 = .ok (.ifCond .eq 21, 3) := by decide +kernel
theorem dX1_hearFarewell_7 : decode cX1_hearFarewell 7 = .ok (.aload_n 0, 1) := by decide +kernel
theorem dX1_hearFarewell_8 : decode cX1_hearFarewell 8 = .ok (.iload_n 1, 1) := by decide +kernel
theorem dX1_hearFarewell_9 : decode cX1_hearFarewell 9 = .ok (.invokevirtual 63, 3) := by decide +kernel
theorem dX1_hearFarewell_12 : decode cX1_hearFarewell 12 = .ok (.ifCond .ne 13, 3) := by decide +kernel
theorem dX1_hearFarewell_15 : decode cX1_hearFarewell 15 = .ok (.aload_n 0, 1) := by decide +kernel
theorem dX1_hearFarewell_16 : decode cX1_hearFarewell 16 = .ok (.getfield 15, 3) := by decide +kernel
theorem dX1_hearFarewell_19 : decode cX1_hearFarewell 19 = .ok (.iload_n 1, 1) := by decide +kernel
theorem dX1_hearFarewell_20 : decode cX1_hearFarewell 20 = .ok (.iconst 0, 1) := by decide +kernel
theorem dX1_hearFarewell_21 : decode cX1_hearFarewell 21 = .ok (.iastore, 1) := by decide +kernel
theorem dX1_hearFarewell_22 : decode cX1_hearFarewell 22 = .ok (.goto 31, 3) := by decide +kernel
theorem dX1_hearFarewell_25 : decode cX1_hearFarewell 25 = .ok (.aload_n 0, 1) := by decide +kernel
theorem dX1_hearFarewell_26 : decode cX1_hearFarewell 26 = .ok (.getfield 15, 3) := by decide +kernel
theorem dX1_hearFarewell_29 : decode cX1_hearFarewell 29 = .ok (.iload_n 1, 1) := by decide +kernel
theorem dX1_hearFarewell_30 : decode cX1_hearFarewell 30 = .ok (.iaload, 1) := by decide +kernel
theorem dX1_hearFarewell_31 : decode cX1_hearFarewell 31 = .ok (.aload_n 0, 1) := by decide +kernel
theorem dX1_hearFarewell_32 : decode cX1_hearFarewell 32 = .ok (.getfield 38, 3) := by decide +kernel
theorem dX1_hearFarewell_35 : decode cX1_hearFarewell 35 = .ok (.if_icmp .le 18, 3) := by decide +kernel
theorem dX1_hearFarewell_38 : decode cX1_hearFarewell 38 = .ok (.aload_n 0, 1) := by decide +kernel
theorem dX1_hearFarewell_39 : decode cX1_hearFarewell 39 = .ok (.getfield 15, 3) := by decide +kernel
theorem dX1_hearFarewell_42 : decode cX1_hearFarewell 42 = .ok (.iload_n 1, 1) := by decide +kernel
theorem dX1_hearFarewell_43 : decode cX1_hearFarewell 43 = .ok (.aload_n 0, 1) := by decide +kernel
theorem dX1_hearFarewell_44 : decode cX1_hearFarewell 44 = .ok (.getfield 38, 3) := by decide +kernel
theorem dX1_hearFarewell_47 : decode cX1_hearFarewell 47 = .ok (.iastore, 1) := by decide +kernel
theorem dX1_hearFarewell_48 : decode cX1_hearFarewell 48 = .ok (.aload_n 0, 1) := by decide +kernel
theorem dX1_hearFarewell_49 : decode cX1_hearFarewell 49 = .ok (.iload_n 1, 1) := by decide +kernel
theorem dX1_hearFarewell_50 : decode cX1_hearFarewell 50 = .ok (.invokevirtual 67, 3) := by decide +kernel
theorem dX1_hearFarewell_53 : decode cX1_hearFarewell 53 = .ok (.return_, 1) := by decide +kernel
set_option maxRecDepth 20000 in
theorem ggX1_askRow_X1_isWantedAt : GoodIn wsX1_askRow wsX1_isWantedAt := goodIn_r _ [6, 7, 14, 15, 16, 17, 18, 19, 20, 21, 22, 23, 24, 25] (by decide +kernel) (by decide +kernel)
set_option maxRecDepth 20000 in
theorem gX1_askRow_X1_isWantedAt : GoodIn wsX1_askRow (wsV RX1 63 RX1 yX1_isWantedAt wsX1_isWantedAt) := goodIn_app (goodIn_of _ (by decide +kernel)) ggX1_askRow_X1_isWantedAt
set_option maxRecDepth 20000 in
theorem ggX1_askRow_X1_hearCall : GoodIn wsX1_askRow wsX1_hearCall := goodIn_r _ [11, 12, 13, 1, 14, 15, 16, 17, 18, 19, 20, 21, 22, 23, 24, 25] (by decide +kernel) (by decide +kernel)
set_option maxRecDepth 20000 in
theorem gX1_askRow_X1_hearCall : GoodIn wsX1_askRow (wsV RX1 56 RX1 yX1_hearCall wsX1_hearCall) := goodIn_app (goodIn_of _ (by decide +kernel)) ggX1_askRow_X1_hearCall
theorem dX1_askRow_0 : decode cX1_askRow 0 = .ok (.aload_n 0, 1) := by decide +kernel
theorem dX1_askRow_1 : decode cX1_askRow 1 = .ok (.getfield 18, 3) := by decide +kernel
theorem dX1_askRow_4 : decode cX1_askRow 4 = .ok (.iconst 4, 1) := by decide +kernel
theorem dX1_askRow_5 : decode cX1_askRow 5 = .ok (.dup2, 1) := by decide +kernel
theorem dX1_askRow_6 : decode cX1_askRow 6 = .ok (.iaload, 1) := by decide +kernel
theorem dX1_askRow_7 : decode cX1_askRow 7 = .ok (.iconst 1, 1) := by decide +kernel
theorem dX1_askRow_8 : decode cX1_askRow 8 = .ok (.iadd, 1) := by decide +kernel
theorem dX1_askRow_9 : decode cX1_askRow 9 = .ok (.iastore, 1) := by decide +kernel
theorem dX1_askRow_10 : decode cX1_askRow 10 = .ok (.aload_n 0, 1) := by decide +kernel
theorem dX1_askRow_11 : decode cX1_askRow 11 = .ok (.iload_n 1, 1) := by decide +kernel
theorem dX1_askRow_12 : decode cX1_askRow 12 = .ok (.invokevirtual 63, 3) := by decide +kernel
theorem dX1_askRow_15 : decode cX1_askRow 15 = .ok (.ifCond .eq 8, 3) := by decide +kernel
theorem dX1_askRow_18 : decode cX1_askRow 18 = .ok (.aload_n 0, 1) := by decide +kernel
theorem dX1_askRow_19 : decode cX1_askRow 19 = .ok (.iload_n 1, 1) := by decide +kernel
theorem dX1_askRow_20 : decode cX1_askRow 20 = .ok (.invokevirtual 56, 3) := by decide +kernel
theorem dX1_askRow_23 : decode cX1_askRow 23 = .ok (.return_, 1) := by decide +kernel
set_option maxRecDepth 20000 in
theorem ggX1_askAllRows_X1_isWantedAt : GoodIn wsX1_askAllRows wsX1_isWantedAt := goodIn_r _ [6, 7, 14, 15, 16, 17, 18, 19, 20, 21, 22, 23, 24, 25] (by decide +kernel) (by decide +kernel)
set_option maxRecDepth 20000 in
theorem gX1_askAllRows_X1_isWantedAt : GoodIn wsX1_askAllRows (wsV RX1 63 RX1 yX1_isWantedAt wsX1_isWantedAt) := goodIn_app (goodIn_of _ (by decide +kernel)) ggX1_askAllRows_X1_isWantedAt
set_option maxRecDepth 20000 in
theorem ggX1_askAllRows_X1_hearCall : GoodIn wsX1_askAllRows wsX1_hearCall := goodIn_r _ [11, 12, 13, 1, 14, 15, 16, 17, 18, 19, 20, 21, 22, 23, 24, 25] (by decide +kernel) (by decide +kernel)
set_option maxRecDepth 20000 in
theorem gX1_askAllRows_X1_hearCall : GoodIn wsX1_askAllRows (wsV RX1 56 RX1 yX1_hearCall wsX1_hearCall) := goodIn_app (goodIn_of _ (by decide +kernel)) ggX1_askAllRows_X1_hearCall
theorem dX1_askAllRows_0 : decode cX1_askAllRows 0 = .ok (.aload_n 0, 1) := by decide +kernel
theorem dX1_askAllRows_1 : decode cX1_askAllRows 1 = .ok (.getfield 18, 3) := by decide +kernel
theorem dX1_askAllRows_4 : decode cX1_askAllRows 4 = .ok (.iconst 3, 1) := by decide +kernel
theorem dX1_askAllRows_5 : decode cX1_askAllRows 5 = .ok (.dup2, 1) := by decide +kernel
theorem dX1_askAllRows_6 : decode cX1_askAllRows 6 = .ok (.iaload, 1) := by decide +kernel
theorem dX1_askAllRows_7 : decode cX1_askAllRows 7 = .ok (.iconst 1, 1) := by decide +kernel
theorem dX1_askAllRows_8 : decode cX1_askAllRows 8 = .ok (.iadd, 1) := by decide +kernel
theorem dX1_askAllRows_9 : decode cX1_askAllRows 9 = .ok (.iastore, 1) := by decide +kernel
theorem dX1_askAllRows_10 : decode cX1_askAllRows 10 = .ok (.iconst 0, 1) := by decide +kernel
theorem dX1_askAllRows_11 : decode cX1_askAllRows 11 = .ok (.istore_n 1, 1) := by decide +kernel
theorem dX1_askAllRows_12 : decode cX1_askAllRows 12 = .ok (.iload_n 1, 1) := by decide +kernel
theorem dX1_askAllRows_13 : decode cX1_askAllRows 13 = .ok (.bipush 48, 2) := by decide +kernel
theorem dX1_askAllRows_15 : decode cX1_askAllRows 15 = .ok (.if_icmp .ge 22, 3) := by decide +kernel
theorem dX1_askAllRows_18 : decode cX1_askAllRows 18 = .ok (.aload_n 0, 1) := by decide +kernel
theorem dX1_askAllRows_19 : decode cX1_askAllRows 19 = .ok (.iload_n 1, 1) := by decide +kernel
theorem dX1_askAllRows_20 : decode cX1_askAllRows 20 = .ok (.invokevirtual 63, 3) := by decide +kernel
theorem dX1_askAllRows_23 : decode cX1_askAllRows 23 = .ok (.ifCond .eq 8, 3) := by decide +kernel
theorem dX1_askAllRows_26 : decode cX1_askAllRows 26 = .ok (.aload_n 0, 1) := by decide +kernel
theorem dX1_askAllRows_27 : decode cX1_askAllRows 27 = .ok (.iload_n 1, 1) := by decide +kernel
theorem dX1_askAllRows_28 : decode cX1_askAllRows 28 = .ok (.invokevirtual 56, 3) := by decide +kernel
theorem dX1_askAllRows_31 : decode cX1_askAllRows 31 = .ok (.iinc 1 1, 3) := by decide +kernel
theorem dX1_askAllRows_34 : decode cX1_askAllRows 34 = .ok (.goto (-22), 3) := by decide +kernel
theorem dX1_askAllRows_37 : decode cX1_askAllRows 37 = .ok (.return_, 1) := by decide +kernel
theorem dX1_isRowOpen_0 : decode cX1_isRowOpen 0 = .ok (.aload_n 0, 1) := by decide +kernel
theorem dX1_isRowOpen_1 : decode cX1_isRowOpen 1 = .ok (.getfield 21, 3) := by decide +kernel
theorem dX1_isRowOpen_4 : decode cX1_isRowOpen 4 = .ok (.iload_n 1, 1) := by decide +kernel
theorem dX1_isRowOpen_5 : decode cX1_isRowOpen 5 = .ok (.ishr, 1) := by decide +kernel
theorem dX1_isRowOpen_6 : decode cX1_isRowOpen 6 = .ok (.iconst 1, 1) := by decide +kernel
theorem dX1_isRowOpen_7 : decode cX1_isRowOpen 7 = .ok (.iand, 1) := by decide +kernel
theorem dX1_isRowOpen_8 : decode cX1_isRowOpen 8 = .ok (.iconst 1, 1) := by decide +kernel
theorem dX1_isRowOpen_9 : decode cX1_isRowOpen 9 = .ok (.if_icmp .ne 7, 3) := by decide +kernel
theorem dX1_isRowOpen_12 : decode cX1_isRowOpen 12 = .ok (.iconst 1, 1) := by decide +kernel
theorem dX1_isRowOpen_13 : decode cX1_isRowOpen 13 = .ok (.goto 4, 3) := by decide +kernel
theorem dX1_isRowOpen_16 : decode cX1_isRowOpen 16 = .ok (.iconst 0, 1) := by decide +kernel
theorem dX1_isRowOpen_17 : decode cX1_isRowOpen 17 = .ok (.ireturn, 1) := by decide +kernel
theorem dX1_turnRow_0 : decode cX1_turnRow 0 = .ok (.aload_n 0, 1) := by decide +kernel
theorem dX1_turnRow_1 : decode cX1_turnRow 1 = .ok (.dup, 1) := by decide +kernel
theorem dX1_turnRow_2 : decode cX1_turnRow 2 = .ok (.getfield 21, 3) := by decide +kernel
theorem dX1_turnRow_5 : decode cX1_turnRow 5 = .ok (.iconst 1, 1) := by decide +kernel
theorem dX1_turnRow_6 : decode cX1_turnRow 6 = .ok (.iload_n 1, 1) := by decide +kernel
theorem dX1_turnRow_7 : decode cX1_turnRow 7 = .ok (.ishl, 1) := by decide +kernel
theorem dX1_turnRow_8 : decode cX1_turnRow 8 = .ok (.ixor, 1) := by decide +kernel
theorem dX1_turnRow_9 : decode cX1_turnRow 9 = .ok (.putfield 21, 3) := by decide +kernel
theorem dX1_turnRow_12 : decode cX1_turnRow 12 = .ok (.return_, 1) := by decide +kernel
theorem dX1_chiefAsker_0 : decode cX1_chiefAsker 0 = .ok (.aload_n 0, 1) := by decide +kernel
theorem dX1_chiefAsker_1 : decode cX1_chiefAsker 1 = .ok (.getfield 32, 3) := by decide +kernel
theorem dX1_chiefAsker_4 : decode cX1_chiefAsker 4 = .ok (.ifCond .eq 5, 3) := by decide +kernel
theorem dX1_chiefAsker_7 : decode cX1_chiefAsker 7 = .ok (.iconst 2, 1) := by decide +kernel
theorem dX1_chiefAsker_8 : decode cX1_chiefAsker 8 = .ok (.ireturn, 1) := by decide +kernel
theorem dX1_chiefAsker_9 : decode cX1_chiefAsker 9 = .ok (.aload_n 0, 1) := by decide +kernel
theorem dX1_chiefAsker_10 : decode cX1_chiefAsker 10 = .ok (.getfield 29, 3) := by decide +kernel
theorem dX1_chiefAsker_13 : decode cX1_chiefAsker 13 = .ok (.ifCond .eq 7, 3) := by decide +kernel
theorem dX1_chiefAsker_16 : decode cX1_chiefAsker 16 = .ok (.iconst 1, 1) := by decide +kernel
theorem dX1_chiefAsker_17 : decode cX1_chiefAsker 17 = .ok (.goto 4, 3) := by decide +kernel
theorem dX1_chiefAsker_20 : decode cX1_chiefAsker 20 = .ok (.iconst 0, 1) := by decide +kernel
theorem dX1_chiefAsker_21 : decode cX1_chiefAsker 21 = .ok (.ireturn, 1) := by decide +kernel
theorem dX1_entriesInAll_0 : decode cX1_entriesInAll 0 = .ok (.iconst 0, 1) := by decide +kernel
theorem dX1_entriesInAll_1 : decode cX1_entriesInAll 1 = .ok (.istore_n 1, 1) := by decide +kernel
theorem dX1_entriesInAll_2 : decode cX1_entriesInAll 2 = .ok (.iconst 0, 1) := by decide +kernel
theorem dX1_entriesInAll_3 : decode cX1_entriesInAll 3 = .ok (.istore_n 2, 1) := by decide +kernel
theorem dX1_entriesInAll_4 : decode cX1_entriesInAll 4 = .ok (.iload_n 2, 1) := by decide +kernel
theorem dX1_entriesInAll_5 : decode cX1_entriesInAll 5 = .ok (.bipush 48, 2) := by decide +kernel
theorem dX1_entriesInAll_7 : decode cX1_entriesInAll 7 = .ok (.if_icmp .ge 21, 3) := by decide +kernel
theorem dX1_entriesInAll_10 : decode cX1_entriesInAll 10 = .ok (.aload_n 0, 1) := by decide +kernel
theorem dX1_entriesInAll_11 : decode cX1_entriesInAll 11 = .ok (.getfield 15, 3) := by decide +kernel
theorem dX1_entriesInAll_14 : decode cX1_entriesInAll 14 = .ok (.iload_n 2, 1) := by decide +kernel
theorem dX1_entriesInAll_15 : decode cX1_entriesInAll 15 = .ok (.iaload, 1) := by decide +kernel
theorem dX1_entriesInAll_16 : decode cX1_entriesInAll 16 = .ok (.ifCond .le 6, 3) := by decide +kernel
theorem dX1_entriesInAll_19 : decode cX1_entriesInAll 19 = .ok (.iinc 1 1, 3) := by decide +kernel
theorem dX1_entriesInAll_22 : decode cX1_entriesInAll 22 = .ok (.iinc 2 1, 3) := by decide +kernel
theorem dX1_entriesInAll_25 : decode cX1_entriesInAll 25 = .ok (.goto (-21), 3) := by decide +kernel
theorem dX1_entriesInAll_28 : decode cX1_entriesInAll 28 = .ok (.iload_n 1, 1) := by decide +kernel
theorem dX1_entriesInAll_29 : decode cX1_entriesInAll 29 = .ok (.ireturn, 1) := by decide +kernel
set_option maxRecDepth 20000 in
theorem ggX1_rowsThatGet_X3_placeOf : GoodIn wsX1_rowsThatGet wsX3_placeOf := goodIn_r _ [5] (by decide +kernel) (by decide +kernel)
set_option maxRecDepth 20000 in
theorem gX1_rowsThatGet_X3_placeOf_n70 : GoodIn wsX1_rowsThatGet (wsX3_placeOf) := ggX1_rowsThatGet_X3_placeOf
theorem dX1_rowsThatGet_0 : decode cX1_rowsThatGet 0 = .ok (.aload_n 0, 1) := by decide +kernel
theorem dX1_rowsThatGet_1 : decode cX1_rowsThatGet 1 = .ok (.getfield 21, 3) := by decide +kernel
theorem dX1_rowsThatGet_4 : decode cX1_rowsThatGet 4 = .ok (.istore_n 2, 1) := by decide +kernel
theorem dX1_rowsThatGet_5 : decode cX1_rowsThatGet 5 = .ok (.iconst 0, 1) := by decide +kernel
theorem dX1_rowsThatGet_6 : decode cX1_rowsThatGet 6 = .ok (.istore_n 3, 1) := by decide +kernel
theorem dX1_rowsThatGet_7 : decode cX1_rowsThatGet 7 = .ok (.iload_n 3, 1) := by decide +kernel
theorem dX1_rowsThatGet_8 : decode cX1_rowsThatGet 8 = .ok (.bipush 8, 2) := by decide +kernel
theorem dX1_rowsThatGet_10 : decode cX1_rowsThatGet 10 = .ok (.if_icmp .ge 28, 3) := by decide +kernel
theorem dX1_rowsThatGet_13 : decode cX1_rowsThatGet 13 = .ok (.aload_n 0, 1) := by decide +kernel
theorem dX1_rowsThatGet_14 : decode cX1_rowsThatGet 14 = .ok (.getfield 15, 3) := by decide +kernel
theorem dX1_rowsThatGet_17 : decode cX1_rowsThatGet 17 = .ok (.iload_n 3, 1) := by decide +kernel
theorem dX1_rowsThatGet_18 : decode cX1_rowsThatGet 18 = .ok (.iload_n 1, 1) := by decide +kernel
theorem dX1_rowsThatGet_19 : decode cX1_rowsThatGet 19 = .ok (.invokestatic 70, 3) := by decide +kernel
theorem dX1_rowsThatGet_22 : decode cX1_rowsThatGet 22 = .ok (.iaload, 1) := by decide +kernel
theorem dX1_rowsThatGet_23 : decode cX1_rowsThatGet 23 = .ok (.ifCond .le 9, 3) := by decide +kernel
theorem dX1_rowsThatGet_26 : decode cX1_rowsThatGet 26 = .ok (.iload_n 2, 1) := by decide +kernel
theorem dX1_rowsThatGet_27 : decode cX1_rowsThatGet 27 = .ok (.iconst 1, 1) := by decide +kernel
theorem dX1_rowsThatGet_28 : decode cX1_rowsThatGet 28 = .ok (.iload_n 3, 1) := by decide +kernel
theorem dX1_rowsThatGet_29 : decode cX1_rowsThatGet 29 = .ok (.ishl, 1) := by decide +kernel
theorem dX1_rowsThatGet_30 : decode cX1_rowsThatGet 30 = .ok (.ior, 1) := by decide +kernel
theorem dX1_rowsThatGet_31 : decode cX1_rowsThatGet 31 = .ok (.istore_n 2, 1) := by decide +kernel
theorem dX1_rowsThatGet_32 : decode cX1_rowsThatGet 32 = .ok (.iinc 3 1, 3) := by decide +kernel
theorem dX1_rowsThatGet_35 : decode cX1_rowsThatGet 35 = .ok (.goto (-28), 3) := by decide +kernel
theorem dX1_rowsThatGet_38 : decode cX1_rowsThatGet 38 = .ok (.iload_n 2, 1) := by decide +kernel
theorem dX1_rowsThatGet_39 : decode cX1_rowsThatGet 39 = .ok (.ireturn, 1) := by decide +kernel
set_option maxRecDepth 20000 in
theorem ggX1_rowsThatWant_X3_placeOf : GoodIn wsX1_rowsThatWant wsX3_placeOf := goodIn_r _ [3] (by decide +kernel) (by decide +kernel)
set_option maxRecDepth 20000 in
theorem gX1_rowsThatWant_X3_placeOf_n70 : GoodIn wsX1_rowsThatWant (wsX3_placeOf) := ggX1_rowsThatWant_X3_placeOf
set_option maxRecDepth 20000 in
theorem ggX1_rowsThatWant_X1_isWantedAt : GoodIn wsX1_rowsThatWant wsX1_isWantedAt := goodIn_r _ [8, 9, 10, 11, 12, 13, 14, 15, 16, 17, 18, 19, 20, 21] (by decide +kernel) (by decide +kernel)
set_option maxRecDepth 20000 in
theorem gX1_rowsThatWant_X1_isWantedAt : GoodIn wsX1_rowsThatWant (wsV RX1 63 RX1 yX1_isWantedAt wsX1_isWantedAt) := goodIn_app (goodIn_of _ (by decide +kernel)) ggX1_rowsThatWant_X1_isWantedAt
theorem dX1_rowsThatWant_0 : decode cX1_rowsThatWant 0 = .ok (.iconst 0, 1) := by decide +kernel
theorem dX1_rowsThatWant_1 : decode cX1_rowsThatWant 1 = .ok (.istore_n 2, 1) := by decide +kernel
theorem dX1_rowsThatWant_2 : decode cX1_rowsThatWant 2 = .ok (.iconst 0, 1) := by decide +kernel
theorem dX1_rowsThatWant_3 : decode cX1_rowsThatWant 3 = .ok (.istore_n 3, 1) := by decide +kernel
theorem dX1_rowsThatWant_4 : decode cX1_rowsThatWant 4 = .ok (.iload_n 3, 1) := by decide +kernel
theorem dX1_rowsThatWant_5 : decode cX1_rowsThatWant 5 = .ok (.bipush 8, 2) := by decide +kernel
theorem dX1_rowsThatWant_7 : decode cX1_rowsThatWant 7 = .ok (.if_icmp .ge 27, 3) := by decide +kernel
theorem dX1_rowsThatWant_10 : decode cX1_rowsThatWant 10 = .ok (.aload_n 0, 1) := by decide +kernel
theorem dX1_rowsThatWant_11 : decode cX1_rowsThatWant 11 = .ok (.iload_n 3, 1) := by decide +kernel
theorem dX1_rowsThatWant_12 : decode cX1_rowsThatWant 12 = .ok (.iload_n 1, 1) := by decide +kernel
theorem dX1_rowsThatWant_13 : decode cX1_rowsThatWant 13 = .ok (.invokestatic 70, 3) := by decide +kernel
theorem dX1_rowsThatWant_16 : decode cX1_rowsThatWant 16 = .ok (.invokevirtual 63, 3) := by decide +kernel
theorem dX1_rowsThatWant_19 : decode cX1_rowsThatWant 19 = .ok (.ifCond .eq 9, 3) := by decide +kernel
theorem dX1_rowsThatWant_22 : decode cX1_rowsThatWant 22 = .ok (.iload_n 2, 1) := by decide +kernel
theorem dX1_rowsThatWant_23 : decode cX1_rowsThatWant 23 = .ok (.iconst 1, 1) := by decide +kernel
theorem dX1_rowsThatWant_24 : decode cX1_rowsThatWant 24 = .ok (.iload_n 3, 1) := by decide +kernel
theorem dX1_rowsThatWant_25 : decode cX1_rowsThatWant 25 = .ok (.ishl, 1) := by decide +kernel
theorem dX1_rowsThatWant_26 : decode cX1_rowsThatWant 26 = .ok (.ior, 1) := by decide +kernel
theorem dX1_rowsThatWant_27 : decode cX1_rowsThatWant 27 = .ok (.istore_n 2, 1) := by decide +kernel
theorem dX1_rowsThatWant_28 : decode cX1_rowsThatWant 28 = .ok (.iinc 3 1, 3) := by decide +kernel
theorem dX1_rowsThatWant_31 : decode cX1_rowsThatWant 31 = .ok (.goto (-27), 3) := by decide +kernel
theorem dX1_rowsThatWant_34 : decode cX1_rowsThatWant 34 = .ok (.iload_n 2, 1) := by decide +kernel
theorem dX1_rowsThatWant_35 : decode cX1_rowsThatWant 35 = .ok (.ireturn, 1) := by decide +kernel
set_option maxRecDepth 20000 in
theorem ggX1_letPass_X1_fadeEntries : GoodIn wsX1_letPass wsX1_fadeEntries := goodIn_r _ [7, 8, 35, 36, 37, 38, 39, 40, 41, 42, 43, 44, 45, 46] (by decide +kernel) (by decide +kernel)
set_option maxRecDepth 20000 in
theorem gX1_letPass_X1_fadeEntries : GoodIn wsX1_letPass (wsV RX1 74 RX1 yX1_fadeEntries wsX1_fadeEntries) := goodIn_app (goodIn_of _ (by decide +kernel)) ggX1_letPass_X1_fadeEntries
set_option maxRecDepth 20000 in
theorem ggX1_letPass_X1_timeBetweenQuestions : GoodIn wsX1_letPass wsX1_timeBetweenQuestions := goodIn_r _ [12, 13, 14, 15, 16, 6, 17, 18, 19, 35, 36, 37, 38, 39, 40, 41, 42, 43, 44, 45, 46] (by decide +kernel) (by decide +kernel)
set_option maxRecDepth 20000 in
theorem gX1_letPass_X1_timeBetweenQuestions : GoodIn wsX1_letPass (wsV RX1 77 RX1 yX1_timeBetweenQuestions wsX1_timeBetweenQuestions) := goodIn_app (goodIn_of _ (by decide +kernel)) ggX1_letPass_X1_timeBetweenQuestions
set_option maxRecDepth 20000 in
theorem ggX1_letPass_X1_askAllRows : GoodIn wsX1_letPass wsX1_askAllRows := goodIn_r _ [23, 24, 25, 26, 27, 6, 28, 29, 30, 31, 32, 33, 8, 34, 35, 36, 37, 38, 39, 40, 41, 42, 43, 44, 45, 46] (by decide +kernel) (by decide +kernel)
set_option maxRecDepth 20000 in
theorem gX1_letPass_X1_askAllRows : GoodIn wsX1_letPass (wsV RX1 81 RX1 yX1_askAllRows wsX1_askAllRows) := goodIn_app (goodIn_of _ (by decide +kernel)) ggX1_letPass_X1_askAllRows
theorem dX1_letPass_0 : decode cX1_letPass 0 = .ok (.iconst 0, 1) := by decide +kernel
theorem dX1_letPass_1 : decode cX1_letPass 1 = .ok (.istore_n 2, 1) := by decide +kernel
theorem dX1_letPass_2 : decode cX1_letPass 2 = .ok (.iconst 0, 1) := by decide +kernel
theorem dX1_letPass_3 : decode cX1_letPass 3 = .ok (.istore_n 3, 1) := by decide +kernel
theorem dX1_letPass_4 : decode cX1_letPass 4 = .ok (.iload_n 3, 1) := by decide +kernel
theorem dX1_letPass_5 : decode cX1_letPass 5 = .ok (.iload_n 1, 1) := by decide +kernel
theorem dX1_letPass_6 : decode cX1_letPass 6 = .ok (.if_icmp .ge 56, 3) := by decide +kernel
theorem dX1_letPass_9 : decode cX1_letPass 9 = .ok (.aload_n 0, 1) := by decide +kernel
theorem dX1_letPass_10 : decode cX1_letPass 10 = .ok (.dup, 1) := by decide +kernel
theorem dX1_letPass_11 : decode cX1_letPass 11 = .ok (.getfield 44, 3) := by decide +kernel
theorem dX1_letPass_14 : decode cX1_letPass 14 = .ok (.iconst 1, 1) := by decide +kernel
theorem dX1_letPass_15 : decode cX1_letPass 15 = .ok (.iadd, 1) := by decide +kernel
theorem dX1_letPass_16 : decode cX1_letPass 16 = .ok (.putfield 44, 3) := by decide +kernel
theorem dX1_letPass_19 : decode cX1_letPass 19 = .ok (.aload_n 0, 1) := by decide +kernel
theorem dX1_letPass_20 : decode cX1_letPass 20 = .ok (.invokevirtual 74, 3) := by decide +kernel
theorem dX1_letPass_23 : decode cX1_letPass 23 = .ok (.aload_n 0, 1) := by decide +kernel
theorem dX1_letPass_24 : decode cX1_letPass 24 = .ok (.dup, 1) := by decide +kernel
theorem dX1_letPass_25 : decode cX1_letPass 25 = .ok (.getfield 47, 3) := by decide +kernel
theorem dX1_letPass_28 : decode cX1_letPass 28 = .ok (.iconst 1, 1) := by decide +kernel
theorem dX1_letPass_29 : decode cX1_letPass 29 = .ok (.iadd, 1) := by decide +kernel
theorem dX1_letPass_30 : decode cX1_letPass 30 = .ok (.putfield 47, 3) := by decide +kernel
theorem dX1_letPass_33 : decode cX1_letPass 33 = .ok (.aload_n 0, 1) := by decide +kernel
theorem dX1_letPass_34 : decode cX1_letPass 34 = .ok (.getfield 47, 3) := by decide +kernel
theorem dX1_letPass_37 : decode cX1_letPass 37 = .ok (.aload_n 0, 1) := by decide +kernel
theorem dX1_letPass_38 : decode cX1_letPass 38 = .ok (.invokevirtual 77, 3) := by decide +kernel
theorem dX1_letPass_41 : decode cX1_letPass 41 = .ok (.if_icmp .lt 15, 3) := by decide +kernel
theorem dX1_letPass_44 : decode cX1_letPass 44 = .ok (.aload_n 0, 1) := by decide +kernel
theorem dX1_letPass_45 : decode cX1_letPass 45 = .ok (.iconst 0, 1) := by decide +kernel
theorem dX1_letPass_46 : decode cX1_letPass 46 = .ok (.putfield 47, 3) := by decide +kernel
theorem dX1_letPass_49 : decode cX1_letPass 49 = .ok (.aload_n 0, 1) := by decide +kernel
theorem dX1_letPass_50 : decode cX1_letPass 50 = .ok (.invokevirtual 81, 3) := by decide +kernel
theorem dX1_letPass_53 : decode cX1_letPass 53 = .ok (.iinc 2 1, 3) := by decide +kernel
theorem dX1_letPass_56 : decode cX1_letPass 56 = .ok (.iinc 3 1, 3) := by decide +kernel
theorem dX1_letPass_59 : decode cX1_letPass 59 = .ok (.goto (-55), 3) := by decide +kernel
theorem dX1_letPass_62 : decode cX1_letPass 62 = .ok (.iload_n 2, 1) := by decide +kernel
theorem dX1_letPass_63 : decode cX1_letPass 63 = .ok (.ireturn, 1) := by decide +kernel
theorem dX1_fadeEntries_0 : decode cX1_fadeEntries 0 = .ok (.iconst 0, 1) := by decide +kernel
theorem dX1_fadeEntries_1 : decode cX1_fadeEntries 1 = .ok (.istore_n 1, 1) := by decide +kernel
theorem dX1_fadeEntries_2 : decode cX1_fadeEntries 2 = .ok (.iload_n 1, 1) := by decide +kernel
theorem dX1_fadeEntries_3 : decode cX1_fadeEntries 3 = .ok (.bipush 48, 2) := by decide +kernel
theorem dX1_fadeEntries_5 : decode cX1_fadeEntries 5 = .ok (.if_icmp .ge 28, 3) := by decide +kernel
theorem dX1_fadeEntries_8 : decode cX1_fadeEntries 8 = .ok (.aload_n 0, 1) := by decide +kernel
theorem dX1_fadeEntries_9 : decode cX1_fadeEntries 9 = .ok (.getfield 15, 3) := by decide +kernel
theorem dX1_fadeEntries_12 : decode cX1_fadeEntries 12 = .ok (.iload_n 1, 1) := by decide +kernel
theorem dX1_fadeEntries_13 : decode cX1_fadeEntries 13 = .ok (.iaload, 1) := by decide +kernel
theorem dX1_fadeEntries_14 : decode cX1_fadeEntries 14 = .ok (.ifCond .le 13, 3) := by decide +kernel
theorem dX1_fadeEntries_17 : decode cX1_fadeEntries 17 = .ok (.aload_n 0, 1) := by decide +kernel
theorem dX1_fadeEntries_18 : decode cX1_fadeEntries 18 = .ok (.getfield 15, 3) := by decide +kernel
theorem dX1_fadeEntries_21 : decode cX1_fadeEntries 21 = .ok (.iload_n 1, 1) := by decide +kernel
theorem dX1_fadeEntries_22 : decode cX1_fadeEntries 22 = .ok (.dup2, 1) := by decide +kernel
theorem dX1_fadeEntries_23 : decode cX1_fadeEntries 23 = .ok (.iaload, 1) := by decide +kernel
theorem dX1_fadeEntries_24 : decode cX1_fadeEntries 24 = .ok (.iconst 1, 1) := by decide +kernel
theorem dX1_fadeEntries_25 : decode cX1_fadeEntries 25 = .ok (.isub, 1) := by decide +kernel
theorem dX1_fadeEntries_26 : decode cX1_fadeEntries 26 = .ok (.iastore, 1) := by decide +kernel
theorem dX1_fadeEntries_27 : decode cX1_fadeEntries 27 = .ok (.iinc 1 1, 3) := by decide +kernel
theorem dX1_fadeEntries_30 : decode cX1_fadeEntries 30 = .ok (.goto (-28), 3) := by decide +kernel
theorem dX1_fadeEntries_33 : decode cX1_fadeEntries 33 = .ok (.return_, 1) := by decide +kernel
set_option maxRecDepth 20000 in
theorem ggX1_timeBetweenQuestions_X1_chiefAsker : GoodIn wsX1_timeBetweenQuestions wsX1_chiefAsker := goodIn_r _ [6, 7, 8, 9, 10, 11, 12, 13, 14, 15, 16, 17, 18, 19, 20] (by decide +kernel) (by decide +kernel)
set_option maxRecDepth 20000 in
theorem gX1_timeBetweenQuestions_X1_chiefAsker : GoodIn wsX1_timeBetweenQuestions (wsV RX1 84 RX1 yX1_chiefAsker wsX1_chiefAsker) := goodIn_app (goodIn_of _ (by decide +kernel)) ggX1_timeBetweenQuestions_X1_chiefAsker
theorem dX1_timeBetweenQuestions_0 : decode cX1_timeBetweenQuestions 0 = .ok (.aload_n 0, 1) := by decide +kernel
theorem dX1_timeBetweenQuestions_1 : decode cX1_timeBetweenQuestions 1 = .ok (.invokevirtual 84, 3) := by decide +kernel
theorem dX1_timeBetweenQuestions_4 : decode cX1_timeBetweenQuestions 4 = .ok (.ifCond .ne 10, 3) := by decide +kernel
theorem dX1_timeBetweenQuestions_7 : decode cX1_timeBetweenQuestions 7 = .ok (.aload_n 0, 1) := by decide +kernel
theorem dX1_timeBetweenQuestions_8 : decode cX1_timeBetweenQuestions 8 = .ok (.getfield 41, 3) := by decide +kernel
theorem dX1_timeBetweenQuestions_11 : decode cX1_timeBetweenQuestions 11 = .ok (.goto 9, 3) := by decide +kernel
theorem dX1_timeBetweenQuestions_14 : decode cX1_timeBetweenQuestions 14 = .ok (.iconst 2, 1) := by decide +kernel
theorem dX1_timeBetweenQuestions_15 : decode cX1_timeBetweenQuestions 15 = .ok (.aload_n 0, 1) := by decide +kernel
theorem dX1_timeBetweenQuestions_16 : decode cX1_timeBetweenQuestions 16 = .ok (.getfield 41, 3) := by decide +kernel
theorem dX1_timeBetweenQuestions_19 : decode cX1_timeBetweenQuestions 19 = .ok (.imul, 1) := by decide +kernel
theorem dX1_timeBetweenQuestions_20 : decode cX1_timeBetweenQuestions 20 = .ok (.ireturn, 1) := by decide +kernel
set_option maxRecDepth 20000 in
theorem ggX1_perform_X1_rowsThatGet : GoodIn wsX1_perform wsX1_rowsThatGet := goodIn_r _ [6, 7, 8, 9, 10, 11, 28, 29, 30, 31, 32, 33, 34, 35, 36, 37, 38, 39] (by decide +kernel) (by decide +kernel)
set_option maxRecDepth 20000 in
theorem gX1_perform_X1_rowsThatGet : GoodIn wsX1_perform (wsV RX1 87 RX1 yX1_rowsThatGet wsX1_rowsThatGet) := goodIn_app (goodIn_of _ (by decide +kernel)) ggX1_perform_X1_rowsThatGet
set_option maxRecDepth 20000 in
theorem ggX1_perform_X1_rowsThatWant : GoodIn wsX1_perform wsX1_rowsThatWant := goodIn_r _ [15, 9, 10, 11, 16, 17, 18, 5, 19, 20, 28, 29, 30, 31, 32, 33, 34, 35, 36, 37, 38, 39] (by decide +kernel) (by decide +kernel)
set_option maxRecDepth 20000 in
theorem gX1_perform_X1_rowsThatWant : GoodIn wsX1_perform (wsV RX1 91 RX1 yX1_rowsThatWant wsX1_rowsThatWant) := goodIn_app (goodIn_of _ (by decide +kernel)) ggX1_perform_X1_rowsThatWant
set_option maxRecDepth 20000 in
theorem ggX1_perform_J6_bitCount_0f7a4 : GoodIn wsX1_perform wsJ6_bitCount_0f7a4 := goodIn_r _ [24, 25, 26, 27] (by decide +kernel) (by decide +kernel)
set_option maxRecDepth 20000 in
theorem gX1_perform_J6_bitCount_0f7a4 : GoodIn wsX1_perform (va_wsS RX1 94 yJ6_bitCount_0f7a4 wsJ6_bitCount_0f7a4) := goodIn_app (goodIn_of _ (by decide +kernel)) ggX1_perform_J6_bitCount_0f7a4
theorem dX1_perform_0 : decode cX1_perform 0 = .ok (.aload_n 0, 1) := by decide +kernel
theorem dX1_perform_1 : decode cX1_perform 1 = .ok (.iload_n 1, 1) := by decide +kernel
theorem dX1_perform_2 : decode cX1_perform 2 = .ok (.invokevirtual 87, 3) := by decide +kernel
theorem dX1_perform_5 : decode cX1_perform 5 = .ok (.istore_n 2, 1) := by decide +kernel
theorem dX1_perform_6 : decode cX1_perform 6 = .ok (.aload_n 0, 1) := by decide +kernel
theorem dX1_perform_7 : decode cX1_perform 7 = .ok (.iload_n 1, 1) := by decide +kernel
theorem dX1_perform_8 : decode cX1_perform 8 = .ok (.invokevirtual 91, 3) := by decide +kernel
theorem dX1_perform_11 : decode cX1_perform 11 = .ok (.istore_n 3, 1) := by decide +kernel
theorem dX1_perform_12 : decode cX1_perform 12 = .ok (.aload_n 0, 1) := by decide +kernel
theorem dX1_perform_13 : decode cX1_perform 13 = .ok (.getfield 18, 3) := by decide +kernel
theorem dX1_perform_16 : decode cX1_perform 16 = .ok (.iconst 0, 1) := by decide +kernel
theorem dX1_perform_17 : decode cX1_perform 17 = .ok (.dup2, 1) := by decide +kernel
theorem dX1_perform_18 : decode cX1_perform 18 = .ok (.iaload, 1) := by decide +kernel
theorem dX1_perform_19 : decode cX1_perform 19 = .ok (.iload_n 2, 1) := by decide +kernel
theorem dX1_perform_20 : decode cX1_perform 20 = .ok (.iload_n 3, 1) := by decide +kernel
theorem dX1_perform_21 : decode cX1_perform 21 = .ok (.iand, 1) := by decide +kernel
theorem dX1_perform_22 : decode cX1_perform 22 = .ok (.invokestatic 94, 3) := by decide +kernel
theorem dX1_perform_25 : decode cX1_perform 25 = .ok (.iadd, 1) := by decide +kernel
theorem dX1_perform_26 : decode cX1_perform 26 = .ok (.iastore, 1) := by decide +kernel
theorem dX1_perform_27 : decode cX1_perform 27 = .ok (.aload_n 0, 1) := by decide +kernel
theorem dX1_perform_28 : decode cX1_perform 28 = .ok (.getfield 18, 3) := by decide +kernel
theorem dX1_perform_31 : decode cX1_perform 31 = .ok (.iconst 1, 1) := by decide +kernel
theorem dX1_perform_32 : decode cX1_perform 32 = .ok (.dup2, 1) := by decide +kernel
theorem dX1_perform_33 : decode cX1_perform 33 = .ok (.iaload, 1) := by decide +kernel
theorem dX1_perform_34 : decode cX1_perform 34 = .ok (.iload_n 2, 1) := by decide +kernel
theorem dX1_perform_35 : decode cX1_perform 35 = .ok (.iload_n 3, 1) := by decide +kernel
theorem dX1_perform_36 : decode cX1_perform 36 = .ok (.iconst (-1), 1) := by decide +kernel
theorem dX1_perform_37 : decode cX1_perform 37 = .ok (.ixor, 1) := by decide +kernel
theorem dX1_perform_38 : decode cX1_perform 38 = .ok (.iand, 1) := by decide +kernel
theorem dX1_perform_39 : decode cX1_perform 39 = .ok (.invokestatic 94, 3) := by decide +kernel
theorem dX1_perform_42 : decode cX1_perform 42 = .ok (.iadd, 1) := by decide +kernel
theorem dX1_perform_43 : decode cX1_perform 43 = .ok (.iastore, 1) := by decide +kernel
theorem dX1_perform_44 : decode cX1_perform 44 = .ok (.aload_n 0, 1) := by decide +kernel
theorem dX1_perform_45 : decode cX1_perform 45 = .ok (.getfield 18, 3) := by decide +kernel
theorem dX1_perform_48 : decode cX1_perform 48 = .ok (.iconst 2, 1) := by decide +kernel
theorem dX1_perform_49 : decode cX1_perform 49 = .ok (.dup2, 1) := by decide +kernel
theorem dX1_perform_50 : decode cX1_perform 50 = .ok (.iaload, 1) := by decide +kernel
theorem dX1_perform_51 : decode cX1_perform 51 = .ok (.iload_n 3, 1) := by decide +kernel
theorem dX1_perform_52 : decode cX1_perform 52 = .ok (.iload_n 2, 1) := by decide +kernel
theorem dX1_perform_53 : decode cX1_perform 53 = .ok (.iconst (-1), 1) := by decide +kernel
theorem dX1_perform_54 : decode cX1_perform 54 = .ok (.ixor, 1) := by decide +kernel
theorem dX1_perform_55 : decode cX1_perform 55 = .ok (.iand, 1) := by decide +kernel
theorem dX1_perform_56 : decode cX1_perform 56 = .ok (.invokestatic 94, 3) := by decide +kernel
theorem dX1_perform_59 : decode cX1_perform 59 = .ok (.iadd, 1) := by decide +kernel
theorem dX1_perform_60 : decode cX1_perform 60 = .ok (.iastore, 1) := by decide +kernel
theorem dX1_perform_61 : decode cX1_perform 61 = .ok (.iload_n 2, 1) := by decide +kernel
theorem dX1_perform_62 : decode cX1_perform 62 = .ok (.invokestatic 94, 3) := by decide +kernel
theorem dX1_perform_65 : decode cX1_perform 65 = .ok (.ireturn, 1) := by decide +kernel
set_option maxRecDepth 20000 in
theorem ggX1_asksIn_X1_timeBetweenQuestions : GoodIn wsX1_asksIn wsX1_timeBetweenQuestions := goodIn_r _ [10, 11, 12, 13, 14, 9, 15, 16, 17, 18, 19, 20, 21, 22, 23, 24, 25, 26, 27, 28, 29] (by decide +kernel) (by decide +kernel)
set_option maxRecDepth 20000 in
theorem gX1_asksIn_X1_timeBetweenQuestions : GoodIn wsX1_asksIn (wsV RX1 77 RX1 yX1_timeBetweenQuestions wsX1_timeBetweenQuestions) := goodIn_app (goodIn_of _ (by decide +kernel)) ggX1_asksIn_X1_timeBetweenQuestions
theorem dX1_asksIn_0 : decode cX1_asksIn 0 = .ok (.iconst 1, 1) := by decide +kernel
theorem dX1_asksIn_1 : decode cX1_asksIn 1 = .ok (.aload_n 0, 1) := by decide +kernel
theorem dX1_asksIn_2 : decode cX1_asksIn 2 = .ok (.invokevirtual 77, 3) := by decide +kernel
theorem dX1_asksIn_5 : decode cX1_asksIn 5 = .ok (.aload_n 0, 1) := by decide +kernel
theorem dX1_asksIn_6 : decode cX1_asksIn 6 = .ok (.getfield 47, 3) := by decide +kernel
theorem dX1_asksIn_9 : decode cX1_asksIn 9 = .ok (.isub, 1) := by decide +kernel
theorem dX1_asksIn_10 : decode cX1_asksIn 10 = .ok (.invokestatic 99, 3) := by decide +kernel
theorem dX1_asksIn_13 : decode cX1_asksIn 13 = .ok (.ireturn, 1) := by decide +kernel
set_option maxRecDepth 20000 in
theorem ggX1_fadesIn_X1_asksIn : GoodIn wsX1_fadesIn wsX1_asksIn := goodIn_r _ [7, 8, 9, 10, 11, 12, 13, 14, 15, 6, 16, 17, 18, 19, 20, 21, 22, 23, 29, 30, 31, 32, 33, 34, 35, 36, 37, 38, 39, 40] (by decide +kernel) (by decide +kernel)
set_option maxRecDepth 20000 in
theorem gX1_fadesIn_X1_asksIn : GoodIn wsX1_fadesIn (wsV RX1 104 RX1 yX1_asksIn wsX1_asksIn) := goodIn_app (goodIn_of _ (by decide +kernel)) ggX1_fadesIn_X1_asksIn
set_option maxRecDepth 20000 in
theorem ggX1_fadesIn_X1_isWantedAt : GoodIn wsX1_fadesIn wsX1_isWantedAt := goodIn_r _ [27, 28, 29, 30, 31, 32, 33, 34, 35, 36, 37, 38, 39, 40] (by decide +kernel) (by decide +kernel)
set_option maxRecDepth 20000 in
theorem gX1_fadesIn_X1_isWantedAt : GoodIn wsX1_fadesIn (wsV RX1 63 RX1 yX1_isWantedAt wsX1_isWantedAt) := goodIn_app (goodIn_of _ (by decide +kernel)) ggX1_fadesIn_X1_isWantedAt
set_option maxRecDepth 20000 in
theorem ggX1_fadesIn_X1_timeBetweenQuestions : GoodIn wsX1_fadesIn wsX1_timeBetweenQuestions := goodIn_r _ [16, 17, 18, 19, 20, 6, 21, 22, 23, 29, 30, 31, 32, 33, 34, 35, 36, 37, 38, 39, 40] (by decide +kernel) (by decide +kernel)
set_option maxRecDepth 20000 in
theorem gX1_fadesIn_X1_timeBetweenQuestions : GoodIn wsX1_fadesIn (wsV RX1 77 RX1 yX1_timeBetweenQuestions wsX1_timeBetweenQuestions) := goodIn_app (goodIn_of _ (by decide +kernel)) ggX1_fadesIn_X1_timeBetweenQuestions
theorem dX1_fadesIn_0 : decode cX1_fadesIn 0 = .ok (.aload_n 0, 1) := by decide +kernel
theorem dX1_fadesIn_1 : decode cX1_fadesIn 1 = .ok (.invokevirtual 104, 3) := by decide +kernel
theorem dX1_fadesIn_4 : decode cX1_fadesIn 4 = .ok (.istore_n 2, 1) := by decide +kernel
theorem dX1_fadesIn_5 : decode cX1_fadesIn 5 = .ok (.aload_n 0, 1) := by decide +kernel
theorem dX1_fadesIn_6 : decode cX1_fadesIn 6 = .ok (.iload_n 1, 1) := by decide +kernel
theorem dX1_fadesIn_7 : decode cX1_fadesIn 7 = .ok (.invokevirtual 63, 3) := by decide +kernel
theorem dX1_fadesIn_10 : decode cX1_fadesIn 10 = .ok (.ifCond .eq 13, 3) := by decide +kernel
theorem dX1_fadesIn_13 : decode cX1_fadesIn 13 = .ok (.aload_n 0, 1) := by decide +kernel
theorem dX1_fadesIn_14 : decode cX1_fadesIn 14 = .ok (.getfield 15, 3) := by decide +kernel
theorem dX1_fadesIn_17 : decode cX1_fadesIn 17 = .ok (.iload_n 1, 1) := by decide +kernel
theorem dX1_fadesIn_18 : decode cX1_fadesIn 18 = .ok (.iaload, 1) := by decide +kernel
theorem dX1_fadesIn_19 : decode cX1_fadesIn 19 = .ok (.iload_n 2, 1) := by decide +kernel
theorem dX1_fadesIn_20 : decode cX1_fadesIn 20 = .ok (.if_icmp .ge 10, 3) := by decide +kernel
theorem dX1_fadesIn_23 : decode cX1_fadesIn 23 = .ok (.aload_n 0, 1) := by decide +kernel
theorem dX1_fadesIn_24 : decode cX1_fadesIn 24 = .ok (.getfield 15, 3) := by decide +kernel
theorem dX1_fadesIn_27 : decode cX1_fadesIn 27 = .ok (.iload_n 1, 1) := by decide +kernel
theorem dX1_fadesIn_28 : decode cX1_fadesIn 28 = .ok (.iaload, 1) := by decide +kernel
theorem dX1_fadesIn_29 : decode cX1_fadesIn 29 = .ok (.ireturn, 1) := by decide +kernel
theorem dX1_fadesIn_30 : decode cX1_fadesIn 30 = .ok (.aload_n 0, 1) := by decide +kernel
theorem dX1_fadesIn_31 : decode cX1_fadesIn 31 = .ok (.getfield 35, 3) := by decide +kernel
theorem dX1_fadesIn_34 : decode cX1_fadesIn 34 = .ok (.aload_n 0, 1) := by decide +kernel
theorem dX1_fadesIn_35 : decode cX1_fadesIn 35 = .ok (.invokevirtual 77, 3) := by decide +kernel
theorem dX1_fadesIn_38 : decode cX1_fadesIn 38 = .ok (.if_icmp .ge 12, 3) := by decide +kernel
theorem dX1_fadesIn_41 : decode cX1_fadesIn 41 = .ok (.iload_n 2, 1) := by decide +kernel
theorem dX1_fadesIn_42 : decode cX1_fadesIn 42 = .ok (.aload_n 0, 1) := by decide +kernel
theorem dX1_fadesIn_43 : decode cX1_fadesIn 43 = .ok (.getfield 35, 3) := by decide +kernel
theorem dX1_fadesIn_46 : decode cX1_fadesIn 46 = .ok (.iadd, 1) := by decide +kernel
theorem dX1_fadesIn_47 : decode cX1_fadesIn 47 = .ok (.goto 4, 3) := by decide +kernel
theorem dX1_fadesIn_50 : decode cX1_fadesIn 50 = .ok (.iconst (-1), 1) := by decide +kernel
theorem dX1_fadesIn_51 : decode cX1_fadesIn 51 = .ok (.ireturn, 1) := by decide +kernel
set_option maxRecDepth 20000 in
theorem ggX1_disturbedIn_X3_placeOf : GoodIn wsX1_disturbedIn wsX3_placeOf := goodIn_r _ [4] (by decide +kernel) (by decide +kernel)
set_option maxRecDepth 20000 in
theorem gX1_disturbedIn_X3_placeOf_n70 : GoodIn wsX1_disturbedIn (wsX3_placeOf) := ggX1_disturbedIn_X3_placeOf
set_option maxRecDepth 20000 in
theorem ggX1_disturbedIn_X1_isWantedAt : GoodIn wsX1_disturbedIn wsX1_isWantedAt := goodIn_r _ [9, 10, 16, 17, 18, 19, 20, 21, 22, 23, 24, 25, 26, 27] (by decide +kernel) (by decide +kernel)
set_option maxRecDepth 20000 in
theorem gX1_disturbedIn_X1_isWantedAt : GoodIn wsX1_disturbedIn (wsV RX1 63 RX1 yX1_isWantedAt wsX1_isWantedAt) := goodIn_app (goodIn_of _ (by decide +kernel)) ggX1_disturbedIn_X1_isWantedAt
set_option maxRecDepth 20000 in
theorem ggX1_disturbedIn_X1_isRowOpen : GoodIn wsX1_disturbedIn wsX1_isRowOpen := goodIn_r _ [14, 15, 16, 17, 18, 19, 20, 21, 22, 23, 24, 25, 26, 27] (by decide +kernel) (by decide +kernel)
set_option maxRecDepth 20000 in
theorem gX1_disturbedIn_X1_isRowOpen : GoodIn wsX1_disturbedIn (wsV RX1 107 RX1 yX1_isRowOpen wsX1_isRowOpen) := goodIn_app (goodIn_of _ (by decide +kernel)) ggX1_disturbedIn_X1_isRowOpen
theorem dX1_disturbedIn_0 : decode cX1_disturbedIn 0 = .ok (.iconst 0, 1) := by decide +kernel
theorem dX1_disturbedIn_1 : decode cX1_disturbedIn 1 = .ok (.istore_n 3, 1) := by decide +kernel
theorem dX1_disturbedIn_2 : decode cX1_disturbedIn 2 = .ok (.iconst 0, 1) := by decide +kernel
theorem dX1_disturbedIn_3 : decode cX1_disturbedIn 3 = .ok (.istore 4, 2) := by decide +kernel
theorem dX1_disturbedIn_5 : decode cX1_disturbedIn 5 = .ok (.iload 4, 2) := by decide +kernel
theorem dX1_disturbedIn_7 : decode cX1_disturbedIn 7 = .ok (.bipush 8, 2) := by decide +kernel
theorem dX1_disturbedIn_9 : decode cX1_disturbedIn 9 = .ok (.if_icmp .ge 49, 3) := by decide +kernel
theorem dX1_disturbedIn_12 : decode cX1_disturbedIn 12 = .ok (.iload 4, 2) := by decide +kernel
theorem dX1_disturbedIn_14 : decode cX1_disturbedIn 14 = .ok (.iload_n 1, 1) := by decide +kernel
theorem dX1_disturbedIn_15 : decode cX1_disturbedIn 15 = .ok (.invokestatic 70, 3) := by decide +kernel
theorem dX1_disturbedIn_18 : decode cX1_disturbedIn 18 = .ok (.istore 5, 2) := by decide +kernel
theorem dX1_disturbedIn_20 : decode cX1_disturbedIn 20 = .ok (.aload_n 0, 1) := by decide +kernel
theorem dX1_disturbedIn_21 : decode cX1_disturbedIn 21 = .ok (.iload 5, 2) := by decide +kernel
theorem dX1_disturbedIn_23 : decode cX1_disturbedIn 23 = .ok (.invokevirtual 63, 3) := by decide +kernel
theorem dX1_disturbedIn_26 : decode cX1_disturbedIn 26 = .ok (.ifCond .ne 26, 3) := by decide +kernel
theorem dX1_disturbedIn_29 : decode cX1_disturbedIn 29 = .ok (.aload_n 0, 1) := by decide +kernel
theorem dX1_disturbedIn_30 : decode cX1_disturbedIn 30 = .ok (.iload 4, 2) := by decide +kernel
theorem dX1_disturbedIn_32 : decode cX1_disturbedIn 32 = .ok (.invokevirtual 107, 3) := by decide +kernel
theorem dX1_disturbedIn_35 : decode cX1_disturbedIn 35 = .ok (.ifCond .ne 14, 3) := by decide +kernel
theorem dX1_disturbedIn_38 : decode cX1_disturbedIn 38 = .ok (.aload_n 0, 1) := by decide +kernel
theorem dX1_disturbedIn_39 : decode cX1_disturbedIn 39 = .ok (.getfield 15, 3) := by decide +kernel
theorem dX1_disturbedIn_42 : decode cX1_disturbedIn 42 = .ok (.iload 5, 2) := by decide +kernel
theorem dX1_disturbedIn_44 : decode cX1_disturbedIn 44 = .ok (.iaload, 1) := by decide +kernel
theorem dX1_disturbedIn_45 : decode cX1_disturbedIn 45 = .ok (.iload_n 2, 1) := by decide +kernel
theorem dX1_disturbedIn_46 : decode cX1_disturbedIn 46 = .ok (.if_icmp .le 6, 3) := by decide +kernel
theorem dX1_disturbedIn_49 : decode cX1_disturbedIn 49 = .ok (.iinc 3 1, 3) := by decide +kernel
theorem dX1_disturbedIn_52 : decode cX1_disturbedIn 52 = .ok (.iinc 4 1, 3) := by decide +kernel
theorem dX1_disturbedIn_55 : decode cX1_disturbedIn 55 = .ok (.goto (-50), 3) := by decide +kernel
theorem dX1_disturbedIn_58 : decode cX1_disturbedIn 58 = .ok (.iload_n 3, 1) := by decide +kernel
theorem dX1_disturbedIn_59 : decode cX1_disturbedIn 59 = .ok (.ireturn, 1) := by decide +kernel
set_option maxRecDepth 20000 in
theorem ggX2_init_X1_init : GoodIn wsX2_init wsX1_init := goodIn_r _ [11, 12, 2, 3, 13, 14, 15, 16, 17, 18, 19, 20, 21, 22, 23, 24, 25, 29, 30, 31, 32, 33, 34, 35, 36, 37, 38, 39, 40] (by decide +kernel) (by decide +kernel)
set_option maxRecDepth 20000 in
theorem gX2_init_X1_init_n24 : GoodIn wsX2_init (wsX1_init) := ggX2_init_X1_init
theorem dX2_init_0 : decode cX2_init 0 = .ok (.aload_n 0, 1) := by decide +kernel
theorem dX2_init_1 : decode cX2_init 1 = .ok (.invokespecial 3, 3) := by decide +kernel
theorem dX2_init_4 : decode cX2_init 4 = .ok (.aload_n 0, 1) := by decide +kernel
theorem dX2_init_5 : decode cX2_init 5 = .ok (.bipush 6, 2) := by decide +kernel
theorem dX2_init_7 : decode cX2_init 7 = .ok (.anewarray 9, 3) := by decide +kernel
theorem dX2_init_10 : decode cX2_init 10 = .ok (.putfield 11, 3) := by decide +kernel
theorem dX2_init_13 : decode cX2_init 13 = .ok (.aload_n 0, 1) := by decide +kernel
theorem dX2_init_14 : decode cX2_init 14 = .ok (.iconst 0, 1) := by decide +kernel
theorem dX2_init_15 : decode cX2_init 15 = .ok (.putfield 17, 3) := by decide +kernel
theorem dX2_init_18 : decode cX2_init 18 = .ok (.aload_n 0, 1) := by decide +kernel
theorem dX2_init_19 : decode cX2_init 19 = .ok (.iconst 0, 1) := by decide +kernel
theorem dX2_init_20 : decode cX2_init 20 = .ok (.putfield 21, 3) := by decide +kernel
theorem dX2_init_23 : decode cX2_init 23 = .ok (.iconst 0, 1) := by decide +kernel
theorem dX2_init_24 : decode cX2_init 24 = .ok (.istore_n 1, 1) := by decide +kernel
theorem dX2_init_25 : decode cX2_init 25 = .ok (.iload_n 1, 1) := by decide +kernel
theorem dX2_init_26 : decode cX2_init 26 = .ok (.bipush 6, 2) := by decide +kernel
theorem dX2_init_28 : decode cX2_init 28 = .ok (.if_icmp .ge 22, 3) := by decide +kernel
theorem dX2_init_31 : decode cX2_init 31 = .ok (.aload_n 0, 1) := by decide +kernel
theorem dX2_init_32 : decode cX2_init 32 = .ok (.getfield 11, 3) := by decide +kernel
theorem dX2_init_35 : decode cX2_init 35 = .ok (.iload_n 1, 1) := by decide +kernel
theorem dX2_init_36 : decode cX2_init 36 = .ok (.new 9, 3) := by decide +kernel
theorem dX2_init_39 : decode cX2_init 39 = .ok (.dup, 1) := by decide +kernel
theorem dX2_init_40 : decode cX2_init 40 = .ok (.invokespecial 24, 3) := by decide +kernel
theorem dX2_init_43 : decode cX2_init 43 = .ok (.aastore, 1) := by decide +kernel
theorem dX2_init_44 : decode cX2_init 44 = .ok (.iinc 1 1, 3) := by decide +kernel
theorem dX2_init_47 : decode cX2_init 47 = .ok (.goto (-22), 3) := by decide +kernel
theorem dX2_init_50 : decode cX2_init 50 = .ok (.return_, 1) := by decide +kernel
set_option maxRecDepth 20000 in
theorem ggX2_keep_X1_copyFrom : GoodIn wsX2_keep wsX1_copyFrom := goodIn_r _ [8, 9, 10, 11, 12, 13, 14, 15, 16, 17, 18, 19, 20, 21, 22, 23, 24, 28, 29, 30, 31, 32, 33, 34, 35, 36, 37, 38, 39] (by decide +kernel) (by decide +kernel)
set_option maxRecDepth 20000 in
theorem gX2_keep_X1_copyFrom : GoodIn wsX2_keep (wsV RX2 25 RX1 yX1_copyFrom wsX1_copyFrom) := goodIn_app (goodIn_of _ (by decide +kernel)) ggX2_keep_X1_copyFrom
theorem dX2_keep_0 : decode cX2_keep 0 = .ok (.aload_n 0, 1) := by decide +kernel
theorem dX2_keep_1 : decode cX2_keep 1 = .ok (.getfield 21, 3) := by decide +kernel
theorem dX2_keep_4 : decode cX2_keep 4 = .ok (.bipush 6, 2) := by decide +kernel
theorem dX2_keep_6 : decode cX2_keep 6 = .ok (.if_icmp .ne 26, 3) := by decide +kernel
theorem dX2_keep_9 : decode cX2_keep 9 = .ok (.aload_n 0, 1) := by decide +kernel
theorem dX2_keep_10 : decode cX2_keep 10 = .ok (.aload_n 0, 1) := by decide +kernel
theorem dX2_keep_11 : decode cX2_keep 11 = .ok (.getfield 17, 3) := by decide +kernel
theorem dX2_keep_14 : decode cX2_keep 14 = .ok (.iconst 1, 1) := by decide +kernel
theorem dX2_keep_15 : decode cX2_keep 15 = .ok (.iadd, 1) := by decide +kernel
theorem dX2_keep_16 : decode cX2_keep 16 = .ok (.bipush 6, 2) := by decide +kernel
theorem dX2_keep_18 : decode cX2_keep 18 = .ok (.irem, 1) := by decide +kernel
theorem dX2_keep_19 : decode cX2_keep 19 = .ok (.putfield 17, 3) := by decide +kernel
theorem dX2_keep_22 : decode cX2_keep 22 = .ok (.aload_n 0, 1) := by decide +kernel
theorem dX2_keep_23 : decode cX2_keep 23 = .ok (.dup, 1) := by decide +kernel
theorem dX2_keep_24 : decode cX2_keep 24 = .ok (.getfield 21, 3) := by decide +kernel
theorem dX2_keep_27 : decode cX2_keep 27 = .ok (.iconst 1, 1) := by decide +kernel
theorem dX2_keep_28 : decode cX2_keep 28 = .ok (.isub, 1) := by decide +kernel
theorem dX2_keep_29 : decode cX2_keep 29 = .ok (.putfield 21, 3) := by decide +kernel
theorem dX2_keep_32 : decode cX2_keep 32 = .ok (.aload_n 0, 1) := by decide +kernel
theorem dX2_keep_33 : decode cX2_keep 33 = .ok (.getfield 11, 3) := by decide +kernel
theorem dX2_keep_36 : decode cX2_keep 36 = .ok (.aload_n 0, 1) := by decide +kernel
theorem dX2_keep_37 : decode cX2_keep 37 = .ok (.getfield 17, 3) := by decide +kernel
theorem dX2_keep_40 : decode cX2_keep 40 = .ok (.aload_n 0, 1) := by decide +kernel
theorem dX2_keep_41 : decode cX2_keep 41 = .ok (.getfield 21, 3) := by decide +kernel
theorem dX2_keep_44 : decode cX2_keep 44 = .ok (.iadd, 1) := by decide +kernel
theorem dX2_keep_45 : decode cX2_keep 45 = .ok (.bipush 6, 2) := by decide +kernel
theorem dX2_keep_47 : decode cX2_keep 47 = .ok (.irem, 1) := by decide +kernel
theorem dX2_keep_48 : decode cX2_keep 48 = .ok (.aaload, 1) := by decide +kernel
theorem dX2_keep_49 : decode cX2_keep 49 = .ok (.aload_n 1, 1) := by decide +kernel
theorem dX2_keep_50 : decode cX2_keep 50 = .ok (.invokevirtual 25, 3) := by decide +kernel
theorem dX2_keep_53 : decode cX2_keep 53 = .ok (.aload_n 0, 1) := by decide +kernel
theorem dX2_keep_54 : decode cX2_keep 54 = .ok (.dup, 1) := by decide +kernel
theorem dX2_keep_55 : decode cX2_keep 55 = .ok (.getfield 21, 3) := by decide +kernel
theorem dX2_keep_58 : decode cX2_keep 58 = .ok (.iconst 1, 1) := by decide +kernel
theorem dX2_keep_59 : decode cX2_keep 59 = .ok (.iadd, 1) := by decide +kernel
theorem dX2_keep_60 : decode cX2_keep 60 = .ok (.putfield 21, 3) := by decide +kernel
theorem dX2_keep_63 : decode cX2_keep 63 = .ok (.return_, 1) := by decide +kernel
set_option maxRecDepth 20000 in
theorem ggX2_takeBack_X1_copyFrom : GoodIn wsX2_takeBack wsX1_copyFrom := goodIn_r _ [8, 9, 10, 11, 12, 13, 14, 15, 16, 17, 18, 19, 20, 21, 22, 23, 24, 28, 29, 30, 31, 32, 33, 34, 35, 36, 37, 38, 39] (by decide +kernel) (by decide +kernel)
set_option maxRecDepth 20000 in
theorem gX2_takeBack_X1_copyFrom : GoodIn wsX2_takeBack (wsV RX2 25 RX1 yX1_copyFrom wsX1_copyFrom) := goodIn_app (goodIn_of _ (by decide +kernel)) ggX2_takeBack_X1_copyFrom
theorem dX2_takeBack_0 : decode cX2_takeBack 0 = .ok (.aload_n 0, 1) := by decide +kernel
theorem dX2_takeBack_1 : decode cX2_takeBack 1 = .ok (.getfield 21, 3) := by decide +kernel
theorem dX2_takeBack_4 : decode cX2_takeBack 4 = .ok (.ifCond .le 34, 3) := by decide +kernel
theorem dX2_takeBack_7 : decode cX2_takeBack 7 = .ok (.aload_n 0, 1) := by decide +kernel
theorem dX2_takeBack_8 : decode cX2_takeBack 8 = .ok (.dup, 1) := by decide +kernel
theorem dX2_takeBack_9 : decode cX2_takeBack 9 = .ok (.getfield 21, 3) := by decide +kernel
theorem dX2_takeBack_12 : decode cX2_takeBack 12 = .ok (.iconst 1, 1) := by decide +kernel
theorem dX2_takeBack_13 : decode cX2_takeBack 13 = .ok (.isub, 1) := by decide +kernel
theorem dX2_takeBack_14 : decode cX2_takeBack 14 = .ok (.putfield 21, 3) := by decide +kernel
theorem dX2_takeBack_17 : decode cX2_takeBack 17 = .ok (.aload_n 1, 1) := by decide +kernel
theorem dX2_takeBack_18 : decode cX2_takeBack 18 = .ok (.aload_n 0, 1) := by decide +kernel
theorem dX2_takeBack_19 : decode cX2_takeBack 19 = .ok (.getfield 11, 3) := by decide +kernel
theorem dX2_takeBack_22 : decode cX2_takeBack 22 = .ok (.aload_n 0, 1) := by decide +kernel
theorem dX2_takeBack_23 : decode cX2_takeBack 23 = .ok (.getfield 17, 3) := by decide +kernel
theorem dX2_takeBack_26 : decode cX2_takeBack 26 = .ok (.aload_n 0, 1) := by decide +kernel
theorem dX2_takeBack_27 : decode cX2_takeBack 27 = .ok (.getfield 21, 3) := by decide +kernel
theorem dX2_takeBack_30 : decode cX2_takeBack 30 = .ok (.iadd, 1) := by decide +kernel
theorem dX2_takeBack_31 : decode cX2_takeBack 31 = .ok (.bipush 6, 2) := by decide +kernel
theorem dX2_takeBack_33 : decode cX2_takeBack 33 = .ok (.irem, 1) := by decide +kernel
theorem dX2_takeBack_34 : decode cX2_takeBack 34 = .ok (.aaload, 1) := by decide +kernel
theorem dX2_takeBack_35 : decode cX2_takeBack 35 = .ok (.invokevirtual 25, 3) := by decide +kernel
theorem dX2_takeBack_38 : decode cX2_takeBack 38 = .ok (.return_, 1) := by decide +kernel
end
section
set_option maxRecDepth 20000 in
theorem ggX3_init_X1_init : GoodIn wsX3_init wsX1_init := goodIn_r _ [17, 18, 2, 3, 19, 20, 21, 22, 23, 24, 25, 26, 27, 28, 29, 30, 31, 46, 47, 48, 49, 50, 51, 52, 53, 54, 55, 56, 57] (by decide +kernel) (by decide +kernel)
set_option maxRecDepth 20000 in
theorem gX3_init_X1_init_n11 : GoodIn wsX3_init (wsX1_init) := ggX3_init_X1_init
set_option maxRecDepth 20000 in
theorem ggX3_init_X2_init : GoodIn wsX3_init wsX2_init := goodIn_r _ [34, 35, 2, 3, 36, 37, 38, 39, 5, 6, 16, 17, 18, 19, 20, 21, 22, 23, 24, 25, 26, 27, 28, 29, 30, 31, 61, 62, 63, 46, 47, 48, 49, 50, 51, 52, 53, 54, 55, 56, 57] (by decide +kernel) (by decide +kernel)
set_option maxRecDepth 20000 in
theorem gX3_init_X2_init : GoodIn wsX3_init (wsX2_init) := ggX3_init_X2_init
set_option maxRecDepth 20000 in
theorem ggX3_init_X0_init : GoodIn wsX3_init wsX0_init := goodIn_r _ [41, 42, 2, 3, 43, 44, 45, 64, 65] (by decide +kernel) (by decide +kernel)
set_option maxRecDepth 20000 in
theorem gX3_init_X0_init_n25 : GoodIn wsX3_init (wsX0_init) := ggX3_init_X0_init
theorem dX3_init_0 : decode cX3_init 0 = .ok (.aload_n 0, 1) := by decide +kernel
theorem dX3_init_1 : decode cX3_init 1 = .ok (.invokespecial 3, 3) := by decide +kernel
theorem dX3_init_4 : decode cX3_init 4 = .ok (.aload_n 0, 1) := by decide +kernel
theorem dX3_init_5 : decode cX3_init 5 = .ok (.new 9, 3) := by decide +kernel
theorem dX3_init_8 : decode cX3_init 8 = .ok (.dup, 1) := by decide +kernel
theorem dX3_init_9 : decode cX3_init 9 = .ok (.invokespecial 11, 3) := by decide +kernel
theorem dX3_init_12 : decode cX3_init 12 = .ok (.putfield 12, 3) := by decide +kernel
theorem dX3_init_15 : decode cX3_init 15 = .ok (.aload_n 0, 1) := by decide +kernel
theorem dX3_init_16 : decode cX3_init 16 = .ok (.new 16, 3) := by decide +kernel
theorem dX3_init_19 : decode cX3_init 19 = .ok (.dup, 1) := by decide +kernel
theorem dX3_init_20 : decode cX3_init 20 = .ok (.invokespecial 18, 3) := by decide +kernel
theorem dX3_init_23 : decode cX3_init 23 = .ok (.putfield 19, 3) := by decide +kernel
theorem dX3_init_26 : decode cX3_init 26 = .ok (.aload_n 0, 1) := by decide +kernel
theorem dX3_init_27 : decode cX3_init 27 = .ok (.new 23, 3) := by decide +kernel
theorem dX3_init_30 : decode cX3_init 30 = .ok (.dup, 1) := by decide +kernel
theorem dX3_init_31 : decode cX3_init 31 = .ok (.invokespecial 25, 3) := by decide +kernel
theorem dX3_init_34 : decode cX3_init 34 = .ok (.putfield 26, 3) := by decide +kernel
theorem dX3_init_37 : decode cX3_init 37 = .ok (.return_, 1) := by decide +kernel
set_option maxRecDepth 20000 in
theorem ggX3_come_X3_checkRow : GoodIn wsX3_come wsX3_checkRow := goodIn_ca (goodIn_r _ [9, 10, 11] (by decide +kernel) (by decide +kernel)) (goodIn_sub (fun _ h => List.mem_cons_of_mem _ (List.mem_append_right _ h)) (by decide +kernel))
set_option maxRecDepth 20000 in
theorem gX3_come_X3_checkRow : GoodIn wsX3_come (va_wsS RX3 30 yX3_checkRow wsX3_checkRow) := goodIn_app (goodIn_of _ (by decide +kernel)) ggX3_come_X3_checkRow
set_option maxRecDepth 20000 in
theorem ggX3_come_X3_checkConcert : GoodIn wsX3_come wsX3_checkConcert := goodIn_ca (goodIn_r _ [14, 10, 11] (by decide +kernel) (by decide +kernel)) (goodIn_sub (fun _ h => List.mem_cons_of_mem _ (List.mem_append_right _ h)) (by decide +kernel))
set_option maxRecDepth 20000 in
theorem gX3_come_X3_checkConcert : GoodIn wsX3_come (va_wsS RX3 34 yX3_checkConcert wsX3_checkConcert) := goodIn_app (goodIn_of _ (by decide +kernel)) ggX3_come_X3_checkConcert
set_option maxRecDepth 20000 in
theorem ggX3_come_X3_placeOf : GoodIn wsX3_come wsX3_placeOf := goodIn_r _ [17] (by decide +kernel) (by decide +kernel)
set_option maxRecDepth 20000 in
theorem gX3_come_X3_placeOf : GoodIn wsX3_come (va_wsS RX3 37 yX3_placeOf wsX3_placeOf) := goodIn_app (goodIn_of _ (by decide +kernel)) ggX3_come_X3_placeOf
set_option maxRecDepth 20000 in
theorem ggX3_come_X1_hasRoom : GoodIn wsX3_come wsX1_hasRoom := goodIn_r _ [22, 23, 62, 63, 64, 65, 66, 67, 68, 69, 70, 71, 72, 73] (by decide +kernel) (by decide +kernel)
set_option maxRecDepth 20000 in
theorem gX3_come_X1_hasRoom : GoodIn wsX3_come (wsV RX3 41 RX1 yX1_hasRoom wsX1_hasRoom) := goodIn_app (goodIn_of _ (by decide +kernel)) ggX3_come_X1_hasRoom
set_option maxRecDepth 20000 in
theorem ggX3_come_X2_keep : GoodIn wsX3_come wsX2_keep := goodIn_r _ [28, 29, 30, 31, 32, 33, 34, 21, 35, 23, 36, 37, 38, 39, 40, 41, 42, 43, 44, 45, 46, 47, 48, 49, 50, 74, 75, 76, 62, 63, 64, 65, 66, 67, 68, 69, 70, 71, 72, 73] (by decide +kernel) (by decide +kernel)
set_option maxRecDepth 20000 in
theorem gX3_come_X2_keep : GoodIn wsX3_come (wsV RX3 52 RX2 yX2_keep wsX2_keep) := goodIn_app (goodIn_of _ (by decide +kernel)) ggX3_come_X2_keep
set_option maxRecDepth 20000 in
theorem ggX3_come_X1_seat : GoodIn wsX3_come wsX1_seat := goodIn_r _ [54, 23, 55, 56, 57, 21, 58, 40, 46, 41, 62, 63, 64, 65, 66, 67, 68, 69, 70, 71, 72, 73] (by decide +kernel) (by decide +kernel)
set_option maxRecDepth 20000 in
theorem gX3_come_X1_seat : GoodIn wsX3_come (wsV RX3 56 RX1 yX1_seat wsX1_seat) := goodIn_app (goodIn_of _ (by decide +kernel)) ggX3_come_X1_seat
theorem dX3_come_0 : decode cX3_come 0 = .ok (.iload_n 1, 1) := by decide +kernel
theorem dX3_come_1 : decode cX3_come 1 = .ok (.invokestatic 30, 3) := by decide +kernel
theorem dX3_come_4 : decode cX3_come 4 = .ok (.iload_n 2, 1) := by decide +kernel
theorem dX3_come_5 : decode cX3_come 5 = .ok (.invokestatic 34, 3) := by decide +kernel
theorem dX3_come_8 : decode cX3_come 8 = .ok (.iload_n 1, 1) := by decide +kernel
theorem dX3_come_9 : decode cX3_come 9 = .ok (.iload_n 2, 1) := by decide +kernel
theorem dX3_come_10 : decode cX3_come 10 = .ok (.invokestatic 37, 3) := by decide +kernel
theorem dX3_come_13 : decode cX3_come 13 = .ok (.istore_n 3, 1) := by decide +kernel
theorem dX3_come_14 : decode cX3_come 14 = .ok (.aload_n 0, 1) := by decide +kernel
theorem dX3_come_15 : decode cX3_come 15 = .ok (.getfield 12, 3) := by decide +kernel
theorem dX3_come_18 : decode cX3_come 18 = .ok (.iload_n 3, 1) := by decide +kernel
theorem dX3_come_19 : decode cX3_come 19 = .ok (.invokevirtual 41, 3) := by decide +kernel
theorem dX3_come_22 : decode cX3_come 22 = .ok (.ifCond .ne 13, 3) := by decide +kernel
theorem dX3_come_25 : decode cX3_come 25 = .ok (.new 45, 3) := by decide +kernel
theorem dX3_come_28 : decode cX3_come 28 = .ok (.dup, 1) := by decide +kernel
theorem dX3_come_29 : decode cX3_come 29 = .ok (.ldc 47, 2) := by decide +kernel
theorem dX3_come_31 : decode cX3_come 31 = .ok (.invokespecial 49, 3) := by decide +kernel
theorem dX3_come_34 : decode cX3_come 34 = .ok (.athrow, 1) := by decide +kernel
theorem dX3_come_35 : decode cX3_come 35 = .ok (.aload_n 0, 1) := by decide +kernel
theorem dX3_come_36 : decode cX3_come 36 = .ok (.getfield 19, 3) := by decide +kernel
theorem dX3_come_39 : decode cX3_come 39 = .ok (.aload_n 0, 1) := by decide +kernel
theorem dX3_come_40 : decode cX3_come 40 = .ok (.getfield 12, 3) := by decide +kernel
theorem dX3_come_43 : decode cX3_come 43 = .ok (.invokevirtual 52, 3) := by decide +kernel
theorem dX3_come_46 : decode cX3_come 46 = .ok (.aload_n 0, 1) := by decide +kernel
theorem dX3_come_47 : decode cX3_come 47 = .ok (.getfield 12, 3) := by decide +kernel
theorem dX3_come_50 : decode cX3_come 50 = .ok (.iload_n 3, 1) := by decide +kernel
theorem dX3_come_51 : decode cX3_come 51 = .ok (.invokevirtual 56, 3) := by decide +kernel
theorem dX3_come_54 : decode cX3_come 54 = .ok (.aload_n 0, 1) := by decide +kernel
theorem dX3_come_55 : decode cX3_come 55 = .ok (.getfield 12, 3) := by decide +kernel
theorem dX3_come_58 : decode cX3_come 58 = .ok (.getfield 59, 3) := by decide +kernel
theorem dX3_come_61 : decode cX3_come 61 = .ok (.iload_n 3, 1) := by decide +kernel
theorem dX3_come_62 : decode cX3_come 62 = .ok (.iaload, 1) := by decide +kernel
theorem dX3_come_63 : decode cX3_come 63 = .ok (.ireturn, 1) := by decide +kernel
set_option maxRecDepth 20000 in
theorem ggX3_leave_X3_checkRow : GoodIn wsX3_leave wsX3_checkRow := goodIn_ca (goodIn_r _ [9, 10, 11] (by decide +kernel) (by decide +kernel)) (goodIn_sub (fun _ h => List.mem_cons_of_mem _ (List.mem_append_right _ h)) (by decide +kernel))
set_option maxRecDepth 20000 in
theorem gX3_leave_X3_checkRow : GoodIn wsX3_leave (va_wsS RX3 30 yX3_checkRow wsX3_checkRow) := goodIn_app (goodIn_of _ (by decide +kernel)) ggX3_leave_X3_checkRow
set_option maxRecDepth 20000 in
theorem ggX3_leave_X3_checkConcert : GoodIn wsX3_leave wsX3_checkConcert := goodIn_ca (goodIn_r _ [14, 10, 11] (by decide +kernel) (by decide +kernel)) (goodIn_sub (fun _ h => List.mem_cons_of_mem _ (List.mem_append_right _ h)) (by decide +kernel))
set_option maxRecDepth 20000 in
theorem gX3_leave_X3_checkConcert : GoodIn wsX3_leave (va_wsS RX3 34 yX3_checkConcert wsX3_checkConcert) := goodIn_app (goodIn_of _ (by decide +kernel)) ggX3_leave_X3_checkConcert
set_option maxRecDepth 20000 in
theorem ggX3_leave_X3_placeOf : GoodIn wsX3_leave wsX3_placeOf := goodIn_r _ [17] (by decide +kernel) (by decide +kernel)
set_option maxRecDepth 20000 in
theorem gX3_leave_X3_placeOf : GoodIn wsX3_leave (va_wsS RX3 37 yX3_placeOf wsX3_placeOf) := goodIn_app (goodIn_of _ (by decide +kernel)) ggX3_leave_X3_placeOf
set_option maxRecDepth 20000 in
theorem ggX3_leave_X1_isWantedAt : GoodIn wsX3_leave wsX1_isWantedAt := goodIn_r _ [22, 23, 71, 72, 73, 74, 75, 76, 77, 78, 79, 80, 81, 82] (by decide +kernel) (by decide +kernel)
set_option maxRecDepth 20000 in
theorem gX3_leave_X1_isWantedAt : GoodIn wsX3_leave (wsV RX3 63 RX1 yX1_isWantedAt wsX1_isWantedAt) := goodIn_app (goodIn_of _ (by decide +kernel)) ggX3_leave_X1_isWantedAt
set_option maxRecDepth 20000 in
theorem ggX3_leave_X2_keep : GoodIn wsX3_leave wsX2_keep := goodIn_r _ [28, 29, 30, 31, 32, 33, 34, 21, 35, 23, 36, 37, 38, 39, 40, 41, 42, 43, 44, 45, 46, 47, 48, 49, 50, 83, 84, 85, 71, 72, 73, 74, 75, 76, 77, 78, 79, 80, 81, 82] (by decide +kernel) (by decide +kernel)
set_option maxRecDepth 20000 in
theorem gX3_leave_X2_keep : GoodIn wsX3_leave (wsV RX3 52 RX2 yX2_keep wsX2_keep) := goodIn_app (goodIn_of _ (by decide +kernel)) ggX3_leave_X2_keep
set_option maxRecDepth 20000 in
theorem ggX3_leave_X1_unseat : GoodIn wsX3_leave wsX1_unseat := goodIn_r _ [54, 23, 55, 56, 57, 21, 58, 43, 40, 47, 59, 19, 20, 22, 60, 61, 62, 63, 41, 64, 65, 66, 67, 46, 71, 72, 73, 74, 75, 76, 77, 78, 79, 80, 81, 82] (by decide +kernel) (by decide +kernel)
set_option maxRecDepth 20000 in
theorem gX3_leave_X1_unseat : GoodIn wsX3_leave (wsV RX3 68 RX1 yX1_unseat wsX1_unseat) := goodIn_app (goodIn_of _ (by decide +kernel)) ggX3_leave_X1_unseat
theorem dX3_leave_0 : decode cX3_leave 0 = .ok (.iload_n 1, 1) := by decide +kernel
theorem dX3_leave_1 : decode cX3_leave 1 = .ok (.invokestatic 30, 3) := by decide +kernel
theorem dX3_leave_4 : decode cX3_leave 4 = .ok (.iload_n 2, 1) := by decide +kernel
theorem dX3_leave_5 : decode cX3_leave 5 = .ok (.invokestatic 34, 3) := by decide +kernel
theorem dX3_leave_8 : decode cX3_leave 8 = .ok (.iload_n 1, 1) := by decide +kernel
theorem dX3_leave_9 : decode cX3_leave 9 = .ok (.iload_n 2, 1) := by decide +kernel
theorem dX3_leave_10 : decode cX3_leave 10 = .ok (.invokestatic 37, 3) := by decide +kernel
theorem dX3_leave_13 : decode cX3_leave 13 = .ok (.istore 4, 2) := by decide +kernel
theorem dX3_leave_15 : decode cX3_leave 15 = .ok (.aload_n 0, 1) := by decide +kernel
theorem dX3_leave_16 : decode cX3_leave 16 = .ok (.getfield 12, 3) := by decide +kernel
theorem dX3_leave_19 : decode cX3_leave 19 = .ok (.iload 4, 2) := by decide +kernel
theorem dX3_leave_21 : decode cX3_leave 21 = .ok (.invokevirtual 63, 3) := by decide +kernel
theorem dX3_leave_24 : decode cX3_leave 24 = .ok (.ifCond .ne 13, 3) := by decide +kernel
theorem dX3_leave_27 : decode cX3_leave 27 = .ok (.new 45, 3) := by decide +kernel
theorem dX3_leave_30 : decode cX3_leave 30 = .ok (.dup, 1) := by decide +kernel
theorem dX3_leave_31 : decode cX3_leave 31 = .ok (.ldc 66, 2) := by decide +kernel
theorem dX3_leave_33 : decode cX3_leave 33 = .ok (.invokespecial 49, 3) := by decide +kernel
theorem dX3_leave_36 : decode cX3_leave 36 = .ok (.athrow, 1) := by decide +kernel
theorem dX3_leave_37 : decode cX3_leave 37 = .ok (.aload_n 0, 1) := by decide +kernel
theorem dX3_leave_38 : decode cX3_leave 38 = .ok (.getfield 19, 3) := by decide +kernel
theorem dX3_leave_41 : decode cX3_leave 41 = .ok (.aload_n 0, 1) := by decide +kernel
theorem dX3_leave_42 : decode cX3_leave 42 = .ok (.getfield 12, 3) := by decide +kernel
theorem dX3_leave_45 : decode cX3_leave 45 = .ok (.invokevirtual 52, 3) := by decide +kernel
theorem dX3_leave_48 : decode cX3_leave 48 = .ok (.aload_n 0, 1) := by decide +kernel
theorem dX3_leave_49 : decode cX3_leave 49 = .ok (.getfield 12, 3) := by decide +kernel
theorem dX3_leave_52 : decode cX3_leave 52 = .ok (.iload 4, 2) := by decide +kernel
theorem dX3_leave_54 : decode cX3_leave 54 = .ok (.iload_n 3, 1) := by decide +kernel
theorem dX3_leave_55 : decode cX3_leave 55 = .ok (.invokevirtual 68, 3) := by decide +kernel
theorem dX3_leave_58 : decode cX3_leave 58 = .ok (.aload_n 0, 1) := by decide +kernel
theorem dX3_leave_59 : decode cX3_leave 59 = .ok (.getfield 12, 3) := by decide +kernel
theorem dX3_leave_62 : decode cX3_leave 62 = .ok (.getfield 59, 3) := by decide +kernel
theorem dX3_leave_65 : decode cX3_leave 65 = .ok (.iload 4, 2) := by decide +kernel
theorem dX3_leave_67 : decode cX3_leave 67 = .ok (.iaload, 1) := by decide +kernel
theorem dX3_leave_68 : decode cX3_leave 68 = .ok (.ireturn, 1) := by decide +kernel
set_option maxRecDepth 20000 in
theorem ggX3_listeners_X3_checkRow : GoodIn wsX3_listeners wsX3_checkRow := goodIn_ca (goodIn_r _ [6, 7, 8] (by decide +kernel) (by decide +kernel)) (goodIn_sub (fun _ h => List.mem_cons_of_mem _ (List.mem_append_right _ h)) (by decide +kernel))
set_option maxRecDepth 20000 in
theorem gX3_listeners_X3_checkRow : GoodIn wsX3_listeners (va_wsS RX3 30 yX3_checkRow wsX3_checkRow) := goodIn_app (goodIn_of _ (by decide +kernel)) ggX3_listeners_X3_checkRow
set_option maxRecDepth 20000 in
theorem ggX3_listeners_X3_checkConcert : GoodIn wsX3_listeners wsX3_checkConcert := goodIn_ca (goodIn_r _ [11, 7, 8] (by decide +kernel) (by decide +kernel)) (goodIn_sub (fun _ h => List.mem_cons_of_mem _ (List.mem_append_right _ h)) (by decide +kernel))
set_option maxRecDepth 20000 in
theorem gX3_listeners_X3_checkConcert : GoodIn wsX3_listeners (va_wsS RX3 34 yX3_checkConcert wsX3_checkConcert) := goodIn_app (goodIn_of _ (by decide +kernel)) ggX3_listeners_X3_checkConcert
set_option maxRecDepth 20000 in
theorem ggX3_listeners_X3_placeOf : GoodIn wsX3_listeners wsX3_placeOf := goodIn_r _ [14] (by decide +kernel) (by decide +kernel)
set_option maxRecDepth 20000 in
theorem gX3_listeners_X3_placeOf : GoodIn wsX3_listeners (va_wsS RX3 37 yX3_placeOf wsX3_placeOf) := goodIn_app (goodIn_of _ (by decide +kernel)) ggX3_listeners_X3_placeOf
theorem dX3_listeners_0 : decode cX3_listeners 0 = .ok (.iload_n 1, 1) := by decide +kernel
theorem dX3_listeners_1 : decode cX3_listeners 1 = .ok (.invokestatic 30, 3) := by decide +kernel
theorem dX3_listeners_4 : decode cX3_listeners 4 = .ok (.iload_n 2, 1) := by decide +kernel
theorem dX3_listeners_5 : decode cX3_listeners 5 = .ok (.invokestatic 34, 3) := by decide +kernel
theorem dX3_listeners_8 : decode cX3_listeners 8 = .ok (.aload_n 0, 1) := by decide +kernel
theorem dX3_listeners_9 : decode cX3_listeners 9 = .ok (.getfield 12, 3) := by decide +kernel
theorem dX3_listeners_12 : decode cX3_listeners 12 = .ok (.getfield 59, 3) := by decide +kernel
theorem dX3_listeners_15 : decode cX3_listeners 15 = .ok (.iload_n 1, 1) := by decide +kernel
theorem dX3_listeners_16 : decode cX3_listeners 16 = .ok (.iload_n 2, 1) := by decide +kernel
theorem dX3_listeners_17 : decode cX3_listeners 17 = .ok (.invokestatic 37, 3) := by decide +kernel
theorem dX3_listeners_20 : decode cX3_listeners 20 = .ok (.iaload, 1) := by decide +kernel
theorem dX3_listeners_21 : decode cX3_listeners 21 = .ok (.ireturn, 1) := by decide +kernel
set_option maxRecDepth 20000 in
theorem ggX3_setOpen_X3_checkRow : GoodIn wsX3_setOpen wsX3_checkRow := goodIn_ca (goodIn_r _ [6, 7, 8] (by decide +kernel) (by decide +kernel)) (goodIn_sub (fun _ h => List.mem_cons_of_mem _ (List.mem_append_right _ h)) (by decide +kernel))
set_option maxRecDepth 20000 in
theorem gX3_setOpen_X3_checkRow : GoodIn wsX3_setOpen (va_wsS RX3 30 yX3_checkRow wsX3_checkRow) := goodIn_app (goodIn_of _ (by decide +kernel)) ggX3_setOpen_X3_checkRow
set_option maxRecDepth 20000 in
theorem ggX3_setOpen_X2_keep : GoodIn wsX3_setOpen wsX2_keep := goodIn_r _ [13, 14, 15, 16, 17, 18, 19, 20, 21, 22, 23, 24, 25, 26, 27, 28, 29, 30, 31, 32, 33, 34, 35, 36, 37, 49, 50, 51, 52, 53, 54, 55, 56, 57, 58, 59, 60, 61, 62, 63] (by decide +kernel) (by decide +kernel)
set_option maxRecDepth 20000 in
theorem gX3_setOpen_X2_keep : GoodIn wsX3_setOpen (wsV RX3 52 RX2 yX2_keep wsX2_keep) := goodIn_app (goodIn_of _ (by decide +kernel)) ggX3_setOpen_X2_keep
set_option maxRecDepth 20000 in
theorem ggX3_setOpen_X1_isRowOpen : GoodIn wsX3_setOpen wsX1_isRowOpen := goodIn_r _ [41, 29, 52, 53, 54, 55, 56, 57, 58, 59, 60, 61, 62, 63] (by decide +kernel) (by decide +kernel)
set_option maxRecDepth 20000 in
theorem gX3_setOpen_X1_isRowOpen : GoodIn wsX3_setOpen (wsV RX3 72 RX1 yX1_isRowOpen wsX1_isRowOpen) := goodIn_app (goodIn_of _ (by decide +kernel)) ggX3_setOpen_X1_isRowOpen
set_option maxRecDepth 20000 in
theorem ggX3_setOpen_X1_turnRow : GoodIn wsX3_setOpen wsX1_turnRow := goodIn_r _ [45, 29, 52, 53, 54, 55, 56, 57, 58, 59, 60, 61, 62, 63] (by decide +kernel) (by decide +kernel)
set_option maxRecDepth 20000 in
theorem gX3_setOpen_X1_turnRow : GoodIn wsX3_setOpen (wsV RX3 75 RX1 yX1_turnRow wsX1_turnRow) := goodIn_app (goodIn_of _ (by decide +kernel)) ggX3_setOpen_X1_turnRow
theorem dX3_setOpen_0 : decode cX3_setOpen 0 = .ok (.iload_n 1, 1) := by decide +kernel
theorem dX3_setOpen_1 : decode cX3_setOpen 1 = .ok (.invokestatic 30, 3) := by decide +kernel
theorem dX3_setOpen_4 : decode cX3_setOpen 4 = .ok (.aload_n 0, 1) := by decide +kernel
theorem dX3_setOpen_5 : decode cX3_setOpen 5 = .ok (.getfield 19, 3) := by decide +kernel
theorem dX3_setOpen_8 : decode cX3_setOpen 8 = .ok (.aload_n 0, 1) := by decide +kernel
theorem dX3_setOpen_9 : decode cX3_setOpen 9 = .ok (.getfield 12, 3) := by decide +kernel
theorem dX3_setOpen_12 : decode cX3_setOpen 12 = .ok (.invokevirtual 52, 3) := by decide +kernel
theorem dX3_setOpen_15 : decode cX3_setOpen 15 = .ok (.aload_n 0, 1) := by decide +kernel
theorem dX3_setOpen_16 : decode cX3_setOpen 16 = .ok (.getfield 12, 3) := by decide +kernel
theorem dX3_setOpen_19 : decode cX3_setOpen 19 = .ok (.iload_n 1, 1) := by decide +kernel
theorem dX3_setOpen_20 : decode cX3_setOpen 20 = .ok (.invokevirtual 72, 3) := by decide +kernel
theorem dX3_setOpen_23 : decode cX3_setOpen 23 = .ok (.istore_n 3, 1) := by decide +kernel
theorem dX3_setOpen_24 : decode cX3_setOpen 24 = .ok (.iload_n 3, 1) := by decide +kernel
theorem dX3_setOpen_25 : decode cX3_setOpen 25 = .ok (.iload_n 2, 1) := by decide +kernel
theorem dX3_setOpen_26 : decode cX3_setOpen 26 = .ok (.if_icmp .eq 11, 3) := by decide +kernel
theorem dX3_setOpen_29 : decode cX3_setOpen 29 = .ok (.aload_n 0, 1) := by decide +kernel
theorem dX3_setOpen_30 : decode cX3_setOpen 30 = .ok (.getfield 12, 3) := by decide +kernel
theorem dX3_setOpen_33 : decode cX3_setOpen 33 = .ok (.iload_n 1, 1) := by decide +kernel
theorem dX3_setOpen_34 : decode cX3_setOpen 34 = .ok (.invokevirtual 75, 3) := by decide +kernel
theorem dX3_setOpen_37 : decode cX3_setOpen 37 = .ok (.iload_n 3, 1) := by decide +kernel
theorem dX3_setOpen_38 : decode cX3_setOpen 38 = .ok (.ireturn, 1) := by decide +kernel
set_option maxRecDepth 20000 in
theorem ggX3_setQuick_X2_keep : GoodIn wsX3_setQuick wsX2_keep := goodIn_r _ [8, 9, 10, 11, 12, 13, 14, 15, 16, 17, 18, 19, 20, 21, 22, 23, 24, 25, 26, 27, 28, 29, 30, 31, 32, 48, 49, 50, 36, 37, 38, 39, 40, 41, 42, 43, 44, 45, 46, 47] (by decide +kernel) (by decide +kernel)
set_option maxRecDepth 20000 in
theorem gX3_setQuick_X2_keep : GoodIn wsX3_setQuick (wsV RX3 52 RX2 yX2_keep wsX2_keep) := goodIn_app (goodIn_of _ (by decide +kernel)) ggX3_setQuick_X2_keep
theorem dX3_setQuick_0 : decode cX3_setQuick 0 = .ok (.aload_n 0, 1) := by decide +kernel
theorem dX3_setQuick_1 : decode cX3_setQuick 1 = .ok (.getfield 19, 3) := by decide +kernel
theorem dX3_setQuick_4 : decode cX3_setQuick 4 = .ok (.aload_n 0, 1) := by decide +kernel
theorem dX3_setQuick_5 : decode cX3_setQuick 5 = .ok (.getfield 12, 3) := by decide +kernel
theorem dX3_setQuick_8 : decode cX3_setQuick 8 = .ok (.invokevirtual 52, 3) := by decide +kernel
theorem dX3_setQuick_11 : decode cX3_setQuick 11 = .ok (.aload_n 0, 1) := by decide +kernel
theorem dX3_setQuick_12 : decode cX3_setQuick 12 = .ok (.getfield 12, 3) := by decide +kernel
theorem dX3_setQuick_15 : decode cX3_setQuick 15 = .ok (.getfield 78, 3) := by decide +kernel
theorem dX3_setQuick_18 : decode cX3_setQuick 18 = .ok (.istore_n 2, 1) := by decide +kernel
theorem dX3_setQuick_19 : decode cX3_setQuick 19 = .ok (.aload_n 0, 1) := by decide +kernel
theorem dX3_setQuick_20 : decode cX3_setQuick 20 = .ok (.getfield 12, 3) := by decide +kernel
theorem dX3_setQuick_23 : decode cX3_setQuick 23 = .ok (.iload_n 1, 1) := by decide +kernel
theorem dX3_setQuick_24 : decode cX3_setQuick 24 = .ok (.putfield 78, 3) := by decide +kernel
theorem dX3_setQuick_27 : decode cX3_setQuick 27 = .ok (.iload_n 2, 1) := by decide +kernel
theorem dX3_setQuick_28 : decode cX3_setQuick 28 = .ok (.ireturn, 1) := by decide +kernel
set_option maxRecDepth 20000 in
theorem ggX3_setTimes_X2_keep : GoodIn wsX3_setTimes wsX2_keep := goodIn_r _ [12, 13, 14, 15, 16, 17, 18, 19, 20, 21, 22, 23, 24, 25, 26, 27, 28, 29, 30, 31, 32, 33, 34, 35, 36, 52, 53, 54, 40, 41, 42, 43, 44, 45, 46, 47, 48, 49, 50, 51] (by decide +kernel) (by decide +kernel)
set_option maxRecDepth 20000 in
theorem gX3_setTimes_X2_keep : GoodIn wsX3_setTimes (wsV RX3 52 RX2 yX2_keep wsX2_keep) := goodIn_app (goodIn_of _ (by decide +kernel)) ggX3_setTimes_X2_keep
theorem dX3_setTimes_0 : decode cX3_setTimes 0 = .ok (.iload_n 1, 1) := by decide +kernel
theorem dX3_setTimes_1 : decode cX3_setTimes 1 = .ok (.iconst 2, 1) := by decide +kernel
theorem dX3_setTimes_2 : decode cX3_setTimes 2 = .ok (.if_icmp .lt 9, 3) := by decide +kernel
theorem dX3_setTimes_5 : decode cX3_setTimes 5 = .ok (.iload_n 1, 1) := by decide +kernel
theorem dX3_setTimes_6 : decode cX3_setTimes 6 = .ok (.bipush 60, 2) := by decide +kernel
theorem dX3_setTimes_8 : decode cX3_setTimes 8 = .ok (.if_icmp .le 13, 3) := by decide +kernel
theorem dX3_setTimes_11 : decode cX3_setTimes 11 = .ok (.new 82, 3) := by decide +kernel
theorem dX3_setTimes_14 : decode cX3_setTimes 14 = .ok (.dup, 1) := by decide +kernel
theorem dX3_setTimes_15 : decode cX3_setTimes 15 = .ok (.ldc 84, 2) := by decide +kernel
theorem dX3_setTimes_17 : decode cX3_setTimes 17 = .ok (.invokespecial 86, 3) := by decide +kernel
theorem dX3_setTimes_20 : decode cX3_setTimes 20 = .ok (.athrow, 1) := by decide +kernel
theorem dX3_setTimes_21 : decode cX3_setTimes 21 = .ok (.iload_n 2, 1) := by decide +kernel
theorem dX3_setTimes_22 : decode cX3_setTimes 22 = .ok (.iconst 1, 1) := by decide +kernel
theorem dX3_setTimes_23 : decode cX3_setTimes 23 = .ok (.if_icmp .lt 9, 3) := by decide +kernel
theorem dX3_setTimes_26 : decode cX3_setTimes 26 = .ok (.iload_n 2, 1) := by decide +kernel
theorem dX3_setTimes_27 : decode cX3_setTimes 27 = .ok (.bipush 10, 2) := by decide +kernel
theorem dX3_setTimes_29 : decode cX3_setTimes 29 = .ok (.if_icmp .le 13, 3) := by decide +kernel
theorem dX3_setTimes_32 : decode cX3_setTimes 32 = .ok (.new 82, 3) := by decide +kernel
theorem dX3_setTimes_35 : decode cX3_setTimes 35 = .ok (.dup, 1) := by decide +kernel
theorem dX3_setTimes_36 : decode cX3_setTimes 36 = .ok (.ldc 87, 2) := by decide +kernel
theorem dX3_setTimes_38 : decode cX3_setTimes 38 = .ok (.invokespecial 86, 3) := by decide +kernel
theorem dX3_setTimes_41 : decode cX3_setTimes 41 = .ok (.athrow, 1) := by decide +kernel
theorem dX3_setTimes_42 : decode cX3_setTimes 42 = .ok (.iload_n 3, 1) := by decide +kernel
theorem dX3_setTimes_43 : decode cX3_setTimes 43 = .ok (.iconst 1, 1) := by decide +kernel
theorem dX3_setTimes_44 : decode cX3_setTimes 44 = .ok (.if_icmp .lt 9, 3) := by decide +kernel
theorem dX3_setTimes_47 : decode cX3_setTimes 47 = .ok (.iload_n 3, 1) := by decide +kernel
theorem dX3_setTimes_48 : decode cX3_setTimes 48 = .ok (.bipush 30, 2) := by decide +kernel
theorem dX3_setTimes_50 : decode cX3_setTimes 50 = .ok (.if_icmp .le 13, 3) := by decide +kernel
theorem dX3_setTimes_53 : decode cX3_setTimes 53 = .ok (.new 82, 3) := by decide +kernel
theorem dX3_setTimes_56 : decode cX3_setTimes 56 = .ok (.dup, 1) := by decide +kernel
theorem dX3_setTimes_57 : decode cX3_setTimes 57 = .ok (.ldc 89, 2) := by decide +kernel
theorem dX3_setTimes_59 : decode cX3_setTimes 59 = .ok (.invokespecial 86, 3) := by decide +kernel
theorem dX3_setTimes_62 : decode cX3_setTimes 62 = .ok (.athrow, 1) := by decide +kernel
theorem dX3_setTimes_63 : decode cX3_setTimes 63 = .ok (.aload_n 0, 1) := by decide +kernel
theorem dX3_setTimes_64 : decode cX3_setTimes 64 = .ok (.getfield 19, 3) := by decide +kernel
theorem dX3_setTimes_67 : decode cX3_setTimes 67 = .ok (.aload_n 0, 1) := by decide +kernel
theorem dX3_setTimes_68 : decode cX3_setTimes 68 = .ok (.getfield 12, 3) := by decide +kernel
theorem dX3_setTimes_71 : decode cX3_setTimes 71 = .ok (.invokevirtual 52, 3) := by decide +kernel
theorem dX3_setTimes_74 : decode cX3_setTimes 74 = .ok (.aload_n 0, 1) := by decide +kernel
theorem dX3_setTimes_75 : decode cX3_setTimes 75 = .ok (.getfield 12, 3) := by decide +kernel
theorem dX3_setTimes_78 : decode cX3_setTimes 78 = .ok (.getfield 91, 3) := by decide +kernel
theorem dX3_setTimes_81 : decode cX3_setTimes 81 = .ok (.istore 4, 2) := by decide +kernel
theorem dX3_setTimes_83 : decode cX3_setTimes 83 = .ok (.aload_n 0, 1) := by decide +kernel
theorem dX3_setTimes_84 : decode cX3_setTimes 84 = .ok (.getfield 12, 3) := by decide +kernel
theorem dX3_setTimes_87 : decode cX3_setTimes 87 = .ok (.iload_n 1, 1) := by decide +kernel
theorem dX3_setTimes_88 : decode cX3_setTimes 88 = .ok (.putfield 91, 3) := by decide +kernel
theorem dX3_setTimes_91 : decode cX3_setTimes 91 = .ok (.aload_n 0, 1) := by decide +kernel
theorem dX3_setTimes_92 : decode cX3_setTimes 92 = .ok (.getfield 12, 3) := by decide +kernel
theorem dX3_setTimes_95 : decode cX3_setTimes 95 = .ok (.iload_n 2, 1) := by decide +kernel
theorem dX3_setTimes_96 : decode cX3_setTimes 96 = .ok (.putfield 95, 3) := by decide +kernel
theorem dX3_setTimes_99 : decode cX3_setTimes 99 = .ok (.aload_n 0, 1) := by decide +kernel
theorem dX3_setTimes_100 : decode cX3_setTimes 100 = .ok (.getfield 12, 3) := by decide +kernel
theorem dX3_setTimes_103 : decode cX3_setTimes 103 = .ok (.iload_n 3, 1) := by decide +kernel
theorem dX3_setTimes_104 : decode cX3_setTimes 104 = .ok (.putfield 98, 3) := by decide +kernel
theorem dX3_setTimes_107 : decode cX3_setTimes 107 = .ok (.iload 4, 2) := by decide +kernel
theorem dX3_setTimes_109 : decode cX3_setTimes 109 = .ok (.ireturn, 1) := by decide +kernel
set_option maxRecDepth 20000 in
theorem ggX3_setPresent_X2_keep : GoodIn wsX3_setPresent wsX2_keep := goodIn_r _ [11, 12, 13, 14, 15, 16, 17, 18, 19, 20, 21, 22, 23, 24, 25, 26, 27, 28, 29, 30, 31, 32, 33, 34, 35, 55, 56, 57, 43, 44, 45, 46, 47, 48, 49, 50, 51, 52, 53, 54] (by decide +kernel) (by decide +kernel)
set_option maxRecDepth 20000 in
theorem gX3_setPresent_X2_keep : GoodIn wsX3_setPresent (wsV RX3 52 RX2 yX2_keep wsX2_keep) := goodIn_app (goodIn_of _ (by decide +kernel)) ggX3_setPresent_X2_keep
set_option maxRecDepth 20000 in
theorem ggX3_setPresent_X1_chiefAsker : GoodIn wsX3_setPresent wsX1_chiefAsker := goodIn_r _ [39, 30, 29, 43, 44, 45, 46, 47, 48, 49, 50, 51, 52, 53, 54] (by decide +kernel) (by decide +kernel)
set_option maxRecDepth 20000 in
theorem gX3_setPresent_X1_chiefAsker : GoodIn wsX3_setPresent (wsV RX3 112 RX1 yX1_chiefAsker wsX1_chiefAsker) := goodIn_app (goodIn_of _ (by decide +kernel)) ggX3_setPresent_X1_chiefAsker
theorem dX3_setPresent_0 : decode cX3_setPresent 0 = .ok (.iload_n 1, 1) := by decide +kernel
theorem dX3_setPresent_1 : decode cX3_setPresent 1 = .ok (.iconst 1, 1) := by decide +kernel
theorem dX3_setPresent_2 : decode cX3_setPresent 2 = .ok (.if_icmp .eq 18, 3) := by decide +kernel
theorem dX3_setPresent_5 : decode cX3_setPresent 5 = .ok (.iload_n 1, 1) := by decide +kernel
theorem dX3_setPresent_6 : decode cX3_setPresent 6 = .ok (.iconst 2, 1) := by decide +kernel
theorem dX3_setPresent_7 : decode cX3_setPresent 7 = .ok (.if_icmp .eq 13, 3) := by decide +kernel
theorem dX3_setPresent_10 : decode cX3_setPresent 10 = .ok (.new 101, 3) := by decide +kernel
theorem dX3_setPresent_13 : decode cX3_setPresent 13 = .ok (.dup, 1) := by decide +kernel
theorem dX3_setPresent_14 : decode cX3_setPresent 14 = .ok (.ldc 103, 2) := by decide +kernel
theorem dX3_setPresent_16 : decode cX3_setPresent 16 = .ok (.invokespecial 105, 3) := by decide +kernel
theorem dX3_setPresent_19 : decode cX3_setPresent 19 = .ok (.athrow, 1) := by decide +kernel
theorem dX3_setPresent_20 : decode cX3_setPresent 20 = .ok (.aload_n 0, 1) := by decide +kernel
theorem dX3_setPresent_21 : decode cX3_setPresent 21 = .ok (.getfield 19, 3) := by decide +kernel
theorem dX3_setPresent_24 : decode cX3_setPresent 24 = .ok (.aload_n 0, 1) := by decide +kernel
theorem dX3_setPresent_25 : decode cX3_setPresent 25 = .ok (.getfield 12, 3) := by decide +kernel
theorem dX3_setPresent_28 : decode cX3_setPresent 28 = .ok (.invokevirtual 52, 3) := by decide +kernel
theorem dX3_setPresent_31 : decode cX3_setPresent 31 = .ok (.iload_n 1, 1) := by decide +kernel
theorem dX3_setPresent_32 : decode cX3_setPresent 32 = .ok (.iconst 1, 1) := by decide +kernel
theorem dX3_setPresent_33 : decode cX3_setPresent 33 = .ok (.if_icmp .ne 14, 3) := by decide +kernel
theorem dX3_setPresent_36 : decode cX3_setPresent 36 = .ok (.aload_n 0, 1) := by decide +kernel
theorem dX3_setPresent_37 : decode cX3_setPresent 37 = .ok (.getfield 12, 3) := by decide +kernel
theorem dX3_setPresent_40 : decode cX3_setPresent 40 = .ok (.iload_n 2, 1) := by decide +kernel
theorem dX3_setPresent_41 : decode cX3_setPresent 41 = .ok (.putfield 106, 3) := by decide +kernel
theorem dX3_setPresent_44 : decode cX3_setPresent 44 = .ok (.goto 11, 3) := by decide +kernel
theorem dX3_setPresent_47 : decode cX3_setPresent 47 = .ok (.aload_n 0, 1) := by decide +kernel
theorem dX3_setPresent_48 : decode cX3_setPresent 48 = .ok (.getfield 12, 3) := by decide +kernel
theorem dX3_setPresent_51 : decode cX3_setPresent 51 = .ok (.iload_n 2, 1) := by decide +kernel
theorem dX3_setPresent_52 : decode cX3_setPresent 52 = .ok (.putfield 109, 3) := by decide +kernel
theorem dX3_setPresent_55 : decode cX3_setPresent 55 = .ok (.aload_n 0, 1) := by decide +kernel
theorem dX3_setPresent_56 : decode cX3_setPresent 56 = .ok (.getfield 12, 3) := by decide +kernel
theorem dX3_setPresent_59 : decode cX3_setPresent 59 = .ok (.invokevirtual 112, 3) := by decide +kernel
theorem dX3_setPresent_62 : decode cX3_setPresent 62 = .ok (.ireturn, 1) := by decide +kernel
set_option maxRecDepth 20000 in
theorem ggX3_chief_X1_chiefAsker : GoodIn wsX3_chief wsX1_chiefAsker := goodIn_r _ [6, 7, 8, 12, 13, 14, 15, 16, 17, 18, 19, 20, 21, 22, 23] (by decide +kernel) (by decide +kernel)
set_option maxRecDepth 20000 in
theorem gX3_chief_X1_chiefAsker : GoodIn wsX3_chief (wsV RX3 112 RX1 yX1_chiefAsker wsX1_chiefAsker) := goodIn_app (goodIn_of _ (by decide +kernel)) ggX3_chief_X1_chiefAsker
theorem dX3_chief_0 : decode cX3_chief 0 = .ok (.aload_n 0, 1) := by decide +kernel
theorem dX3_chief_1 : decode cX3_chief 1 = .ok (.getfield 12, 3) := by decide +kernel
theorem dX3_chief_4 : decode cX3_chief 4 = .ok (.invokevirtual 112, 3) := by decide +kernel
theorem dX3_chief_7 : decode cX3_chief 7 = .ok (.ireturn, 1) := by decide +kernel
set_option maxRecDepth 20000 in
theorem ggX3_rest_X3_checkRow : GoodIn wsX3_rest wsX3_checkRow := goodIn_ca (goodIn_r _ [6, 7, 8] (by decide +kernel) (by decide +kernel)) (goodIn_sub (fun _ h => List.mem_cons_of_mem _ (List.mem_append_right _ h)) (by decide +kernel))
set_option maxRecDepth 20000 in
theorem gX3_rest_X3_checkRow : GoodIn wsX3_rest (va_wsS RX3 30 yX3_checkRow wsX3_checkRow) := goodIn_app (goodIn_of _ (by decide +kernel)) ggX3_rest_X3_checkRow
set_option maxRecDepth 20000 in
theorem ggX3_rest_X3_checkConcert : GoodIn wsX3_rest wsX3_checkConcert := goodIn_ca (goodIn_r _ [11, 7, 8] (by decide +kernel) (by decide +kernel)) (goodIn_sub (fun _ h => List.mem_cons_of_mem _ (List.mem_append_right _ h)) (by decide +kernel))
set_option maxRecDepth 20000 in
theorem gX3_rest_X3_checkConcert : GoodIn wsX3_rest (va_wsS RX3 34 yX3_checkConcert wsX3_checkConcert) := goodIn_app (goodIn_of _ (by decide +kernel)) ggX3_rest_X3_checkConcert
set_option maxRecDepth 20000 in
theorem ggX3_rest_X3_placeOf : GoodIn wsX3_rest wsX3_placeOf := goodIn_r _ [14] (by decide +kernel) (by decide +kernel)
set_option maxRecDepth 20000 in
theorem gX3_rest_X3_placeOf : GoodIn wsX3_rest (va_wsS RX3 37 yX3_placeOf wsX3_placeOf) := goodIn_app (goodIn_of _ (by decide +kernel)) ggX3_rest_X3_placeOf
theorem dX3_rest_0 : decode cX3_rest 0 = .ok (.iload_n 1, 1) := by decide +kernel
theorem dX3_rest_1 : decode cX3_rest 1 = .ok (.invokestatic 30, 3) := by decide +kernel
theorem dX3_rest_4 : decode cX3_rest 4 = .ok (.iload_n 2, 1) := by decide +kernel
theorem dX3_rest_5 : decode cX3_rest 5 = .ok (.invokestatic 34, 3) := by decide +kernel
theorem dX3_rest_8 : decode cX3_rest 8 = .ok (.aload_n 0, 1) := by decide +kernel
theorem dX3_rest_9 : decode cX3_rest 9 = .ok (.getfield 12, 3) := by decide +kernel
theorem dX3_rest_12 : decode cX3_rest 12 = .ok (.getfield 116, 3) := by decide +kernel
theorem dX3_rest_15 : decode cX3_rest 15 = .ok (.iload_n 1, 1) := by decide +kernel
theorem dX3_rest_16 : decode cX3_rest 16 = .ok (.iload_n 2, 1) := by decide +kernel
theorem dX3_rest_17 : decode cX3_rest 17 = .ok (.invokestatic 37, 3) := by decide +kernel
theorem dX3_rest_20 : decode cX3_rest 20 = .ok (.iaload, 1) := by decide +kernel
theorem dX3_rest_21 : decode cX3_rest 21 = .ok (.ireturn, 1) := by decide +kernel
set_option maxRecDepth 20000 in
theorem ggX3_entries_X1_entriesInAll : GoodIn wsX3_entries wsX1_entriesInAll := goodIn_r _ [6, 7, 11, 12, 13, 14, 15, 16, 17, 18, 19, 20, 21, 22] (by decide +kernel) (by decide +kernel)
set_option maxRecDepth 20000 in
theorem gX3_entries_X1_entriesInAll : GoodIn wsX3_entries (wsV RX3 119 RX1 yX1_entriesInAll wsX1_entriesInAll) := goodIn_app (goodIn_of _ (by decide +kernel)) ggX3_entries_X1_entriesInAll
theorem dX3_entries_0 : decode cX3_entries 0 = .ok (.aload_n 0, 1) := by decide +kernel
theorem dX3_entries_1 : decode cX3_entries 1 = .ok (.getfield 12, 3) := by decide +kernel
theorem dX3_entries_4 : decode cX3_entries 4 = .ok (.invokevirtual 119, 3) := by decide +kernel
theorem dX3_entries_7 : decode cX3_entries 7 = .ok (.ireturn, 1) := by decide +kernel
set_option maxRecDepth 20000 in
theorem ggX3_isOpen_X3_checkRow : GoodIn wsX3_isOpen wsX3_checkRow := goodIn_ca (goodIn_r _ [5, 6, 7] (by decide +kernel) (by decide +kernel)) (goodIn_sub (fun _ h => List.mem_cons_of_mem _ (List.mem_append_right _ h)) (by decide +kernel))
set_option maxRecDepth 20000 in
theorem gX3_isOpen_X3_checkRow : GoodIn wsX3_isOpen (va_wsS RX3 30 yX3_checkRow wsX3_checkRow) := goodIn_app (goodIn_of _ (by decide +kernel)) ggX3_isOpen_X3_checkRow
set_option maxRecDepth 20000 in
theorem ggX3_isOpen_X1_isRowOpen : GoodIn wsX3_isOpen wsX1_isRowOpen := goodIn_r _ [12, 13, 17, 18, 19, 20, 21, 22, 23, 24, 25, 26, 27, 28] (by decide +kernel) (by decide +kernel)
set_option maxRecDepth 20000 in
theorem gX3_isOpen_X1_isRowOpen : GoodIn wsX3_isOpen (wsV RX3 72 RX1 yX1_isRowOpen wsX1_isRowOpen) := goodIn_app (goodIn_of _ (by decide +kernel)) ggX3_isOpen_X1_isRowOpen
theorem dX3_isOpen_0 : decode cX3_isOpen 0 = .ok (.iload_n 1, 1) := by decide +kernel
theorem dX3_isOpen_1 : decode cX3_isOpen 1 = .ok (.invokestatic 30, 3) := by decide +kernel
theorem dX3_isOpen_4 : decode cX3_isOpen 4 = .ok (.aload_n 0, 1) := by decide +kernel
theorem dX3_isOpen_5 : decode cX3_isOpen 5 = .ok (.getfield 12, 3) := by decide +kernel
theorem dX3_isOpen_8 : decode cX3_isOpen 8 = .ok (.iload_n 1, 1) := by decide +kernel
theorem dX3_isOpen_9 : decode cX3_isOpen 9 = .ok (.invokevirtual 72, 3) := by decide +kernel
theorem dX3_isOpen_12 : decode cX3_isOpen 12 = .ok (.ireturn, 1) := by decide +kernel
set_option maxRecDepth 20000 in
theorem ggX3_rows_X3_checkConcert : GoodIn wsX3_rows wsX3_checkConcert := goodIn_ca (goodIn_r _ [5, 6, 7] (by decide +kernel) (by decide +kernel)) (goodIn_sub (fun _ h => List.mem_cons_of_mem _ (List.mem_append_right _ h)) (by decide +kernel))
set_option maxRecDepth 20000 in
theorem gX3_rows_X3_checkConcert : GoodIn wsX3_rows (va_wsS RX3 34 yX3_checkConcert wsX3_checkConcert) := goodIn_app (goodIn_of _ (by decide +kernel)) ggX3_rows_X3_checkConcert
set_option maxRecDepth 20000 in
theorem ggX3_rows_X1_rowsThatGet : GoodIn wsX3_rows wsX1_rowsThatGet := goodIn_r _ [12, 13, 14, 15, 4, 16, 20, 21, 22, 23, 24, 25, 26, 27, 28, 29, 30, 31] (by decide +kernel) (by decide +kernel)
set_option maxRecDepth 20000 in
theorem gX3_rows_X1_rowsThatGet : GoodIn wsX3_rows (wsV RX3 122 RX1 yX1_rowsThatGet wsX1_rowsThatGet) := goodIn_app (goodIn_of _ (by decide +kernel)) ggX3_rows_X1_rowsThatGet
theorem dX3_rows_0 : decode cX3_rows 0 = .ok (.iload_n 1, 1) := by decide +kernel
theorem dX3_rows_1 : decode cX3_rows 1 = .ok (.invokestatic 34, 3) := by decide +kernel
theorem dX3_rows_4 : decode cX3_rows 4 = .ok (.aload_n 0, 1) := by decide +kernel
theorem dX3_rows_5 : decode cX3_rows 5 = .ok (.getfield 12, 3) := by decide +kernel
theorem dX3_rows_8 : decode cX3_rows 8 = .ok (.iload_n 1, 1) := by decide +kernel
theorem dX3_rows_9 : decode cX3_rows 9 = .ok (.invokevirtual 122, 3) := by decide +kernel
theorem dX3_rows_12 : decode cX3_rows 12 = .ok (.ireturn, 1) := by decide +kernel
set_option maxRecDepth 20000 in
theorem ggX3_wanted_X3_checkConcert : GoodIn wsX3_wanted wsX3_checkConcert := goodIn_ca (goodIn_r _ [5, 6, 7] (by decide +kernel) (by decide +kernel)) (goodIn_sub (fun _ h => List.mem_cons_of_mem _ (List.mem_append_right _ h)) (by decide +kernel))
set_option maxRecDepth 20000 in
theorem gX3_wanted_X3_checkConcert : GoodIn wsX3_wanted (va_wsS RX3 34 yX3_checkConcert wsX3_checkConcert) := goodIn_app (goodIn_of _ (by decide +kernel)) ggX3_wanted_X3_checkConcert
set_option maxRecDepth 20000 in
theorem ggX3_wanted_X1_rowsThatWant : GoodIn wsX3_wanted wsX1_rowsThatWant := goodIn_r _ [12, 13, 4, 14, 15, 16, 17, 11, 18, 19, 23, 24, 25, 26, 27, 28, 29, 30, 31, 32, 33, 34] (by decide +kernel) (by decide +kernel)
set_option maxRecDepth 20000 in
theorem gX3_wanted_X1_rowsThatWant : GoodIn wsX3_wanted (wsV RX3 126 RX1 yX1_rowsThatWant wsX1_rowsThatWant) := goodIn_app (goodIn_of _ (by decide +kernel)) ggX3_wanted_X1_rowsThatWant
theorem dX3_wanted_0 : decode cX3_wanted 0 = .ok (.iload_n 1, 1) := by decide +kernel
theorem dX3_wanted_1 : decode cX3_wanted 1 = .ok (.invokestatic 34, 3) := by decide +kernel
theorem dX3_wanted_4 : decode cX3_wanted 4 = .ok (.aload_n 0, 1) := by decide +kernel
theorem dX3_wanted_5 : decode cX3_wanted 5 = .ok (.getfield 12, 3) := by decide +kernel
theorem dX3_wanted_8 : decode cX3_wanted 8 = .ok (.iload_n 1, 1) := by decide +kernel
theorem dX3_wanted_9 : decode cX3_wanted 9 = .ok (.invokevirtual 126, 3) := by decide +kernel
theorem dX3_wanted_12 : decode cX3_wanted 12 = .ok (.ireturn, 1) := by decide +kernel
set_option maxRecDepth 20000 in
theorem ggX3_pass_X3_checkMinutes : GoodIn wsX3_pass wsX3_checkMinutes := goodIn_ca (goodIn_r _ [6, 7, 8] (by decide +kernel) (by decide +kernel)) (goodIn_sub (fun _ h => List.mem_cons_of_mem _ (List.mem_append_right _ h)) (by decide +kernel))
set_option maxRecDepth 20000 in
theorem gX3_pass_X3_checkMinutes : GoodIn wsX3_pass (va_wsS RX3 129 yX3_checkMinutes wsX3_checkMinutes) := goodIn_app (goodIn_of _ (by decide +kernel)) ggX3_pass_X3_checkMinutes
set_option maxRecDepth 20000 in
theorem ggX3_pass_X2_keep : GoodIn wsX3_pass wsX2_keep := goodIn_r _ [13, 14, 15, 16, 17, 18, 19, 20, 21, 22, 23, 24, 25, 26, 27, 28, 29, 30, 31, 32, 33, 34, 35, 36, 37, 69, 70, 71, 72, 73, 74, 75, 76, 77, 78, 79, 80, 81, 82, 83] (by decide +kernel) (by decide +kernel)
set_option maxRecDepth 20000 in
theorem gX3_pass_X2_keep : GoodIn wsX3_pass (wsV RX3 52 RX2 yX2_keep wsX2_keep) := goodIn_app (goodIn_of _ (by decide +kernel)) ggX3_pass_X2_keep
set_option maxRecDepth 20000 in
theorem ggX3_pass_X1_letPass : GoodIn wsX3_pass wsX1_letPass := goodIn_r _ [41, 36, 37, 42, 43, 44, 20, 45, 27, 46, 47, 48, 49, 35, 50, 51, 52, 53, 32, 31, 54, 55, 56, 57, 28, 58, 59, 60, 61, 22, 62, 63, 64, 65, 33, 72, 73, 74, 75, 76, 77, 78, 79, 80, 81, 82, 83] (by decide +kernel) (by decide +kernel)
set_option maxRecDepth 20000 in
theorem gX3_pass_X1_letPass : GoodIn wsX3_pass (wsV RX3 132 RX1 yX1_letPass wsX1_letPass) := goodIn_app (goodIn_of _ (by decide +kernel)) ggX3_pass_X1_letPass
theorem dX3_pass_0 : decode cX3_pass 0 = .ok (.iload_n 1, 1) := by decide +kernel
theorem dX3_pass_1 : decode cX3_pass 1 = .ok (.invokestatic 129, 3) := by decide +kernel
theorem dX3_pass_4 : decode cX3_pass 4 = .ok (.aload_n 0, 1) := by decide +kernel
theorem dX3_pass_5 : decode cX3_pass 5 = .ok (.getfield 19, 3) := by decide +kernel
theorem dX3_pass_8 : decode cX3_pass 8 = .ok (.aload_n 0, 1) := by decide +kernel
theorem dX3_pass_9 : decode cX3_pass 9 = .ok (.getfield 12, 3) := by decide +kernel
theorem dX3_pass_12 : decode cX3_pass 12 = .ok (.invokevirtual 52, 3) := by decide +kernel
theorem dX3_pass_15 : decode cX3_pass 15 = .ok (.aload_n 0, 1) := by decide +kernel
theorem dX3_pass_16 : decode cX3_pass 16 = .ok (.getfield 12, 3) := by decide +kernel
theorem dX3_pass_19 : decode cX3_pass 19 = .ok (.iload_n 1, 1) := by decide +kernel
theorem dX3_pass_20 : decode cX3_pass 20 = .ok (.invokevirtual 132, 3) := by decide +kernel
theorem dX3_pass_23 : decode cX3_pass 23 = .ok (.ireturn, 1) := by decide +kernel
set_option maxRecDepth 20000 in
theorem ggX3_play_X3_checkConcert : GoodIn wsX3_play wsX3_checkConcert := goodIn_ca (goodIn_r _ [6, 7, 8] (by decide +kernel) (by decide +kernel)) (goodIn_sub (fun _ h => List.mem_cons_of_mem _ (List.mem_append_right _ h)) (by decide +kernel))
set_option maxRecDepth 20000 in
theorem gX3_play_X3_checkConcert : GoodIn wsX3_play (va_wsS RX3 34 yX3_checkConcert wsX3_checkConcert) := goodIn_app (goodIn_of _ (by decide +kernel)) ggX3_play_X3_checkConcert
set_option maxRecDepth 20000 in
theorem ggX3_play_X2_keep : GoodIn wsX3_play wsX2_keep := goodIn_r _ [13, 14, 15, 16, 17, 18, 19, 20, 21, 22, 23, 24, 25, 26, 27, 28, 29, 30, 31, 32, 33, 34, 35, 36, 37, 66, 67, 68, 69, 70, 71, 72, 73, 74, 75, 76, 77, 78, 79, 80] (by decide +kernel) (by decide +kernel)
set_option maxRecDepth 20000 in
theorem gX3_play_X2_keep : GoodIn wsX3_play (wsV RX3 52 RX2 yX2_keep wsX2_keep) := goodIn_app (goodIn_of _ (by decide +kernel)) ggX3_play_X2_keep
set_option maxRecDepth 20000 in
theorem ggX3_play_X1_perform : GoodIn wsX3_play wsX1_perform := goodIn_r _ [41, 28, 42, 43, 44, 20, 45, 29, 27, 46, 5, 47, 48, 49, 50, 51, 52, 53, 54, 55, 22, 56, 57, 58, 59, 60, 61, 62, 69, 70, 71, 72, 73, 74, 75, 76, 77, 78, 79, 80] (by decide +kernel) (by decide +kernel)
set_option maxRecDepth 20000 in
theorem gX3_play_X1_perform : GoodIn wsX3_play (wsV RX3 135 RX1 yX1_perform wsX1_perform) := goodIn_app (goodIn_of _ (by decide +kernel)) ggX3_play_X1_perform
theorem dX3_play_0 : decode cX3_play 0 = .ok (.iload_n 1, 1) := by decide +kernel
theorem dX3_play_1 : decode cX3_play 1 = .ok (.invokestatic 34, 3) := by decide +kernel
theorem dX3_play_4 : decode cX3_play 4 = .ok (.aload_n 0, 1) := by decide +kernel
theorem dX3_play_5 : decode cX3_play 5 = .ok (.getfield 19, 3) := by decide +kernel
theorem dX3_play_8 : decode cX3_play 8 = .ok (.aload_n 0, 1) := by decide +kernel
theorem dX3_play_9 : decode cX3_play 9 = .ok (.getfield 12, 3) := by decide +kernel
theorem dX3_play_12 : decode cX3_play 12 = .ok (.invokevirtual 52, 3) := by decide +kernel
theorem dX3_play_15 : decode cX3_play 15 = .ok (.aload_n 0, 1) := by decide +kernel
theorem dX3_play_16 : decode cX3_play 16 = .ok (.getfield 12, 3) := by decide +kernel
theorem dX3_play_19 : decode cX3_play 19 = .ok (.iload_n 1, 1) := by decide +kernel
theorem dX3_play_20 : decode cX3_play 20 = .ok (.invokevirtual 135, 3) := by decide +kernel
theorem dX3_play_23 : decode cX3_play 23 = .ok (.ireturn, 1) := by decide +kernel
theorem dX3_minutes_0 : decode cX3_minutes 0 = .ok (.aload_n 0, 1) := by decide +kernel
theorem dX3_minutes_1 : decode cX3_minutes 1 = .ok (.getfield 12, 3) := by decide +kernel
theorem dX3_minutes_4 : decode cX3_minutes 4 = .ok (.getfield 138, 3) := by decide +kernel
theorem dX3_minutes_7 : decode cX3_minutes 7 = .ok (.ireturn, 1) := by decide +kernel
theorem dX3_sinceQuestion_0 : decode cX3_sinceQuestion 0 = .ok (.aload_n 0, 1) := by decide +kernel
theorem dX3_sinceQuestion_1 : decode cX3_sinceQuestion 1 = .ok (.getfield 12, 3) := by decide +kernel
theorem dX3_sinceQuestion_4 : decode cX3_sinceQuestion 4 = .ok (.getfield 141, 3) := by decide +kernel
theorem dX3_sinceQuestion_7 : decode cX3_sinceQuestion 7 = .ok (.ireturn, 1) := by decide +kernel
theorem dX3_count_0 : decode cX3_count 0 = .ok (.iload_n 1, 1) := by decide +kernel
theorem dX3_count_1 : decode cX3_count 1 = .ok (.ifCond .lt 9, 3) := by decide +kernel
theorem dX3_count_4 : decode cX3_count 4 = .ok (.iload_n 1, 1) := by decide +kernel
theorem dX3_count_5 : decode cX3_count 5 = .ok (.bipush 6, 2) := by decide +kernel
theorem dX3_count_7 : decode cX3_count 7 = .ok (.if_icmp .lt 13, 3) := by decide +kernel
theorem dX3_count_10 : decode cX3_count 10 = .ok (.new 101, 3) := by decide +kernel
theorem dX3_count_13 : decode cX3_count 13 = .ok (.dup, 1) := by decide +kernel
theorem dX3_count_14 : decode cX3_count 14 = .ok (.ldc 144, 2) := by decide +kernel
theorem dX3_count_16 : decode cX3_count 16 = .ok (.invokespecial 105, 3) := by decide +kernel
theorem dX3_count_19 : decode cX3_count 19 = .ok (.athrow, 1) := by decide +kernel
theorem dX3_count_20 : decode cX3_count 20 = .ok (.aload_n 0, 1) := by decide +kernel
theorem dX3_count_21 : decode cX3_count 21 = .ok (.getfield 12, 3) := by decide +kernel
theorem dX3_count_24 : decode cX3_count 24 = .ok (.getfield 146, 3) := by decide +kernel
theorem dX3_count_27 : decode cX3_count 27 = .ok (.iload_n 1, 1) := by decide +kernel
theorem dX3_count_28 : decode cX3_count 28 = .ok (.iaload, 1) := by decide +kernel
theorem dX3_count_29 : decode cX3_count 29 = .ok (.ireturn, 1) := by decide +kernel
theorem dX3_usefulShare_0 : decode cX3_usefulShare 0 = .ok (.aload_n 0, 1) := by decide +kernel
theorem dX3_usefulShare_1 : decode cX3_usefulShare 1 = .ok (.getfield 12, 3) := by decide +kernel
theorem dX3_usefulShare_4 : decode cX3_usefulShare 4 = .ok (.getfield 146, 3) := by decide +kernel
theorem dX3_usefulShare_7 : decode cX3_usefulShare 7 = .ok (.iconst 0, 1) := by decide +kernel
theorem dX3_usefulShare_8 : decode cX3_usefulShare 8 = .ok (.iaload, 1) := by decide +kernel
theorem dX3_usefulShare_9 : decode cX3_usefulShare 9 = .ok (.istore_n 1, 1) := by decide +kernel
theorem dX3_usefulShare_10 : decode cX3_usefulShare 10 = .ok (.iload_n 1, 1) := by decide +kernel
theorem dX3_usefulShare_11 : decode cX3_usefulShare 11 = .ok (.aload_n 0, 1) := by decide +kernel
theorem dX3_usefulShare_12 : decode cX3_usefulShare 12 = .ok (.getfield 12, 3) := by decide +kernel
theorem dX3_usefulShare_15 : decode cX3_usefulShare 15 = .ok (.getfield 146, 3) := by decide +kernel
theorem dX3_usefulShare_18 : decode cX3_usefulShare 18 = .ok (.iconst 1, 1) := by decide +kernel
theorem dX3_usefulShare_19 : decode cX3_usefulShare 19 = .ok (.iaload, 1) := by decide +kernel
theorem dX3_usefulShare_20 : decode cX3_usefulShare 20 = .ok (.iadd, 1) := by decide +kernel
theorem dX3_usefulShare_21 : decode cX3_usefulShare 21 = .ok (.istore_n 2, 1) := by decide +kernel
theorem dX3_usefulShare_22 : decode cX3_usefulShare 22 = .ok (.iload_n 2, 1) := by decide +kernel
theorem dX3_usefulShare_23 : decode cX3_usefulShare 23 = .ok (.ifCond .ne 5, 3) := by decide +kernel
theorem dX3_usefulShare_26 : decode cX3_usefulShare 26 = .ok (.dconst 1, 1) := by decide +kernel
theorem dX3_usefulShare_27 : decode cX3_usefulShare 27 = .ok (.dreturn, 1) := by decide +kernel
theorem dX3_usefulShare_28 : decode cX3_usefulShare 28 = .ok (.iload_n 1, 1) := by decide +kernel
theorem dX3_usefulShare_29 : decode cX3_usefulShare 29 = .ok (.i2d, 1) := by decide +kernel
theorem dX3_usefulShare_30 : decode cX3_usefulShare 30 = .ok (.iload_n 2, 1) := by decide +kernel
theorem dX3_usefulShare_31 : decode cX3_usefulShare 31 = .ok (.i2d, 1) := by decide +kernel
theorem dX3_usefulShare_32 : decode cX3_usefulShare 32 = .ok (.ddiv, 1) := by decide +kernel
theorem dX3_usefulShare_33 : decode cX3_usefulShare 33 = .ok (.dreturn, 1) := by decide +kernel
set_option maxRecDepth 20000 in
theorem ggX3_minutesToFade_X3_checkRow : GoodIn wsX3_minutesToFade wsX3_checkRow := goodIn_ca (goodIn_r _ [5, 6, 7] (by decide +kernel) (by decide +kernel)) (goodIn_sub (fun _ h => List.mem_cons_of_mem _ (List.mem_append_right _ h)) (by decide +kernel))
set_option maxRecDepth 20000 in
theorem gX3_minutesToFade_X3_checkRow : GoodIn wsX3_minutesToFade (va_wsS RX3 30 yX3_checkRow wsX3_checkRow) := goodIn_app (goodIn_of _ (by decide +kernel)) ggX3_minutesToFade_X3_checkRow
set_option maxRecDepth 20000 in
theorem ggX3_minutesToFade_X3_checkConcert : GoodIn wsX3_minutesToFade wsX3_checkConcert := goodIn_ca (goodIn_r _ [10, 6, 7] (by decide +kernel) (by decide +kernel)) (goodIn_sub (fun _ h => List.mem_cons_of_mem _ (List.mem_append_right _ h)) (by decide +kernel))
set_option maxRecDepth 20000 in
theorem gX3_minutesToFade_X3_checkConcert : GoodIn wsX3_minutesToFade (va_wsS RX3 34 yX3_checkConcert wsX3_checkConcert) := goodIn_app (goodIn_of _ (by decide +kernel)) ggX3_minutesToFade_X3_checkConcert
set_option maxRecDepth 20000 in
theorem ggX3_minutesToFade_X3_placeOf : GoodIn wsX3_minutesToFade wsX3_placeOf := goodIn_r _ [13] (by decide +kernel) (by decide +kernel)
set_option maxRecDepth 20000 in
theorem gX3_minutesToFade_X3_placeOf : GoodIn wsX3_minutesToFade (va_wsS RX3 37 yX3_placeOf wsX3_placeOf) := goodIn_app (goodIn_of _ (by decide +kernel)) ggX3_minutesToFade_X3_placeOf
set_option maxRecDepth 20000 in
theorem ggX3_minutesToFade_X1_fadesIn : GoodIn wsX3_minutesToFade wsX1_fadesIn := goodIn_r _ [18, 19, 20, 21, 22, 23, 17, 24, 25, 26, 27, 28, 29, 30, 31, 32, 33, 34, 35, 36, 37, 38, 39, 40, 41, 42, 43, 44, 45, 49, 50, 51, 52, 53, 54, 55, 56, 57, 58, 59, 60] (by decide +kernel) (by decide +kernel)
set_option maxRecDepth 20000 in
theorem gX3_minutesToFade_X1_fadesIn : GoodIn wsX3_minutesToFade (wsV RX3 149 RX1 yX1_fadesIn wsX1_fadesIn) := goodIn_app (goodIn_of _ (by decide +kernel)) ggX3_minutesToFade_X1_fadesIn
theorem dX3_minutesToFade_0 : decode cX3_minutesToFade 0 = .ok (.iload_n 1, 1) := by decide +kernel
theorem dX3_minutesToFade_1 : decode cX3_minutesToFade 1 = .ok (.invokestatic 30, 3) := by decide +kernel
theorem dX3_minutesToFade_4 : decode cX3_minutesToFade 4 = .ok (.iload_n 2, 1) := by decide +kernel
theorem dX3_minutesToFade_5 : decode cX3_minutesToFade 5 = .ok (.invokestatic 34, 3) := by decide +kernel
theorem dX3_minutesToFade_8 : decode cX3_minutesToFade 8 = .ok (.aload_n 0, 1) := by decide +kernel
theorem dX3_minutesToFade_9 : decode cX3_minutesToFade 9 = .ok (.getfield 12, 3) := by decide +kernel
theorem dX3_minutesToFade_12 : decode cX3_minutesToFade 12 = .ok (.iload_n 1, 1) := by decide +kernel
theorem dX3_minutesToFade_13 : decode cX3_minutesToFade 13 = .ok (.iload_n 2, 1) := by decide +kernel
theorem dX3_minutesToFade_14 : decode cX3_minutesToFade 14 = .ok (.invokestatic 37, 3) := by decide +kernel
theorem dX3_minutesToFade_17 : decode cX3_minutesToFade 17 = .ok (.invokevirtual 149, 3) := by decide +kernel
theorem dX3_minutesToFade_20 : decode cX3_minutesToFade 20 = .ok (.ireturn, 1) := by decide +kernel
set_option maxRecDepth 20000 in
theorem ggX3_minutesToQuestion_X1_asksIn : GoodIn wsX3_minutesToQuestion wsX1_asksIn := goodIn_r _ [6, 7, 8, 9, 10, 11, 12, 13, 14, 5, 15, 16, 17, 18, 19, 20, 21, 22, 26, 27, 28, 29, 30, 31, 32, 33, 34, 35, 36, 37] (by decide +kernel) (by decide +kernel)
set_option maxRecDepth 20000 in
theorem gX3_minutesToQuestion_X1_asksIn : GoodIn wsX3_minutesToQuestion (wsV RX3 152 RX1 yX1_asksIn wsX1_asksIn) := goodIn_app (goodIn_of _ (by decide +kernel)) ggX3_minutesToQuestion_X1_asksIn
theorem dX3_minutesToQuestion_0 : decode cX3_minutesToQuestion 0 = .ok (.aload_n 0, 1) := by decide +kernel
theorem dX3_minutesToQuestion_1 : decode cX3_minutesToQuestion 1 = .ok (.getfield 12, 3) := by decide +kernel
theorem dX3_minutesToQuestion_4 : decode cX3_minutesToQuestion 4 = .ok (.invokevirtual 152, 3) := by decide +kernel
theorem dX3_minutesToQuestion_7 : decode cX3_minutesToQuestion 7 = .ok (.ireturn, 1) := by decide +kernel
set_option maxRecDepth 20000 in
theorem ggX3_disturbedAfter_X3_checkConcert : GoodIn wsX3_disturbedAfter wsX3_checkConcert := goodIn_ca (goodIn_r _ [5, 6, 7] (by decide +kernel) (by decide +kernel)) (goodIn_sub (fun _ h => List.mem_cons_of_mem _ (List.mem_append_left _ (List.mem_append_right _ h))) (by decide +kernel))
set_option maxRecDepth 20000 in
theorem gX3_disturbedAfter_X3_checkConcert : GoodIn wsX3_disturbedAfter (va_wsS RX3 34 yX3_checkConcert wsX3_checkConcert) := goodIn_app (goodIn_of _ (by decide +kernel)) ggX3_disturbedAfter_X3_checkConcert
set_option maxRecDepth 20000 in
theorem ggX3_disturbedAfter_X3_checkMinutes : GoodIn wsX3_disturbedAfter wsX3_checkMinutes := goodIn_ca (goodIn_r _ [10, 11, 12] (by decide +kernel) (by decide +kernel)) (goodIn_sub (fun _ h => List.mem_cons_of_mem _ (List.mem_append_right _ h)) (by decide +kernel))
set_option maxRecDepth 20000 in
theorem gX3_disturbedAfter_X3_checkMinutes : GoodIn wsX3_disturbedAfter (va_wsS RX3 129 yX3_checkMinutes wsX3_checkMinutes) := goodIn_app (goodIn_of _ (by decide +kernel)) ggX3_disturbedAfter_X3_checkMinutes
set_option maxRecDepth 20000 in
theorem ggX3_disturbedAfter_X1_disturbedIn : GoodIn wsX3_disturbedAfter wsX1_disturbedIn := goodIn_r _ [17, 18, 19, 4, 20, 21, 22, 23, 16, 24, 25, 26, 27, 28, 29, 30, 34, 35, 36, 37, 38, 39, 40, 41, 42, 43, 44, 45] (by decide +kernel) (by decide +kernel)
set_option maxRecDepth 20000 in
theorem gX3_disturbedAfter_X1_disturbedIn : GoodIn wsX3_disturbedAfter (wsV RX3 155 RX1 yX1_disturbedIn wsX1_disturbedIn) := goodIn_app (goodIn_of _ (by decide +kernel)) ggX3_disturbedAfter_X1_disturbedIn
theorem dX3_disturbedAfter_0 : decode cX3_disturbedAfter 0 = .ok (.iload_n 1, 1) := by decide +kernel
theorem dX3_disturbedAfter_1 : decode cX3_disturbedAfter 1 = .ok (.invokestatic 34, 3) := by decide +kernel
theorem dX3_disturbedAfter_4 : decode cX3_disturbedAfter 4 = .ok (.iload_n 2, 1) := by decide +kernel
theorem dX3_disturbedAfter_5 : decode cX3_disturbedAfter 5 = .ok (.invokestatic 129, 3) := by decide +kernel
theorem dX3_disturbedAfter_8 : decode cX3_disturbedAfter 8 = .ok (.aload_n 0, 1) := by decide +kernel
theorem dX3_disturbedAfter_9 : decode cX3_disturbedAfter 9 = .ok (.getfield 12, 3) := by decide +kernel
theorem dX3_disturbedAfter_12 : decode cX3_disturbedAfter 12 = .ok (.iload_n 1, 1) := by decide +kernel
theorem dX3_disturbedAfter_13 : decode cX3_disturbedAfter 13 = .ok (.iload_n 2, 1) := by decide +kernel
theorem dX3_disturbedAfter_14 : decode cX3_disturbedAfter 14 = .ok (.invokevirtual 155, 3) := by decide +kernel
theorem dX3_disturbedAfter_17 : decode cX3_disturbedAfter 17 = .ok (.ireturn, 1) := by decide +kernel
set_option maxRecDepth 20000 in
theorem ggX3_append_X0_add : GoodIn wsX3_append wsX0_add := goodIn_r _ [11, 12, 13, 17, 18] (by decide +kernel) (by decide +kernel)
set_option maxRecDepth 20000 in
theorem gX3_append_X0_add : GoodIn wsX3_append (wsV RX3 165 RX0 yX0_add wsX0_add) := goodIn_app (goodIn_of _ (by decide +kernel)) ggX3_append_X0_add
theorem dX3_append_0 : decode cX3_append 0 = .ok (.iload_n 1, 1) := by decide +kernel
theorem dX3_append_1 : decode cX3_append 1 = .ok (.bipush 33, 2) := by decide +kernel
theorem dX3_append_3 : decode cX3_append 3 = .ok (.if_icmp .lt 9, 3) := by decide +kernel
theorem dX3_append_6 : decode cX3_append 6 = .ok (.iload_n 1, 1) := by decide +kernel
theorem dX3_append_7 : decode cX3_append 7 = .ok (.bipush 126, 2) := by decide +kernel
theorem dX3_append_9 : decode cX3_append 9 = .ok (.if_icmp .le 13, 3) := by decide +kernel
theorem dX3_append_12 : decode cX3_append 12 = .ok (.new 82, 3) := by decide +kernel
theorem dX3_append_15 : decode cX3_append 15 = .ok (.dup, 1) := by decide +kernel
theorem dX3_append_16 : decode cX3_append 16 = .ok (.ldc 158, 2) := by decide +kernel
theorem dX3_append_18 : decode cX3_append 18 = .ok (.invokespecial 86, 3) := by decide +kernel
theorem dX3_append_21 : decode cX3_append 21 = .ok (.athrow, 1) := by decide +kernel
theorem dX3_append_22 : decode cX3_append 22 = .ok (.aload_n 0, 1) := by decide +kernel
theorem dX3_append_23 : decode cX3_append 23 = .ok (.getfield 26, 3) := by decide +kernel
theorem dX3_append_26 : decode cX3_append 26 = .ok (.getfield 160, 3) := by decide +kernel
theorem dX3_append_29 : decode cX3_append 29 = .ok (.bipush 60, 2) := by decide +kernel
theorem dX3_append_31 : decode cX3_append 31 = .ok (.if_icmp .lt 13, 3) := by decide +kernel
theorem dX3_append_34 : decode cX3_append 34 = .ok (.new 45, 3) := by decide +kernel
theorem dX3_append_37 : decode cX3_append 37 = .ok (.dup, 1) := by decide +kernel
theorem dX3_append_38 : decode cX3_append 38 = .ok (.ldc 163, 2) := by decide +kernel
theorem dX3_append_40 : decode cX3_append 40 = .ok (.invokespecial 49, 3) := by decide +kernel
theorem dX3_append_43 : decode cX3_append 43 = .ok (.athrow, 1) := by decide +kernel
theorem dX3_append_44 : decode cX3_append 44 = .ok (.aload_n 0, 1) := by decide +kernel
theorem dX3_append_45 : decode cX3_append 45 = .ok (.getfield 26, 3) := by decide +kernel
theorem dX3_append_48 : decode cX3_append 48 = .ok (.iload_n 1, 1) := by decide +kernel
theorem dX3_append_49 : decode cX3_append 49 = .ok (.i2c, 1) := by decide +kernel
theorem dX3_append_50 : decode cX3_append 50 = .ok (.invokevirtual 165, 3) := by decide +kernel
theorem dX3_append_53 : decode cX3_append 53 = .ok (.aload_n 0, 1) := by decide +kernel
theorem dX3_append_54 : decode cX3_append 54 = .ok (.getfield 26, 3) := by decide +kernel
theorem dX3_append_57 : decode cX3_append 57 = .ok (.getfield 160, 3) := by decide +kernel
theorem dX3_append_60 : decode cX3_append 60 = .ok (.ireturn, 1) := by decide +kernel
theorem dX3_clearText_0 : decode cX3_clearText 0 = .ok (.aload_n 0, 1) := by decide +kernel
theorem dX3_clearText_1 : decode cX3_clearText 1 = .ok (.getfield 26, 3) := by decide +kernel
theorem dX3_clearText_4 : decode cX3_clearText 4 = .ok (.getfield 160, 3) := by decide +kernel
theorem dX3_clearText_7 : decode cX3_clearText 7 = .ok (.istore_n 1, 1) := by decide +kernel
theorem dX3_clearText_8 : decode cX3_clearText 8 = .ok (.aload_n 0, 1) := by decide +kernel
theorem dX3_clearText_9 : decode cX3_clearText 9 = .ok (.getfield 26, 3) := by decide +kernel
theorem dX3_clearText_12 : decode cX3_clearText 12 = .ok (.iconst 0, 1) := by decide +kernel
theorem dX3_clearText_13 : decode cX3_clearText 13 = .ok (.putfield 160, 3) := by decide +kernel
theorem dX3_clearText_16 : decode cX3_clearText 16 = .ok (.iload_n 1, 1) := by decide +kernel
theorem dX3_clearText_17 : decode cX3_clearText 17 = .ok (.ireturn, 1) := by decide +kernel
set_option maxRecDepth 20000 in
theorem ggX3_firstError_X0_firstWrongSign : GoodIn wsX3_firstError wsX0_firstWrongSign := goodIn_r _ [6, 7, 8, 9, 10, 5, 11, 12, 13, 14, 15, 16, 17, 18, 19, 20, 21, 22, 23, 24, 25, 26, 27, 31, 32] (by decide +kernel) (by decide +kernel)
set_option maxRecDepth 20000 in
theorem gX3_firstError_X0_firstWrongSign : GoodIn wsX3_firstError (wsV RX3 169 RX0 yX0_firstWrongSign wsX0_firstWrongSign) := goodIn_app (goodIn_of _ (by decide +kernel)) ggX3_firstError_X0_firstWrongSign
theorem dX3_firstError_0 : decode cX3_firstError 0 = .ok (.aload_n 0, 1) := by decide +kernel
theorem dX3_firstError_1 : decode cX3_firstError 1 = .ok (.getfield 26, 3) := by decide +kernel
theorem dX3_firstError_4 : decode cX3_firstError 4 = .ok (.invokevirtual 169, 3) := by decide +kernel
theorem dX3_firstError_7 : decode cX3_firstError 7 = .ok (.ireturn, 1) := by decide +kernel
set_option maxRecDepth 20000 in
theorem ggX3_run_X0_isComplete : GoodIn wsX3_run wsX0_isComplete := goodIn_r _ [11, 12, 13, 14, 15, 10, 16, 17, 18, 19, 20, 21, 22, 23, 24, 25, 26, 27, 28, 29, 30, 31, 32, 171, 172] (by decide +kernel) (by decide +kernel)
set_option maxRecDepth 20000 in
theorem gX3_run_X0_isComplete : GoodIn wsX3_run (wsV RX3 172 RX0 yX0_isComplete wsX0_isComplete) := goodIn_app (goodIn_of _ (by decide +kernel)) ggX3_run_X0_isComplete
set_option maxRecDepth 20000 in
theorem ggX3_run_X2_keep : GoodIn wsX3_run wsX2_keep := goodIn_r _ [37, 38, 39, 40, 41, 42, 43, 44, 45, 46, 47, 48, 49, 50, 51, 52, 53, 54, 55, 56, 57, 58, 59, 60, 61, 173, 174, 175, 176, 177, 178, 179, 180, 181, 182, 183, 184, 185, 186, 187] (by decide +kernel) (by decide +kernel)
set_option maxRecDepth 20000 in
theorem gX3_run_X2_keep : GoodIn wsX3_run (wsV RX3 52 RX2 yX2_keep wsX2_keep) := goodIn_app (goodIn_of _ (by decide +kernel)) ggX3_run_X2_keep
set_option maxRecDepth 20000 in
theorem ggX3_run_X3_doEvents : GoodIn wsX3_run wsX3_doEvents := goodIn_r _ [66, 3, 6, 67, 68, 69, 10, 70, 13, 14, 15, 16, 12, 17, 71, 72, 73, 65, 74, 5, 75, 76, 77, 78, 79, 80, 81, 82, 83, 84, 85, 86, 87, 88, 89, 44, 90, 46, 91, 92, 93, 94, 95, 96, 97, 98, 51, 57, 52, 99, 100, 101, 102, 103, 104, 105, 106, 107, 108, 109, 110, 111, 112, 113, 114, 54, 58, 115, 116, 117, 118, 119, 120, 121, 122, 123, 124, 125, 126, 127, 53, 128, 129, 130, 131, 132, 133, 134, 135, 136, 137, 138, 139, 140, 141, 142, 143, 144, 145, 146, 147, 60, 61, 148, 149, 150, 151, 152, 153, 154, 155, 59, 156, 157, 158, 159, 56, 55, 160, 161, 162, 163, 164, 165, 166, 167, 168, 169, 170, 171, 172, 176, 177, 178, 179, 180, 181, 182, 183, 184, 185, 186, 187] (by decide +kernel) (by decide +kernel)
set_option maxRecDepth 20000 in
theorem gX3_run_X3_doEvents : GoodIn wsX3_run (wsV RX3 178 RX3 yX3_doEvents wsX3_doEvents) := goodIn_app (goodIn_of _ (by decide +kernel)) ggX3_run_X3_doEvents
theorem dX3_run_0 : decode cX3_run 0 = .ok (.aload_n 0, 1) := by decide +kernel
theorem dX3_run_1 : decode cX3_run 1 = .ok (.getfield 26, 3) := by decide +kernel
theorem dX3_run_4 : decode cX3_run 4 = .ok (.invokevirtual 172, 3) := by decide +kernel
theorem dX3_run_7 : decode cX3_run 7 = .ok (.ifCond .ne 13, 3) := by decide +kernel
theorem dX3_run_10 : decode cX3_run 10 = .ok (.new 82, 3) := by decide +kernel
theorem dX3_run_13 : decode cX3_run 13 = .ok (.dup, 1) := by decide +kernel
theorem dX3_run_14 : decode cX3_run 14 = .ok (.ldc 176, 2) := by decide +kernel
theorem dX3_run_16 : decode cX3_run 16 = .ok (.invokespecial 86, 3) := by decide +kernel
theorem dX3_run_19 : decode cX3_run 19 = .ok (.athrow, 1) := by decide +kernel
theorem dX3_run_20 : decode cX3_run 20 = .ok (.aload_n 0, 1) := by decide +kernel
theorem dX3_run_21 : decode cX3_run 21 = .ok (.getfield 19, 3) := by decide +kernel
theorem dX3_run_24 : decode cX3_run 24 = .ok (.aload_n 0, 1) := by decide +kernel
theorem dX3_run_25 : decode cX3_run 25 = .ok (.getfield 12, 3) := by decide +kernel
theorem dX3_run_28 : decode cX3_run 28 = .ok (.invokevirtual 52, 3) := by decide +kernel
theorem dX3_run_31 : decode cX3_run 31 = .ok (.aload_n 0, 1) := by decide +kernel
theorem dX3_run_32 : decode cX3_run 32 = .ok (.invokevirtual 178, 3) := by decide +kernel
theorem dX3_run_35 : decode cX3_run 35 = .ok (.istore_n 1, 1) := by decide +kernel
theorem dX3_run_36 : decode cX3_run 36 = .ok (.aload_n 0, 1) := by decide +kernel
theorem dX3_run_37 : decode cX3_run 37 = .ok (.getfield 26, 3) := by decide +kernel
theorem dX3_run_40 : decode cX3_run 40 = .ok (.iconst 0, 1) := by decide +kernel
theorem dX3_run_41 : decode cX3_run 41 = .ok (.putfield 160, 3) := by decide +kernel
theorem dX3_run_44 : decode cX3_run 44 = .ok (.iload_n 1, 1) := by decide +kernel
theorem dX3_run_45 : decode cX3_run 45 = .ok (.ireturn, 1) := by decide +kernel
set_option maxRecDepth 20000 in
theorem ggX3_undo_X2_takeBack : GoodIn wsX3_undo wsX2_takeBack := goodIn_r _ [10, 11, 12, 13, 14, 15, 16, 17, 18, 19, 20, 21, 22, 23, 24, 25, 26, 27, 28, 29, 30, 31, 32, 33, 34, 38, 39, 40, 41, 42, 43, 44, 45, 46, 47, 48, 49, 50, 51, 52] (by decide +kernel) (by decide +kernel)
set_option maxRecDepth 20000 in
theorem gX3_undo_X2_takeBack : GoodIn wsX3_undo (wsV RX3 186 RX2 yX2_takeBack wsX2_takeBack) := goodIn_app (goodIn_of _ (by decide +kernel)) ggX3_undo_X2_takeBack
theorem dX3_undo_0 : decode cX3_undo 0 = .ok (.aload_n 0, 1) := by decide +kernel
theorem dX3_undo_1 : decode cX3_undo 1 = .ok (.getfield 19, 3) := by decide +kernel
theorem dX3_undo_4 : decode cX3_undo 4 = .ok (.getfield 181, 3) := by decide +kernel
theorem dX3_undo_7 : decode cX3_undo 7 = .ok (.ifCond .ne 13, 3) := by decide +kernel
theorem dX3_undo_10 : decode cX3_undo 10 = .ok (.new 45, 3) := by decide +kernel
theorem dX3_undo_13 : decode cX3_undo 13 = .ok (.dup, 1) := by decide +kernel
theorem dX3_undo_14 : decode cX3_undo 14 = .ok (.ldc 184, 2) := by decide +kernel
theorem dX3_undo_16 : decode cX3_undo 16 = .ok (.invokespecial 49, 3) := by decide +kernel
theorem dX3_undo_19 : decode cX3_undo 19 = .ok (.athrow, 1) := by decide +kernel
theorem dX3_undo_20 : decode cX3_undo 20 = .ok (.aload_n 0, 1) := by decide +kernel
theorem dX3_undo_21 : decode cX3_undo 21 = .ok (.getfield 19, 3) := by decide +kernel
theorem dX3_undo_24 : decode cX3_undo 24 = .ok (.aload_n 0, 1) := by decide +kernel
theorem dX3_undo_25 : decode cX3_undo 25 = .ok (.getfield 12, 3) := by decide +kernel
theorem dX3_undo_28 : decode cX3_undo 28 = .ok (.invokevirtual 186, 3) := by decide +kernel
theorem dX3_undo_31 : decode cX3_undo 31 = .ok (.aload_n 0, 1) := by decide +kernel
theorem dX3_undo_32 : decode cX3_undo 32 = .ok (.getfield 19, 3) := by decide +kernel
theorem dX3_undo_35 : decode cX3_undo 35 = .ok (.getfield 181, 3) := by decide +kernel
theorem dX3_undo_38 : decode cX3_undo 38 = .ok (.ireturn, 1) := by decide +kernel
theorem dX3_savedStates_0 : decode cX3_savedStates 0 = .ok (.aload_n 0, 1) := by decide +kernel
theorem dX3_savedStates_1 : decode cX3_savedStates 1 = .ok (.getfield 19, 3) := by decide +kernel
theorem dX3_savedStates_4 : decode cX3_savedStates 4 = .ok (.getfield 181, 3) := by decide +kernel
theorem dX3_savedStates_7 : decode cX3_savedStates 7 = .ok (.ireturn, 1) := by decide +kernel
set_option maxRecDepth 20000 in
theorem ggX3_digest_X3_mix : GoodIn wsX3_digest wsX3_mix := goodIn_r _ [9, 10] (by decide +kernel) (by decide +kernel)
set_option maxRecDepth 20000 in
theorem gX3_digest_X3_mix : GoodIn wsX3_digest (va_wsS RX3 191 yX3_mix wsX3_mix) := goodIn_app (goodIn_of _ (by decide +kernel)) ggX3_digest_X3_mix
set_option maxRecDepth 20000 in
theorem ggX3_digest_X1_chiefAsker : GoodIn wsX3_digest wsX1_chiefAsker := goodIn_r _ [15, 16, 17, 74, 75, 76, 77, 78, 79, 80, 81, 82, 83, 84, 85] (by decide +kernel) (by decide +kernel)
set_option maxRecDepth 20000 in
theorem gX3_digest_X1_chiefAsker : GoodIn wsX3_digest (wsV RX3 112 RX1 yX1_chiefAsker wsX1_chiefAsker) := goodIn_app (goodIn_of _ (by decide +kernel)) ggX3_digest_X1_chiefAsker
set_option maxRecDepth 20000 in
theorem ggX3_digest_X1_entriesInAll : GoodIn wsX3_digest wsX1_entriesInAll := goodIn_r _ [21, 22, 74, 75, 76, 77, 78, 79, 80, 81, 82, 83, 84, 85] (by decide +kernel) (by decide +kernel)
set_option maxRecDepth 20000 in
theorem gX3_digest_X1_entriesInAll : GoodIn wsX3_digest (wsV RX3 119 RX1 yX1_entriesInAll wsX1_entriesInAll) := goodIn_app (goodIn_of _ (by decide +kernel)) ggX3_digest_X1_entriesInAll
set_option maxRecDepth 20000 in
theorem ggX3_digest_X1_asksIn : GoodIn wsX3_digest wsX1_asksIn := goodIn_r _ [26, 27, 28, 29, 30, 31, 32, 33, 34, 14, 35, 36, 37, 12, 13, 15, 16, 17, 74, 75, 76, 77, 78, 79, 80, 81, 82, 83, 84, 85] (by decide +kernel) (by decide +kernel)
set_option maxRecDepth 20000 in
theorem gX3_digest_X1_asksIn : GoodIn wsX3_digest (wsV RX3 152 RX1 yX1_asksIn wsX1_asksIn) := goodIn_app (goodIn_of _ (by decide +kernel)) ggX3_digest_X1_asksIn
set_option maxRecDepth 20000 in
theorem ggX3_digest_X1_rowsThatGet : GoodIn wsX3_digest wsX1_rowsThatGet := goodIn_r _ [41, 42, 22, 43, 8, 44, 74, 75, 76, 77, 78, 79, 80, 81, 82, 83, 84, 85] (by decide +kernel) (by decide +kernel)
set_option maxRecDepth 20000 in
theorem gX3_digest_X1_rowsThatGet : GoodIn wsX3_digest (wsV RX3 122 RX1 yX1_rowsThatGet wsX1_rowsThatGet) := goodIn_app (goodIn_of _ (by decide +kernel)) ggX3_digest_X1_rowsThatGet
set_option maxRecDepth 20000 in
theorem ggX3_digest_X1_rowsThatWant : GoodIn wsX3_digest wsX1_rowsThatWant := goodIn_r _ [48, 43, 8, 44, 49, 50, 51, 14, 52, 53, 74, 75, 76, 77, 78, 79, 80, 81, 82, 83, 84, 85] (by decide +kernel) (by decide +kernel)
set_option maxRecDepth 20000 in
theorem gX3_digest_X1_rowsThatWant : GoodIn wsX3_digest (wsV RX3 126 RX1 yX1_rowsThatWant wsX1_rowsThatWant) := goodIn_app (goodIn_of _ (by decide +kernel)) ggX3_digest_X1_rowsThatWant
set_option maxRecDepth 20000 in
theorem ggX3_digest_X3_mixRow : GoodIn wsX3_digest wsX3_mixRow := goodIn_r _ [57, 2, 58, 59, 60, 61, 62, 14, 63, 42, 6, 7, 8, 9, 10, 64, 43, 44, 65, 66, 67, 68, 22, 69, 70, 24, 25, 26, 27, 28, 29, 30, 31, 32, 33, 34, 35, 36, 37, 12, 13, 15, 16, 17, 49, 50, 51, 52, 53, 71, 72, 73, 74, 75, 76, 77, 78, 79, 80, 81, 82, 83, 84, 85] (by decide +kernel) (by decide +kernel)
set_option maxRecDepth 20000 in
theorem gX3_digest_X3_mixRow : GoodIn wsX3_digest (wsV RX3 195 RX3 yX3_mixRow wsX3_mixRow) := goodIn_app (goodIn_of _ (by decide +kernel)) ggX3_digest_X3_mixRow
theorem dX3_digest_0 : decode cX3_digest 0 = .ok (.ldc2_w 189, 3) := by decide +kernel
theorem dX3_digest_3 : decode cX3_digest 3 = .ok (.lstore_n 1, 1) := by decide +kernel
theorem dX3_digest_4 : decode cX3_digest 4 = .ok (.lload_n 1, 1) := by decide +kernel
theorem dX3_digest_5 : decode cX3_digest 5 = .ok (.aload_n 0, 1) := by decide +kernel
theorem dX3_digest_6 : decode cX3_digest 6 = .ok (.getfield 12, 3) := by decide +kernel
theorem dX3_digest_9 : decode cX3_digest 9 = .ok (.getfield 138, 3) := by decide +kernel
theorem dX3_digest_12 : decode cX3_digest 12 = .ok (.invokestatic 191, 3) := by decide +kernel
theorem dX3_digest_15 : decode cX3_digest 15 = .ok (.lstore_n 1, 1) := by decide +kernel
theorem dX3_digest_16 : decode cX3_digest 16 = .ok (.lload_n 1, 1) := by decide +kernel
theorem dX3_digest_17 : decode cX3_digest 17 = .ok (.aload_n 0, 1) := by decide +kernel
theorem dX3_digest_18 : decode cX3_digest 18 = .ok (.getfield 12, 3) := by decide +kernel
theorem dX3_digest_21 : decode cX3_digest 21 = .ok (.getfield 141, 3) := by decide +kernel
theorem dX3_digest_24 : decode cX3_digest 24 = .ok (.invokestatic 191, 3) := by decide +kernel
theorem dX3_digest_27 : decode cX3_digest 27 = .ok (.lstore_n 1, 1) := by decide +kernel
theorem dX3_digest_28 : decode cX3_digest 28 = .ok (.lload_n 1, 1) := by decide +kernel
theorem dX3_digest_29 : decode cX3_digest 29 = .ok (.aload_n 0, 1) := by decide +kernel
theorem dX3_digest_30 : decode cX3_digest 30 = .ok (.getfield 12, 3) := by decide +kernel
theorem dX3_digest_33 : decode cX3_digest 33 = .ok (.invokevirtual 112, 3) := by decide +kernel
theorem dX3_digest_36 : decode cX3_digest 36 = .ok (.invokestatic 191, 3) := by decide +kernel
theorem dX3_digest_39 : decode cX3_digest 39 = .ok (.lstore_n 1, 1) := by decide +kernel
theorem dX3_digest_40 : decode cX3_digest 40 = .ok (.lload_n 1, 1) := by decide +kernel
theorem dX3_digest_41 : decode cX3_digest 41 = .ok (.aload_n 0, 1) := by decide +kernel
theorem dX3_digest_42 : decode cX3_digest 42 = .ok (.getfield 12, 3) := by decide +kernel
theorem dX3_digest_45 : decode cX3_digest 45 = .ok (.invokevirtual 119, 3) := by decide +kernel
theorem dX3_digest_48 : decode cX3_digest 48 = .ok (.invokestatic 191, 3) := by decide +kernel
theorem dX3_digest_51 : decode cX3_digest 51 = .ok (.lstore_n 1, 1) := by decide +kernel
theorem dX3_digest_52 : decode cX3_digest 52 = .ok (.lload_n 1, 1) := by decide +kernel
theorem dX3_digest_53 : decode cX3_digest 53 = .ok (.aload_n 0, 1) := by decide +kernel
theorem dX3_digest_54 : decode cX3_digest 54 = .ok (.getfield 12, 3) := by decide +kernel
theorem dX3_digest_57 : decode cX3_digest 57 = .ok (.invokevirtual 152, 3) := by decide +kernel
theorem dX3_digest_60 : decode cX3_digest 60 = .ok (.invokestatic 191, 3) := by decide +kernel
theorem dX3_digest_63 : decode cX3_digest 63 = .ok (.lstore_n 1, 1) := by decide +kernel
theorem dX3_digest_64 : decode cX3_digest 64 = .ok (.iconst 0, 1) := by decide +kernel
theorem dX3_digest_65 : decode cX3_digest 65 = .ok (.istore_n 3, 1) := by decide +kernel
theorem dX3_digest_66 : decode cX3_digest 66 = .ok (.iload_n 3, 1) := by decide +kernel
theorem dX3_digest_67 : decode cX3_digest 67 = .ok (.bipush 6, 2) := by decide +kernel
theorem dX3_digest_69 : decode cX3_digest 69 = .ok (.if_icmp .ge 23, 3) := by decide +kernel
theorem dX3_digest_72 : decode cX3_digest 72 = .ok (.lload_n 1, 1) := by decide +kernel
theorem dX3_digest_73 : decode cX3_digest 73 = .ok (.aload_n 0, 1) := by decide +kernel
theorem dX3_digest_74 : decode cX3_digest 74 = .ok (.getfield 12, 3) := by decide +kernel
theorem dX3_digest_77 : decode cX3_digest 77 = .ok (.getfield 146, 3) := by decide +kernel
theorem dX3_digest_80 : decode cX3_digest 80 = .ok (.iload_n 3, 1) := by decide +kernel
theorem dX3_digest_81 : decode cX3_digest 81 = .ok (.iaload, 1) := by decide +kernel
theorem dX3_digest_82 : decode cX3_digest 82 = .ok (.invokestatic 191, 3) := by decide +kernel
theorem dX3_digest_85 : decode cX3_digest 85 = .ok (.lstore_n 1, 1) := by decide +kernel
theorem dX3_digest_86 : decode cX3_digest 86 = .ok (.iinc 3 1, 3) := by decide +kernel
theorem dX3_digest_89 : decode cX3_digest 89 = .ok (.goto (-23), 3) := by decide +kernel
theorem dX3_digest_92 : decode cX3_digest 92 = .ok (.iconst 0, 1) := by decide +kernel
theorem dX3_digest_93 : decode cX3_digest 93 = .ok (.istore_n 3, 1) := by decide +kernel
theorem dX3_digest_94 : decode cX3_digest 94 = .ok (.iload_n 3, 1) := by decide +kernel
theorem dX3_digest_95 : decode cX3_digest 95 = .ok (.bipush 6, 2) := by decide +kernel
theorem dX3_digest_97 : decode cX3_digest 97 = .ok (.if_icmp .ge 35, 3) := by decide +kernel
theorem dX3_digest_100 : decode cX3_digest 100 = .ok (.lload_n 1, 1) := by decide +kernel
theorem dX3_digest_101 : decode cX3_digest 101 = .ok (.aload_n 0, 1) := by decide +kernel
theorem dX3_digest_102 : decode cX3_digest 102 = .ok (.getfield 12, 3) := by decide +kernel
theorem dX3_digest_105 : decode cX3_digest 105 = .ok (.iload_n 3, 1) := by decide +kernel
theorem dX3_digest_106 : decode cX3_digest 106 = .ok (.invokevirtual 122, 3) := by decide +kernel
theorem dX3_digest_109 : decode cX3_digest 109 = .ok (.invokestatic 191, 3) := by decide +kernel
theorem dX3_digest_112 : decode cX3_digest 112 = .ok (.lstore_n 1, 1) := by decide +kernel
theorem dX3_digest_113 : decode cX3_digest 113 = .ok (.lload_n 1, 1) := by decide +kernel
theorem dX3_digest_114 : decode cX3_digest 114 = .ok (.aload_n 0, 1) := by decide +kernel
theorem dX3_digest_115 : decode cX3_digest 115 = .ok (.getfield 12, 3) := by decide +kernel
theorem dX3_digest_118 : decode cX3_digest 118 = .ok (.iload_n 3, 1) := by decide +kernel
theorem dX3_digest_119 : decode cX3_digest 119 = .ok (.invokevirtual 126, 3) := by decide +kernel
theorem dX3_digest_122 : decode cX3_digest 122 = .ok (.invokestatic 191, 3) := by decide +kernel
theorem dX3_digest_125 : decode cX3_digest 125 = .ok (.lstore_n 1, 1) := by decide +kernel
theorem dX3_digest_126 : decode cX3_digest 126 = .ok (.iinc 3 1, 3) := by decide +kernel
theorem dX3_digest_129 : decode cX3_digest 129 = .ok (.goto (-35), 3) := by decide +kernel
theorem dX3_digest_132 : decode cX3_digest 132 = .ok (.iconst 0, 1) := by decide +kernel
theorem dX3_digest_133 : decode cX3_digest 133 = .ok (.istore_n 3, 1) := by decide +kernel
theorem dX3_digest_134 : decode cX3_digest 134 = .ok (.iload_n 3, 1) := by decide +kernel
theorem dX3_digest_135 : decode cX3_digest 135 = .ok (.bipush 8, 2) := by decide +kernel
theorem dX3_digest_137 : decode cX3_digest 137 = .ok (.if_icmp .ge 16, 3) := by decide +kernel
theorem dX3_digest_140 : decode cX3_digest 140 = .ok (.aload_n 0, 1) := by decide +kernel
theorem dX3_digest_141 : decode cX3_digest 141 = .ok (.lload_n 1, 1) := by decide +kernel
theorem dX3_digest_142 : decode cX3_digest 142 = .ok (.iload_n 3, 1) := by decide +kernel
theorem dX3_digest_143 : decode cX3_digest 143 = .ok (.invokevirtual 195, 3) := by decide +kernel
theorem dX3_digest_146 : decode cX3_digest 146 = .ok (.lstore_n 1, 1) := by decide +kernel
theorem dX3_digest_147 : decode cX3_digest 147 = .ok (.iinc 3 1, 3) := by decide +kernel
theorem dX3_digest_150 : decode cX3_digest 150 = .ok (.goto (-16), 3) := by decide +kernel
theorem dX3_digest_153 : decode cX3_digest 153 = .ok (.lload_n 1, 1) := by decide +kernel
theorem dX3_digest_154 : decode cX3_digest 154 = .ok (.lreturn, 1) := by decide +kernel
set_option maxRecDepth 20000 in
theorem ggX3_mixRow_X1_isRowOpen : GoodIn wsX3_mixRow wsX1_isRowOpen := goodIn_r _ [8, 9, 52, 53, 54, 55, 56, 57, 58, 59, 60, 61, 62, 63] (by decide +kernel) (by decide +kernel)
set_option maxRecDepth 20000 in
theorem gX3_mixRow_X1_isRowOpen : GoodIn wsX3_mixRow (wsV RX3 72 RX1 yX1_isRowOpen wsX1_isRowOpen) := goodIn_app (goodIn_of _ (by decide +kernel)) ggX3_mixRow_X1_isRowOpen
set_option maxRecDepth 20000 in
theorem ggX3_mixRow_X3_mix : GoodIn wsX3_mixRow wsX3_mix := goodIn_r _ [13, 14] (by decide +kernel) (by decide +kernel)
set_option maxRecDepth 20000 in
theorem gX3_mixRow_X3_mix : GoodIn wsX3_mixRow (va_wsS RX3 191 yX3_mix wsX3_mix) := goodIn_app (goodIn_of _ (by decide +kernel)) ggX3_mixRow_X3_mix
set_option maxRecDepth 20000 in
theorem ggX3_mixRow_X3_placeOf : GoodIn wsX3_mixRow wsX3_placeOf := goodIn_r _ [17] (by decide +kernel) (by decide +kernel)
set_option maxRecDepth 20000 in
theorem gX3_mixRow_X3_placeOf : GoodIn wsX3_mixRow (va_wsS RX3 37 yX3_placeOf wsX3_placeOf) := goodIn_app (goodIn_of _ (by decide +kernel)) ggX3_mixRow_X3_placeOf
set_option maxRecDepth 20000 in
theorem ggX3_mixRow_X1_fadesIn : GoodIn wsX3_mixRow wsX1_fadesIn := goodIn_r _ [21, 22, 23, 24, 25, 26, 7, 27, 28, 29, 30, 31, 32, 33, 34, 35, 36, 37, 38, 39, 40, 41, 42, 43, 44, 45, 46, 47, 48, 52, 53, 54, 55, 56, 57, 58, 59, 60, 61, 62, 63] (by decide +kernel) (by decide +kernel)
set_option maxRecDepth 20000 in
theorem gX3_mixRow_X1_fadesIn : GoodIn wsX3_mixRow (wsV RX3 149 RX1 yX1_fadesIn wsX1_fadesIn) := goodIn_app (goodIn_of _ (by decide +kernel)) ggX3_mixRow_X1_fadesIn
theorem dX3_mixRow_0 : decode cX3_mixRow 0 = .ok (.lload_n 1, 1) := by decide +kernel
theorem dX3_mixRow_1 : decode cX3_mixRow 1 = .ok (.aload_n 0, 1) := by decide +kernel
theorem dX3_mixRow_2 : decode cX3_mixRow 2 = .ok (.getfield 12, 3) := by decide +kernel
theorem dX3_mixRow_5 : decode cX3_mixRow 5 = .ok (.iload_n 3, 1) := by decide +kernel
theorem dX3_mixRow_6 : decode cX3_mixRow 6 = .ok (.invokevirtual 72, 3) := by decide +kernel
theorem dX3_mixRow_9 : decode cX3_mixRow 9 = .ok (.ifCond .eq 7, 3) := by decide +kernel
theorem dX3_mixRow_12 : decode cX3_mixRow 12 = .ok (.iconst 1, 1) := by decide +kernel
theorem dX3_mixRow_13 : decode cX3_mixRow 13 = .ok (.goto 4, 3) := by decide +kernel
theorem dX3_mixRow_16 : decode cX3_mixRow 16 = .ok (.iconst 0, 1) := by decide +kernel
theorem dX3_mixRow_17 : decode cX3_mixRow 17 = .ok (.invokestatic 191, 3) := by decide +kernel
theorem dX3_mixRow_20 : decode cX3_mixRow 20 = .ok (.lstore 4, 2) := by decide +kernel
theorem dX3_mixRow_22 : decode cX3_mixRow 22 = .ok (.iconst 0, 1) := by decide +kernel
theorem dX3_mixRow_23 : decode cX3_mixRow 23 = .ok (.istore 6, 2) := by decide +kernel
theorem dX3_mixRow_25 : decode cX3_mixRow 25 = .ok (.iload 6, 2) := by decide +kernel
theorem dX3_mixRow_27 : decode cX3_mixRow 27 = .ok (.bipush 6, 2) := by decide +kernel
theorem dX3_mixRow_29 : decode cX3_mixRow 29 = .ok (.if_icmp .ge 67, 3) := by decide +kernel
theorem dX3_mixRow_32 : decode cX3_mixRow 32 = .ok (.iload_n 3, 1) := by decide +kernel
theorem dX3_mixRow_33 : decode cX3_mixRow 33 = .ok (.iload 6, 2) := by decide +kernel
theorem dX3_mixRow_35 : decode cX3_mixRow 35 = .ok (.invokestatic 37, 3) := by decide +kernel
theorem dX3_mixRow_38 : decode cX3_mixRow 38 = .ok (.istore 7, 2) := by decide +kernel
theorem dX3_mixRow_40 : decode cX3_mixRow 40 = .ok (.lload 4, 2) := by decide +kernel
theorem dX3_mixRow_42 : decode cX3_mixRow 42 = .ok (.aload_n 0, 1) := by decide +kernel
theorem dX3_mixRow_43 : decode cX3_mixRow 43 = .ok (.getfield 12, 3) := by decide +kernel
theorem dX3_mixRow_46 : decode cX3_mixRow 46 = .ok (.getfield 59, 3) := by decide +kernel
theorem dX3_mixRow_49 : decode cX3_mixRow 49 = .ok (.iload 7, 2) := by decide +kernel
theorem dX3_mixRow_51 : decode cX3_mixRow 51 = .ok (.iaload, 1) := by decide +kernel
theorem dX3_mixRow_52 : decode cX3_mixRow 52 = .ok (.invokestatic 191, 3) := by decide +kernel
theorem dX3_mixRow_55 : decode cX3_mixRow 55 = .ok (.lstore 4, 2) := by decide +kernel
theorem dX3_mixRow_57 : decode cX3_mixRow 57 = .ok (.lload 4, 2) := by decide +kernel
theorem dX3_mixRow_59 : decode cX3_mixRow 59 = .ok (.aload_n 0, 1) := by decide +kernel
theorem dX3_mixRow_60 : decode cX3_mixRow 60 = .ok (.getfield 12, 3) := by decide +kernel
theorem dX3_mixRow_63 : decode cX3_mixRow 63 = .ok (.getfield 116, 3) := by decide +kernel
theorem dX3_mixRow_66 : decode cX3_mixRow 66 = .ok (.iload 7, 2) := by decide +kernel
theorem dX3_mixRow_68 : decode cX3_mixRow 68 = .ok (.iaload, 1) := by decide +kernel
theorem dX3_mixRow_69 : decode cX3_mixRow 69 = .ok (.invokestatic 191, 3) := by decide +kernel
theorem dX3_mixRow_72 : decode cX3_mixRow 72 = .ok (.lstore 4, 2) := by decide +kernel
theorem dX3_mixRow_74 : decode cX3_mixRow 74 = .ok (.lload 4, 2) := by decide +kernel
theorem dX3_mixRow_76 : decode cX3_mixRow 76 = .ok (.aload_n 0, 1) := by decide +kernel
theorem dX3_mixRow_77 : decode cX3_mixRow 77 = .ok (.getfield 12, 3) := by decide +kernel
theorem dX3_mixRow_80 : decode cX3_mixRow 80 = .ok (.iload 7, 2) := by decide +kernel
theorem dX3_mixRow_82 : decode cX3_mixRow 82 = .ok (.invokevirtual 149, 3) := by decide +kernel
theorem dX3_mixRow_85 : decode cX3_mixRow 85 = .ok (.invokestatic 191, 3) := by decide +kernel
theorem dX3_mixRow_88 : decode cX3_mixRow 88 = .ok (.lstore 4, 2) := by decide +kernel
theorem dX3_mixRow_90 : decode cX3_mixRow 90 = .ok (.iinc 6 1, 3) := by decide +kernel
theorem dX3_mixRow_93 : decode cX3_mixRow 93 = .ok (.goto (-68), 3) := by decide +kernel
theorem dX3_mixRow_96 : decode cX3_mixRow 96 = .ok (.lload 4, 2) := by decide +kernel
theorem dX3_mixRow_98 : decode cX3_mixRow 98 = .ok (.lreturn, 1) := by decide +kernel
theorem dX3_mix_0 : decode cX3_mix 0 = .ok (.ldc2_w 198, 3) := by decide +kernel
theorem dX3_mix_3 : decode cX3_mix 3 = .ok (.lload_n 0, 1) := by decide +kernel
theorem dX3_mix_4 : decode cX3_mix 4 = .ok (.lmul, 1) := by decide +kernel
theorem dX3_mix_5 : decode cX3_mix 5 = .ok (.iload_n 2, 1) := by decide +kernel
theorem dX3_mix_6 : decode cX3_mix 6 = .ok (.i2l, 1) := by decide +kernel
theorem dX3_mix_7 : decode cX3_mix 7 = .ok (.ladd, 1) := by decide +kernel
theorem dX3_mix_8 : decode cX3_mix 8 = .ok (.lreturn, 1) := by decide +kernel
theorem dX3_checkRow_0 : decode cX3_checkRow 0 = .ok (.iload_n 0, 1) := by decide +kernel
theorem dX3_checkRow_1 : decode cX3_checkRow 1 = .ok (.ifCond .lt 9, 3) := by decide +kernel
theorem dX3_checkRow_4 : decode cX3_checkRow 4 = .ok (.iload_n 0, 1) := by decide +kernel
theorem dX3_checkRow_5 : decode cX3_checkRow 5 = .ok (.bipush 8, 2) := by decide +kernel
theorem dX3_checkRow_7 : decode cX3_checkRow 7 = .ok (.if_icmp .lt 13, 3) := by decide +kernel
theorem dX3_checkRow_10 : decode cX3_checkRow 10 = .ok (.new 101, 3) := by decide +kernel
theorem dX3_checkRow_13 : decode cX3_checkRow 13 = .ok (.dup, 1) := by decide +kernel
theorem dX3_checkRow_14 : decode cX3_checkRow 14 = .ok (.ldc 200, 2) := by decide +kernel
theorem dX3_checkRow_16 : decode cX3_checkRow 16 = .ok (.invokespecial 105, 3) := by decide +kernel
theorem dX3_checkRow_19 : decode cX3_checkRow 19 = .ok (.athrow, 1) := by decide +kernel
theorem dX3_checkRow_20 : decode cX3_checkRow 20 = .ok (.return_, 1) := by decide +kernel
theorem dX3_checkConcert_0 : decode cX3_checkConcert 0 = .ok (.iload_n 0, 1) := by decide +kernel
theorem dX3_checkConcert_1 : decode cX3_checkConcert 1 = .ok (.ifCond .lt 9, 3) := by decide +kernel
theorem dX3_checkConcert_4 : decode cX3_checkConcert 4 = .ok (.iload_n 0, 1) := by decide +kernel
theorem dX3_checkConcert_5 : decode cX3_checkConcert 5 = .ok (.bipush 6, 2) := by decide +kernel
theorem dX3_checkConcert_7 : decode cX3_checkConcert 7 = .ok (.if_icmp .lt 13, 3) := by decide +kernel
theorem dX3_checkConcert_10 : decode cX3_checkConcert 10 = .ok (.new 101, 3) := by decide +kernel
theorem dX3_checkConcert_13 : decode cX3_checkConcert 13 = .ok (.dup, 1) := by decide +kernel
theorem dX3_checkConcert_14 : decode cX3_checkConcert 14 = .ok (.ldc 202, 2) := by decide +kernel
theorem dX3_checkConcert_16 : decode cX3_checkConcert 16 = .ok (.invokespecial 105, 3) := by decide +kernel
theorem dX3_checkConcert_19 : decode cX3_checkConcert 19 = .ok (.athrow, 1) := by decide +kernel
theorem dX3_checkConcert_20 : decode cX3_checkConcert 20 = .ok (.return_, 1) := by decide +kernel
theorem dX3_checkMinutes_0 : decode cX3_checkMinutes 0 = .ok (.iload_n 0, 1) := by decide +kernel
theorem dX3_checkMinutes_1 : decode cX3_checkMinutes 1 = .ok (.iconst 1, 1) := by decide +kernel
theorem dX3_checkMinutes_2 : decode cX3_checkMinutes 2 = .ok (.if_icmp .lt 9, 3) := by decide +kernel
theorem dX3_checkMinutes_5 : decode cX3_checkMinutes 5 = .ok (.iload_n 0, 1) := by decide +kernel
theorem dX3_checkMinutes_6 : decode cX3_checkMinutes 6 = .ok (.bipush 60, 2) := by decide +kernel
theorem dX3_checkMinutes_8 : decode cX3_checkMinutes 8 = .ok (.if_icmp .le 13, 3) := by decide +kernel
theorem dX3_checkMinutes_11 : decode cX3_checkMinutes 11 = .ok (.new 82, 3) := by decide +kernel
theorem dX3_checkMinutes_14 : decode cX3_checkMinutes 14 = .ok (.dup, 1) := by decide +kernel
theorem dX3_checkMinutes_15 : decode cX3_checkMinutes 15 = .ok (.ldc 204, 2) := by decide +kernel
theorem dX3_checkMinutes_17 : decode cX3_checkMinutes 17 = .ok (.invokespecial 86, 3) := by decide +kernel
theorem dX3_checkMinutes_20 : decode cX3_checkMinutes 20 = .ok (.athrow, 1) := by decide +kernel
theorem dX3_checkMinutes_21 : decode cX3_checkMinutes 21 = .ok (.return_, 1) := by decide +kernel
theorem dX3_placeOf_0 : decode cX3_placeOf 0 = .ok (.iload_n 0, 1) := by decide +kernel
theorem dX3_placeOf_1 : decode cX3_placeOf 1 = .ok (.bipush 6, 2) := by decide +kernel
theorem dX3_placeOf_3 : decode cX3_placeOf 3 = .ok (.imul, 1) := by decide +kernel
theorem dX3_placeOf_4 : decode cX3_placeOf 4 = .ok (.iload_n 1, 1) := by decide +kernel
theorem dX3_placeOf_5 : decode cX3_placeOf 5 = .ok (.iadd, 1) := by decide +kernel
theorem dX3_placeOf_6 : decode cX3_placeOf 6 = .ok (.ireturn, 1) := by decide +kernel
set_option maxRecDepth 20000 in
theorem ggX3_doEvents_X0_startsEvent : GoodIn wsX3_doEvents wsX0_startsEvent := goodIn_r _ [7, 8, 9, 10, 6, 11, 12, 13, 129, 130] (by decide +kernel) (by decide +kernel)
set_option maxRecDepth 20000 in
theorem gX3_doEvents_X0_startsEvent : GoodIn wsX3_doEvents (wsV RX3 206 RX0 yX0_startsEvent wsX0_startsEvent) := goodIn_app (goodIn_of _ (by decide +kernel)) ggX3_doEvents_X0_startsEvent
set_option maxRecDepth 20000 in
theorem ggX3_doEvents_X3_doEvent : GoodIn wsX3_doEvents wsX3_doEvent := goodIn_r _ [18, 1, 19, 20, 21, 22, 6, 23, 8, 9, 10, 11, 12, 13, 24, 25, 26, 17, 27, 28, 29, 30, 31, 32, 33, 34, 35, 36, 37, 38, 39, 40, 41, 42, 43, 44, 45, 46, 47, 48, 49, 50, 51, 52, 53, 54, 55, 56, 57, 58, 59, 60, 61, 62, 63, 64, 65, 66, 67, 68, 69, 70, 71, 72, 73, 74, 75, 76, 77, 78, 79, 80, 81, 82, 83, 84, 85, 86, 87, 88, 89, 90, 91, 92, 93, 94, 95, 96, 97, 98, 99, 100, 101, 102, 103, 104, 105, 106, 107, 108, 109, 110, 111, 112, 113, 114, 115, 116, 117, 118, 119, 120, 121, 122, 123, 124, 125, 126, 127, 128, 129, 130, 131, 132, 133, 134, 135, 136, 137, 138, 139, 140, 141, 142] (by decide +kernel) (by decide +kernel)
set_option maxRecDepth 20000 in
theorem gX3_doEvents_X3_doEvent : GoodIn wsX3_doEvents (wsV RX3 209 RX3 yX3_doEvent wsX3_doEvent) := goodIn_app (goodIn_of _ (by decide +kernel)) ggX3_doEvents_X3_doEvent
theorem dX3_doEvents_0 : decode cX3_doEvents 0 = .ok (.iconst 0, 1) := by decide +kernel
theorem dX3_doEvents_1 : decode cX3_doEvents 1 = .ok (.istore_n 1, 1) := by decide +kernel
theorem dX3_doEvents_2 : decode cX3_doEvents 2 = .ok (.iconst 0, 1) := by decide +kernel
theorem dX3_doEvents_3 : decode cX3_doEvents 3 = .ok (.istore_n 2, 1) := by decide +kernel
theorem dX3_doEvents_4 : decode cX3_doEvents 4 = .ok (.iload_n 2, 1) := by decide +kernel
theorem dX3_doEvents_5 : decode cX3_doEvents 5 = .ok (.aload_n 0, 1) := by decide +kernel
theorem dX3_doEvents_6 : decode cX3_doEvents 6 = .ok (.getfield 26, 3) := by decide +kernel
theorem dX3_doEvents_9 : decode cX3_doEvents 9 = .ok (.getfield 160, 3) := by decide +kernel
theorem dX3_doEvents_12 : decode cX3_doEvents 12 = .ok (.if_icmp .ge 33, 3) := by decide +kernel
theorem dX3_doEvents_15 : decode cX3_doEvents 15 = .ok (.aload_n 0, 1) := by decide +kernel
theorem dX3_doEvents_16 : decode cX3_doEvents 16 = .ok (.getfield 26, 3) := by decide +kernel
theorem dX3_doEvents_19 : decode cX3_doEvents 19 = .ok (.iload_n 2, 1) := by decide +kernel
theorem dX3_doEvents_20 : decode cX3_doEvents 20 = .ok (.invokevirtual 206, 3) := by decide +kernel
theorem dX3_doEvents_23 : decode cX3_doEvents 23 = .ok (.ifCond .eq 16, 3) := by decide +kernel
theorem dX3_doEvents_26 : decode cX3_doEvents 26 = .ok (.aload_n 0, 1) := by decide +kernel
theorem dX3_doEvents_27 : decode cX3_doEvents 27 = .ok (.iload_n 2, 1) := by decide +kernel
theorem dX3_doEvents_28 : decode cX3_doEvents 28 = .ok (.invokevirtual 209, 3) := by decide +kernel
theorem dX3_doEvents_31 : decode cX3_doEvents 31 = .ok (.ifCond .ne 5, 3) := by decide +kernel
theorem dX3_doEvents_34 : decode cX3_doEvents 34 = .ok (.iload_n 1, 1) := by decide +kernel
theorem dX3_doEvents_35 : decode cX3_doEvents 35 = .ok (.ireturn, 1) := by decide +kernel
theorem dX3_doEvents_36 : decode cX3_doEvents 36 = .ok (.iinc 1 1, 3) := by decide +kernel
theorem dX3_doEvents_39 : decode cX3_doEvents 39 = .ok (.iinc 2 1, 3) := by decide +kernel
theorem dX3_doEvents_42 : decode cX3_doEvents 42 = .ok (.goto (-38), 3) := by decide +kernel
theorem dX3_doEvents_45 : decode cX3_doEvents 45 = .ok (.iload_n 1, 1) := by decide +kernel
theorem dX3_doEvents_46 : decode cX3_doEvents 46 = .ok (.ireturn, 1) := by decide +kernel
set_option maxRecDepth 20000 in
theorem ggX3_doEvent_X0_digitAt : GoodIn wsX3_doEvent wsX0_digitAt := goodIn_r _ [7, 8, 9, 10, 6, 11, 12, 13, 120, 121] (by decide +kernel) (by decide +kernel)
set_option maxRecDepth 20000 in
theorem gX3_doEvent_X0_digitAt : GoodIn wsX3_doEvent (wsV RX3 212 RX0 yX0_digitAt wsX0_digitAt) := goodIn_app (goodIn_of _ (by decide +kernel)) ggX3_doEvent_X0_digitAt
set_option maxRecDepth 20000 in
theorem ggX3_doEvent_X0_signAt : GoodIn wsX3_doEvent wsX0_signAt := goodIn_r _ [11, 12, 13, 120, 121] (by decide +kernel) (by decide +kernel)
set_option maxRecDepth 20000 in
theorem gX3_doEvent_X0_signAt : GoodIn wsX3_doEvent (wsV RX3 215 RX0 yX0_signAt wsX0_signAt) := goodIn_app (goodIn_of _ (by decide +kernel)) ggX3_doEvent_X0_signAt
set_option maxRecDepth 20000 in
theorem ggX3_doEvent_X3_placeOf : GoodIn wsX3_doEvent wsX3_placeOf := goodIn_r _ [18] (by decide +kernel) (by decide +kernel)
set_option maxRecDepth 20000 in
theorem gX3_doEvent_X3_placeOf : GoodIn wsX3_doEvent (va_wsS RX3 37 yX3_placeOf wsX3_placeOf) := goodIn_app (goodIn_of _ (by decide +kernel)) ggX3_doEvent_X3_placeOf
set_option maxRecDepth 20000 in
theorem ggX3_doEvent_X3_seatIfRoom : GoodIn wsX3_doEvent wsX3_seatIfRoom := goodIn_r _ [22, 2, 23, 24, 25, 26, 27, 28, 29, 30, 31, 32, 33, 34, 35, 36, 37, 38, 39, 117, 118, 119, 122, 123, 124, 125, 126, 127, 128, 129, 130, 131, 132, 133] (by decide +kernel) (by decide +kernel)
set_option maxRecDepth 20000 in
theorem gX3_doEvent_X3_seatIfRoom : GoodIn wsX3_doEvent (wsV RX3 219 RX3 yX3_seatIfRoom wsX3_seatIfRoom) := goodIn_app (goodIn_of _ (by decide +kernel)) ggX3_doEvent_X3_seatIfRoom
set_option maxRecDepth 20000 in
theorem ggX3_doEvent_X3_unseatIfWanted : GoodIn wsX3_doEvent wsX3_unseatIfWanted := goodIn_r _ [43, 2, 44, 45, 46, 26, 47, 28, 48, 49, 50, 51, 52, 53, 54, 55, 56, 37, 57, 58, 59, 60, 61, 62, 39, 33, 34, 35, 36, 38, 117, 118, 119, 122, 123, 124, 125, 126, 127, 128, 129, 130, 131, 132, 133] (by decide +kernel) (by decide +kernel)
set_option maxRecDepth 20000 in
theorem gX3_doEvent_X3_unseatIfWanted : GoodIn wsX3_doEvent (wsV RX3 222 RX3 yX3_unseatIfWanted wsX3_unseatIfWanted) := goodIn_app (goodIn_of _ (by decide +kernel)) ggX3_doEvent_X3_unseatIfWanted
set_option maxRecDepth 20000 in
theorem ggX3_doEvent_X1_perform : GoodIn wsX3_doEvent wsX1_perform := goodIn_r _ [66, 39, 67, 68, 69, 26, 70, 71, 37, 16, 17, 18, 72, 73, 74, 75, 58, 45, 46, 47, 28, 76, 77, 78, 79, 80, 81, 82, 122, 123, 124, 125, 126, 127, 128, 129, 130, 131, 132, 133] (by decide +kernel) (by decide +kernel)
set_option maxRecDepth 20000 in
theorem gX3_doEvent_X1_perform : GoodIn wsX3_doEvent (wsV RX3 135 RX1 yX1_perform wsX1_perform) := goodIn_app (goodIn_of _ (by decide +kernel)) ggX3_doEvent_X1_perform
set_option maxRecDepth 20000 in
theorem ggX3_doEvent_X0_numberAt : GoodIn wsX3_doEvent wsX0_numberAt := goodIn_r _ [86, 87, 4, 5, 6, 7, 8, 9, 10, 11, 12, 13, 120, 121] (by decide +kernel) (by decide +kernel)
set_option maxRecDepth 20000 in
theorem gX3_doEvent_X0_numberAt : GoodIn wsX3_doEvent (wsV RX3 226 RX0 yX0_numberAt wsX0_numberAt) := goodIn_app (goodIn_of _ (by decide +kernel)) ggX3_doEvent_X0_numberAt
set_option maxRecDepth 20000 in
theorem ggX3_doEvent_X1_letPass : GoodIn wsX3_doEvent wsX1_letPass := goodIn_r _ [91, 92, 93, 94, 95, 96, 26, 97, 37, 98, 99, 100, 101, 102, 103, 104, 105, 106, 107, 108, 109, 110, 111, 112, 39, 58, 45, 46, 47, 28, 33, 34, 35, 36, 38, 122, 123, 124, 125, 126, 127, 128, 129, 130, 131, 132, 133] (by decide +kernel) (by decide +kernel)
set_option maxRecDepth 20000 in
theorem gX3_doEvent_X1_letPass : GoodIn wsX3_doEvent (wsV RX3 132 RX1 yX1_letPass wsX1_letPass) := goodIn_app (goodIn_of _ (by decide +kernel)) ggX3_doEvent_X1_letPass
set_option maxRecDepth 20000 in
theorem ggX3_doEvent_X1_turnRow : GoodIn wsX3_doEvent wsX1_turnRow := goodIn_r _ [116, 71, 122, 123, 124, 125, 126, 127, 128, 129, 130, 131, 132, 133] (by decide +kernel) (by decide +kernel)
set_option maxRecDepth 20000 in
theorem gX3_doEvent_X1_turnRow : GoodIn wsX3_doEvent (wsV RX3 75 RX1 yX1_turnRow wsX1_turnRow) := goodIn_app (goodIn_of _ (by decide +kernel)) ggX3_doEvent_X1_turnRow
theorem dX3_doEvent_0 : decode cX3_doEvent 0 = .ok (.aload_n 0, 1) := by decide +kernel
theorem dX3_doEvent_1 : decode cX3_doEvent 1 = .ok (.getfield 26, 3) := by decide +kernel
theorem dX3_doEvent_4 : decode cX3_doEvent 4 = .ok (.iload_n 1, 1) := by decide +kernel
theorem dX3_doEvent_5 : decode cX3_doEvent 5 = .ok (.iconst 1, 1) := by decide +kernel
theorem dX3_doEvent_6 : decode cX3_doEvent 6 = .ok (.iadd, 1) := by decide +kernel
theorem dX3_doEvent_7 : decode cX3_doEvent 7 = .ok (.invokevirtual 212, 3) := by decide +kernel
theorem dX3_doEvent_10 : decode cX3_doEvent 10 = .ok (.istore_n 2, 1) := by decide +kernel
theorem dX3_doEvent_11 : decode cX3_doEvent 11 = .ok (.aload_n 0, 1) := by decide +kernel
theorem dX3_doEvent_12 : decode cX3_doEvent 12 = .ok (.getfield 26, 3) := by decide +kernel
theorem dX3_doEvent_15 : decode cX3_doEvent 15 = .ok (.iload_n 1, 1) := by decide +kernel
theorem dX3_doEvent_16 : decode cX3_doEvent 16 = .ok (.invokevirtual 215, 3) := by decide +kernel
theorem dX3_doEvent_19 : decode cX3_doEvent 19 = .ok (.lookupswitch 139 #[(99, 49), (108, 68), (112, 108), (115, 88), (116, 119)], 49) := by decide +kernel
theorem dX3_doEvent_68 : decode cX3_doEvent 68 = .ok (.aload_n 0, 1) := by decide +kernel
theorem dX3_doEvent_69 : decode cX3_doEvent 69 = .ok (.iload_n 2, 1) := by decide +kernel
theorem dX3_doEvent_70 : decode cX3_doEvent 70 = .ok (.aload_n 0, 1) := by decide +kernel
theorem dX3_doEvent_71 : decode cX3_doEvent 71 = .ok (.getfield 26, 3) := by decide +kernel
theorem dX3_doEvent_74 : decode cX3_doEvent 74 = .ok (.iload_n 1, 1) := by decide +kernel
theorem dX3_doEvent_75 : decode cX3_doEvent 75 = .ok (.iconst 2, 1) := by decide +kernel
theorem dX3_doEvent_76 : decode cX3_doEvent 76 = .ok (.iadd, 1) := by decide +kernel
theorem dX3_doEvent_77 : decode cX3_doEvent 77 = .ok (.invokevirtual 212, 3) := by decide +kernel
theorem dX3_doEvent_80 : decode cX3_doEvent 80 = .ok (.invokestatic 37, 3) := by decide +kernel
theorem dX3_doEvent_83 : decode cX3_doEvent 83 = .ok (.invokevirtual 219, 3) := by decide +kernel
theorem dX3_doEvent_86 : decode cX3_doEvent 86 = .ok (.ireturn, 1) := by decide +kernel
theorem dX3_doEvent_87 : decode cX3_doEvent 87 = .ok (.aload_n 0, 1) := by decide +kernel
theorem dX3_doEvent_88 : decode cX3_doEvent 88 = .ok (.iload_n 2, 1) := by decide +kernel
theorem dX3_doEvent_89 : decode cX3_doEvent 89 = .ok (.aload_n 0, 1) := by decide +kernel
theorem dX3_doEvent_90 : decode cX3_doEvent 90 = .ok (.getfield 26, 3) := by decide +kernel
theorem dX3_doEvent_93 : decode cX3_doEvent 93 = .ok (.iload_n 1, 1) := by decide +kernel
theorem dX3_doEvent_94 : decode cX3_doEvent 94 = .ok (.iconst 2, 1) := by decide +kernel
theorem dX3_doEvent_95 : decode cX3_doEvent 95 = .ok (.iadd, 1) := by decide +kernel
theorem dX3_doEvent_96 : decode cX3_doEvent 96 = .ok (.invokevirtual 212, 3) := by decide +kernel
theorem dX3_doEvent_99 : decode cX3_doEvent 99 = .ok (.invokestatic 37, 3) := by decide +kernel
theorem dX3_doEvent_102 : decode cX3_doEvent 102 = .ok (.iconst 1, 1) := by decide +kernel
theorem dX3_doEvent_103 : decode cX3_doEvent 103 = .ok (.invokevirtual 222, 3) := by decide +kernel
theorem dX3_doEvent_106 : decode cX3_doEvent 106 = .ok (.ireturn, 1) := by decide +kernel
theorem dX3_doEvent_107 : decode cX3_doEvent 107 = .ok (.aload_n 0, 1) := by decide +kernel
theorem dX3_doEvent_108 : decode cX3_doEvent 108 = .ok (.iload_n 2, 1) := by decide +kernel
theorem dX3_doEvent_109 : decode cX3_doEvent 109 = .ok (.aload_n 0, 1) := by decide +kernel
theorem dX3_doEvent_110 : decode cX3_doEvent 110 = .ok (.getfield 26, 3) := by decide +kernel
theorem dX3_doEvent_113 : decode cX3_doEvent 113 = .ok (.iload_n 1, 1) := by decide +kernel
theorem dX3_doEvent_114 : decode cX3_doEvent 114 = .ok (.iconst 2, 1) := by decide +kernel
theorem dX3_doEvent_115 : decode cX3_doEvent 115 = .ok (.iadd, 1) := by decide +kernel
theorem dX3_doEvent_116 : decode cX3_doEvent 116 = .ok (.invokevirtual 212, 3) := by decide +kernel
theorem dX3_doEvent_119 : decode cX3_doEvent 119 = .ok (.invokestatic 37, 3) := by decide +kernel
theorem dX3_doEvent_122 : decode cX3_doEvent 122 = .ok (.iconst 0, 1) := by decide +kernel
theorem dX3_doEvent_123 : decode cX3_doEvent 123 = .ok (.invokevirtual 222, 3) := by decide +kernel
theorem dX3_doEvent_126 : decode cX3_doEvent 126 = .ok (.ireturn, 1) := by decide +kernel
theorem dX3_doEvent_127 : decode cX3_doEvent 127 = .ok (.aload_n 0, 1) := by decide +kernel
theorem dX3_doEvent_128 : decode cX3_doEvent 128 = .ok (.getfield 12, 3) := by decide +kernel
theorem dX3_doEvent_131 : decode cX3_doEvent 131 = .ok (.iload_n 2, 1) := by decide +kernel
theorem dX3_doEvent_132 : decode cX3_doEvent 132 = .ok (.invokevirtual 135, 3) := by decide +kernel
theorem dX3_doEvent_135 : decode cX3_doEvent 135 = .ok (.pop, 1) := by decide +kernel
theorem dX3_doEvent_136 : decode cX3_doEvent 136 = .ok (.iconst 1, 1) := by decide +kernel
theorem dX3_doEvent_137 : decode cX3_doEvent 137 = .ok (.ireturn, 1) := by decide +kernel
theorem dX3_doEvent_138 : decode cX3_doEvent 138 = .ok (.aload_n 0, 1) := by decide +kernel
theorem dX3_doEvent_139 : decode cX3_doEvent 139 = .ok (.getfield 12, 3) := by decide +kernel
theorem dX3_doEvent_142 : decode cX3_doEvent 142 = .ok (.aload_n 0, 1) := by decide +kernel
theorem dX3_doEvent_143 : decode cX3_doEvent 143 = .ok (.getfield 26, 3) := by decide +kernel
theorem dX3_doEvent_146 : decode cX3_doEvent 146 = .ok (.iload_n 1, 1) := by decide +kernel
theorem dX3_doEvent_147 : decode cX3_doEvent 147 = .ok (.iconst 1, 1) := by decide +kernel
theorem dX3_doEvent_148 : decode cX3_doEvent 148 = .ok (.iadd, 1) := by decide +kernel
theorem dX3_doEvent_149 : decode cX3_doEvent 149 = .ok (.invokevirtual 226, 3) := by decide +kernel
theorem dX3_doEvent_152 : decode cX3_doEvent 152 = .ok (.invokevirtual 132, 3) := by decide +kernel
theorem dX3_doEvent_155 : decode cX3_doEvent 155 = .ok (.pop, 1) := by decide +kernel
theorem dX3_doEvent_156 : decode cX3_doEvent 156 = .ok (.iconst 1, 1) := by decide +kernel
theorem dX3_doEvent_157 : decode cX3_doEvent 157 = .ok (.ireturn, 1) := by decide +kernel
theorem dX3_doEvent_158 : decode cX3_doEvent 158 = .ok (.aload_n 0, 1) := by decide +kernel
theorem dX3_doEvent_159 : decode cX3_doEvent 159 = .ok (.getfield 12, 3) := by decide +kernel
theorem dX3_doEvent_162 : decode cX3_doEvent 162 = .ok (.iload_n 2, 1) := by decide +kernel
theorem dX3_doEvent_163 : decode cX3_doEvent 163 = .ok (.invokevirtual 75, 3) := by decide +kernel
theorem dX3_doEvent_166 : decode cX3_doEvent 166 = .ok (.iconst 1, 1) := by decide +kernel
theorem dX3_doEvent_167 : decode cX3_doEvent 167 = .ok (.ireturn, 1) := by decide +kernel
set_option maxRecDepth 20000 in
theorem ggX3_seatIfRoom_X1_hasRoom : GoodIn wsX3_seatIfRoom wsX1_hasRoom := goodIn_r _ [6, 7, 22, 23, 24, 25, 26, 27, 28, 29, 30, 31, 32, 33] (by decide +kernel) (by decide +kernel)
set_option maxRecDepth 20000 in
theorem gX3_seatIfRoom_X1_hasRoom : GoodIn wsX3_seatIfRoom (wsV RX3 41 RX1 yX1_hasRoom wsX1_hasRoom) := goodIn_app (goodIn_of _ (by decide +kernel)) ggX3_seatIfRoom_X1_hasRoom
set_option maxRecDepth 20000 in
theorem ggX3_seatIfRoom_X1_seat : GoodIn wsX3_seatIfRoom wsX1_seat := goodIn_r _ [11, 7, 12, 13, 14, 5, 15, 16, 17, 18, 22, 23, 24, 25, 26, 27, 28, 29, 30, 31, 32, 33] (by decide +kernel) (by decide +kernel)
set_option maxRecDepth 20000 in
theorem gX3_seatIfRoom_X1_seat : GoodIn wsX3_seatIfRoom (wsV RX3 56 RX1 yX1_seat wsX1_seat) := goodIn_app (goodIn_of _ (by decide +kernel)) ggX3_seatIfRoom_X1_seat
theorem dX3_seatIfRoom_0 : decode cX3_seatIfRoom 0 = .ok (.aload_n 0, 1) := by decide +kernel
theorem dX3_seatIfRoom_1 : decode cX3_seatIfRoom 1 = .ok (.getfield 12, 3) := by decide +kernel
theorem dX3_seatIfRoom_4 : decode cX3_seatIfRoom 4 = .ok (.iload_n 1, 1) := by decide +kernel
theorem dX3_seatIfRoom_5 : decode cX3_seatIfRoom 5 = .ok (.invokevirtual 41, 3) := by decide +kernel
theorem dX3_seatIfRoom_8 : decode cX3_seatIfRoom 8 = .ok (.ifCond .ne 5, 3) := by decide +kernel
theorem dX3_seatIfRoom_11 : decode cX3_seatIfRoom 11 = .ok (.iconst 0, 1) := by decide +kernel
theorem dX3_seatIfRoom_12 : decode cX3_seatIfRoom 12 = .ok (.ireturn, 1) := by decide +kernel
theorem dX3_seatIfRoom_13 : decode cX3_seatIfRoom 13 = .ok (.aload_n 0, 1) := by decide +kernel
theorem dX3_seatIfRoom_14 : decode cX3_seatIfRoom 14 = .ok (.getfield 12, 3) := by decide +kernel
theorem dX3_seatIfRoom_17 : decode cX3_seatIfRoom 17 = .ok (.iload_n 1, 1) := by decide +kernel
theorem dX3_seatIfRoom_18 : decode cX3_seatIfRoom 18 = .ok (.invokevirtual 56, 3) := by decide +kernel
theorem dX3_seatIfRoom_21 : decode cX3_seatIfRoom 21 = .ok (.iconst 1, 1) := by decide +kernel
theorem dX3_seatIfRoom_22 : decode cX3_seatIfRoom 22 = .ok (.ireturn, 1) := by decide +kernel
set_option maxRecDepth 20000 in
theorem ggX3_unseatIfWanted_X1_isWantedAt : GoodIn wsX3_unseatIfWanted wsX1_isWantedAt := goodIn_r _ [6, 7, 33, 34, 35, 36, 37, 38, 39, 40, 41, 42, 43, 44] (by decide +kernel) (by decide +kernel)
set_option maxRecDepth 20000 in
theorem gX3_unseatIfWanted_X1_isWantedAt : GoodIn wsX3_unseatIfWanted (wsV RX3 63 RX1 yX1_isWantedAt wsX1_isWantedAt) := goodIn_app (goodIn_of _ (by decide +kernel)) ggX3_unseatIfWanted_X1_isWantedAt
set_option maxRecDepth 20000 in
theorem ggX3_unseatIfWanted_X1_unseat : GoodIn wsX3_unseatIfWanted wsX1_unseat := goodIn_r _ [11, 7, 12, 13, 14, 5, 15, 16, 17, 18, 19, 3, 4, 6, 20, 21, 22, 23, 24, 25, 26, 27, 28, 29, 33, 34, 35, 36, 37, 38, 39, 40, 41, 42, 43, 44] (by decide +kernel) (by decide +kernel)
set_option maxRecDepth 20000 in
theorem gX3_unseatIfWanted_X1_unseat : GoodIn wsX3_unseatIfWanted (wsV RX3 68 RX1 yX1_unseat wsX1_unseat) := goodIn_app (goodIn_of _ (by decide +kernel)) ggX3_unseatIfWanted_X1_unseat
theorem dX3_unseatIfWanted_0 : decode cX3_unseatIfWanted 0 = .ok (.aload_n 0, 1) := by decide +kernel
theorem dX3_unseatIfWanted_1 : decode cX3_unseatIfWanted 1 = .ok (.getfield 12, 3) := by decide +kernel
theorem dX3_unseatIfWanted_4 : decode cX3_unseatIfWanted 4 = .ok (.iload_n 1, 1) := by decide +kernel
theorem dX3_unseatIfWanted_5 : decode cX3_unseatIfWanted 5 = .ok (.invokevirtual 63, 3) := by decide +kernel
theorem dX3_unseatIfWanted_8 : decode cX3_unseatIfWanted 8 = .ok (.ifCond .ne 5, 3) := by decide +kernel
theorem dX3_unseatIfWanted_11 : decode cX3_unseatIfWanted 11 = .ok (.iconst 0, 1) := by decide +kernel
theorem dX3_unseatIfWanted_12 : decode cX3_unseatIfWanted 12 = .ok (.ireturn, 1) := by decide +kernel
theorem dX3_unseatIfWanted_13 : decode cX3_unseatIfWanted 13 = .ok (.aload_n 0, 1) := by decide +kernel
theorem dX3_unseatIfWanted_14 : decode cX3_unseatIfWanted 14 = .ok (.getfield 12, 3) := by decide +kernel
theorem dX3_unseatIfWanted_17 : decode cX3_unseatIfWanted 17 = .ok (.iload_n 1, 1) := by decide +kernel
theorem dX3_unseatIfWanted_18 : decode cX3_unseatIfWanted 18 = .ok (.iload_n 2, 1) := by decide +kernel
theorem dX3_unseatIfWanted_19 : decode cX3_unseatIfWanted 19 = .ok (.invokevirtual 68, 3) := by decide +kernel
theorem dX3_unseatIfWanted_22 : decode cX3_unseatIfWanted 22 = .ok (.iconst 1, 1) := by decide +kernel
theorem dX3_unseatIfWanted_23 : decode cX3_unseatIfWanted 23 = .ok (.ireturn, 1) := by decide +kernel
end
section
theorem dX4_init_0 : decode cX4_init 0 = .ok (.aload_n 0, 1) := by decide +kernel
theorem dX4_init_1 : decode cX4_init 1 = .ok (.invokespecial 1, 3) := by decide +kernel
theorem dX4_init_4 : decode cX4_init 4 = .ok (.aload_n 0, 1) := by decide +kernel
theorem dX4_init_5 : decode cX4_init 5 = .ok (.bipush 120, 2) := by decide +kernel
theorem dX4_init_7 : decode cX4_init 7 = .ok (.newarray .int, 2) := by decide +kernel
theorem dX4_init_9 : decode cX4_init 9 = .ok (.putfield 7, 3) := by decide +kernel
theorem dX4_init_12 : decode cX4_init 12 = .ok (.aload_n 0, 1) := by decide +kernel
theorem dX4_init_13 : decode cX4_init 13 = .ok (.bipush 120, 2) := by decide +kernel
theorem dX4_init_15 : decode cX4_init 15 = .ok (.newarray .int, 2) := by decide +kernel
theorem dX4_init_17 : decode cX4_init 17 = .ok (.putfield 13, 3) := by decide +kernel
theorem dX4_init_20 : decode cX4_init 20 = .ok (.aload_n 0, 1) := by decide +kernel
theorem dX4_init_21 : decode cX4_init 21 = .ok (.sipush 720, 3) := by decide +kernel
theorem dX4_init_24 : decode cX4_init 24 = .ok (.newarray .int, 2) := by decide +kernel
theorem dX4_init_26 : decode cX4_init 26 = .ok (.putfield 16, 3) := by decide +kernel
theorem dX4_init_29 : decode cX4_init 29 = .ok (.aload_n 0, 1) := by decide +kernel
theorem dX4_init_30 : decode cX4_init 30 = .ok (.bipush 60, 2) := by decide +kernel
theorem dX4_init_32 : decode cX4_init 32 = .ok (.newarray .int, 2) := by decide +kernel
theorem dX4_init_34 : decode cX4_init 34 = .ok (.putfield 19, 3) := by decide +kernel
theorem dX4_init_37 : decode cX4_init 37 = .ok (.aload_n 0, 1) := by decide +kernel
theorem dX4_init_38 : decode cX4_init 38 = .ok (.bipush 96, 2) := by decide +kernel
theorem dX4_init_40 : decode cX4_init 40 = .ok (.newarray .int, 2) := by decide +kernel
theorem dX4_init_42 : decode cX4_init 42 = .ok (.putfield 22, 3) := by decide +kernel
theorem dX4_init_45 : decode cX4_init 45 = .ok (.aload_n 0, 1) := by decide +kernel
theorem dX4_init_46 : decode cX4_init 46 = .ok (.iconst 0, 1) := by decide +kernel
theorem dX4_init_47 : decode cX4_init 47 = .ok (.putfield 25, 3) := by decide +kernel
theorem dX4_init_50 : decode cX4_init 50 = .ok (.aload_n 0, 1) := by decide +kernel
theorem dX4_init_51 : decode cX4_init 51 = .ok (.getfield 7, 3) := by decide +kernel
theorem dX4_init_54 : decode cX4_init 54 = .ok (.iconst 0, 1) := by decide +kernel
theorem dX4_init_55 : decode cX4_init 55 = .ok (.bipush 20, 2) := by decide +kernel
theorem dX4_init_57 : decode cX4_init 57 = .ok (.iastore, 1) := by decide +kernel
theorem dX4_init_58 : decode cX4_init 58 = .ok (.aload_n 0, 1) := by decide +kernel
theorem dX4_init_59 : decode cX4_init 59 = .ok (.getfield 7, 3) := by decide +kernel
theorem dX4_init_62 : decode cX4_init 62 = .ok (.iconst 1, 1) := by decide +kernel
theorem dX4_init_63 : decode cX4_init 63 = .ok (.iconst 3, 1) := by decide +kernel
theorem dX4_init_64 : decode cX4_init 64 = .ok (.iastore, 1) := by decide +kernel
theorem dX4_init_65 : decode cX4_init 65 = .ok (.aload_n 0, 1) := by decide +kernel
theorem dX4_init_66 : decode cX4_init 66 = .ok (.getfield 7, 3) := by decide +kernel
theorem dX4_init_69 : decode cX4_init 69 = .ok (.iconst 2, 1) := by decide +kernel
theorem dX4_init_70 : decode cX4_init 70 = .ok (.bipush 10, 2) := by decide +kernel
theorem dX4_init_72 : decode cX4_init 72 = .ok (.iastore, 1) := by decide +kernel
theorem dX4_init_73 : decode cX4_init 73 = .ok (.return_, 1) := by decide +kernel
theorem dX4_thrown_0 : decode cX4_thrown 0 = .ok (.aload_n 0, 1) := by decide +kernel
theorem dX4_thrown_1 : decode cX4_thrown 1 = .ok (.getfield 25, 3) := by decide +kernel
theorem dX4_thrown_4 : decode cX4_thrown 4 = .ok (.ireturn, 1) := by decide +kernel
theorem dX4_in_0 : decode cX4_in 0 = .ok (.iload_n 0, 1) := by decide +kernel
theorem dX4_in_1 : decode cX4_in 1 = .ok (.iload_n 1, 1) := by decide +kernel
theorem dX4_in_2 : decode cX4_in 2 = .ok (.if_icmp .lt 12, 3) := by decide +kernel
theorem dX4_in_5 : decode cX4_in 5 = .ok (.iload_n 0, 1) := by decide +kernel
theorem dX4_in_6 : decode cX4_in 6 = .ok (.iload_n 2, 1) := by decide +kernel
theorem dX4_in_7 : decode cX4_in 7 = .ok (.if_icmp .gt 7, 3) := by decide +kernel
theorem dX4_in_10 : decode cX4_in 10 = .ok (.iconst 1, 1) := by decide +kernel
theorem dX4_in_11 : decode cX4_in 11 = .ok (.goto 4, 3) := by decide +kernel
theorem dX4_in_14 : decode cX4_in 14 = .ok (.iconst 0, 1) := by decide +kernel
theorem dX4_in_15 : decode cX4_in 15 = .ok (.ireturn, 1) := by decide +kernel
theorem dX4_fails_0 : decode cX4_fails 0 = .ok (.aload_n 0, 1) := by decide +kernel
theorem dX4_fails_1 : decode cX4_fails 1 = .ok (.iload_n 1, 1) := by decide +kernel
theorem dX4_fails_2 : decode cX4_fails 2 = .ok (.putfield 25, 3) := by decide +kernel
theorem dX4_fails_5 : decode cX4_fails 5 = .ok (.iconst 0, 1) := by decide +kernel
theorem dX4_fails_6 : decode cX4_fails 6 = .ok (.ireturn, 1) := by decide +kernel
set_option maxRecDepth 20000 in
theorem ggX4_isPair_X4_in : GoodIn wsX4_isPair wsX4_in := goodIn_r _ [4] (by decide +kernel) (by decide +kernel)
set_option maxRecDepth 20000 in
theorem gX4_isPair_X4_in : GoodIn wsX4_isPair (va_wsS RX4 29 yX4_in wsX4_in) := goodIn_app (goodIn_of _ (by decide +kernel)) ggX4_isPair_X4_in
theorem dX4_isPair_0 : decode cX4_isPair 0 = .ok (.iload_n 0, 1) := by decide +kernel
theorem dX4_isPair_1 : decode cX4_isPair 1 = .ok (.iconst 0, 1) := by decide +kernel
theorem dX4_isPair_2 : decode cX4_isPair 2 = .ok (.bipush 7, 2) := by decide +kernel
theorem dX4_isPair_4 : decode cX4_isPair 4 = .ok (.invokestatic 29, 3) := by decide +kernel
theorem dX4_isPair_7 : decode cX4_isPair 7 = .ok (.ifCond .eq 16, 3) := by decide +kernel
theorem dX4_isPair_10 : decode cX4_isPair 10 = .ok (.iload_n 1, 1) := by decide +kernel
theorem dX4_isPair_11 : decode cX4_isPair 11 = .ok (.iconst 0, 1) := by decide +kernel
theorem dX4_isPair_12 : decode cX4_isPair 12 = .ok (.iconst 5, 1) := by decide +kernel
theorem dX4_isPair_13 : decode cX4_isPair 13 = .ok (.invokestatic 29, 3) := by decide +kernel
theorem dX4_isPair_16 : decode cX4_isPair 16 = .ok (.ifCond .eq 7, 3) := by decide +kernel
theorem dX4_isPair_19 : decode cX4_isPair 19 = .ok (.iconst 1, 1) := by decide +kernel
theorem dX4_isPair_20 : decode cX4_isPair 20 = .ok (.goto 4, 3) := by decide +kernel
theorem dX4_isPair_23 : decode cX4_isPair 23 = .ok (.iconst 0, 1) := by decide +kernel
theorem dX4_isPair_24 : decode cX4_isPair 24 = .ok (.ireturn, 1) := by decide +kernel
set_option maxRecDepth 20000 in
theorem ggX4_isConcert_X4_in : GoodIn wsX4_isConcert wsX4_in := goodIn_r _ [4] (by decide +kernel) (by decide +kernel)
set_option maxRecDepth 20000 in
theorem gX4_isConcert_X4_in : GoodIn wsX4_isConcert (va_wsS RX4 29 yX4_in wsX4_in) := goodIn_app (goodIn_of _ (by decide +kernel)) ggX4_isConcert_X4_in
theorem dX4_isConcert_0 : decode cX4_isConcert 0 = .ok (.iload_n 0, 1) := by decide +kernel
theorem dX4_isConcert_1 : decode cX4_isConcert 1 = .ok (.iconst 0, 1) := by decide +kernel
theorem dX4_isConcert_2 : decode cX4_isConcert 2 = .ok (.iconst 5, 1) := by decide +kernel
theorem dX4_isConcert_3 : decode cX4_isConcert 3 = .ok (.invokestatic 29, 3) := by decide +kernel
theorem dX4_isConcert_6 : decode cX4_isConcert 6 = .ok (.ireturn, 1) := by decide +kernel
theorem dX4_cellOf_0 : decode cX4_cellOf 0 = .ok (.bipush 6, 2) := by decide +kernel
theorem dX4_cellOf_2 : decode cX4_cellOf 2 = .ok (.iload_n 0, 1) := by decide +kernel
theorem dX4_cellOf_3 : decode cX4_cellOf 3 = .ok (.imul, 1) := by decide +kernel
theorem dX4_cellOf_4 : decode cX4_cellOf 4 = .ok (.iload_n 1, 1) := by decide +kernel
theorem dX4_cellOf_5 : decode cX4_cellOf 5 = .ok (.iadd, 1) := by decide +kernel
theorem dX4_cellOf_6 : decode cX4_cellOf 6 = .ok (.ireturn, 1) := by decide +kernel
theorem dX4_saves_0 : decode cX4_saves 0 = .ok (.aload_n 0, 1) := by decide +kernel
theorem dX4_saves_1 : decode cX4_saves 1 = .ok (.getfield 33, 3) := by decide +kernel
theorem dX4_saves_4 : decode cX4_saves 4 = .ok (.bipush 6, 2) := by decide +kernel
theorem dX4_saves_6 : decode cX4_saves 6 = .ok (.if_icmp .ne 43, 3) := by decide +kernel
theorem dX4_saves_9 : decode cX4_saves 9 = .ok (.iconst 0, 1) := by decide +kernel
theorem dX4_saves_10 : decode cX4_saves 10 = .ok (.istore_n 1, 1) := by decide +kernel
theorem dX4_saves_11 : decode cX4_saves 11 = .ok (.iload_n 1, 1) := by decide +kernel
theorem dX4_saves_12 : decode cX4_saves 12 = .ok (.sipush 600, 3) := by decide +kernel
theorem dX4_saves_15 : decode cX4_saves 15 = .ok (.if_icmp .ge 24, 3) := by decide +kernel
theorem dX4_saves_18 : decode cX4_saves 18 = .ok (.aload_n 0, 1) := by decide +kernel
theorem dX4_saves_19 : decode cX4_saves 19 = .ok (.getfield 16, 3) := by decide +kernel
theorem dX4_saves_22 : decode cX4_saves 22 = .ok (.iload_n 1, 1) := by decide +kernel
theorem dX4_saves_23 : decode cX4_saves 23 = .ok (.aload_n 0, 1) := by decide +kernel
theorem dX4_saves_24 : decode cX4_saves 24 = .ok (.getfield 16, 3) := by decide +kernel
theorem dX4_saves_27 : decode cX4_saves 27 = .ok (.iload_n 1, 1) := by decide +kernel
theorem dX4_saves_28 : decode cX4_saves 28 = .ok (.bipush 120, 2) := by decide +kernel
theorem dX4_saves_30 : decode cX4_saves 30 = .ok (.iadd, 1) := by decide +kernel
theorem dX4_saves_31 : decode cX4_saves 31 = .ok (.iaload, 1) := by decide +kernel
theorem dX4_saves_32 : decode cX4_saves 32 = .ok (.iastore, 1) := by decide +kernel
theorem dX4_saves_33 : decode cX4_saves 33 = .ok (.iinc 1 1, 3) := by decide +kernel
theorem dX4_saves_36 : decode cX4_saves 36 = .ok (.goto (-25), 3) := by decide +kernel
theorem dX4_saves_39 : decode cX4_saves 39 = .ok (.aload_n 0, 1) := by decide +kernel
theorem dX4_saves_40 : decode cX4_saves 40 = .ok (.dup, 1) := by decide +kernel
theorem dX4_saves_41 : decode cX4_saves 41 = .ok (.getfield 33, 3) := by decide +kernel
theorem dX4_saves_44 : decode cX4_saves 44 = .ok (.iconst 1, 1) := by decide +kernel
theorem dX4_saves_45 : decode cX4_saves 45 = .ok (.isub, 1) := by decide +kernel
theorem dX4_saves_46 : decode cX4_saves 46 = .ok (.putfield 33, 3) := by decide +kernel
theorem dX4_saves_49 : decode cX4_saves 49 = .ok (.iconst 0, 1) := by decide +kernel
theorem dX4_saves_50 : decode cX4_saves 50 = .ok (.istore_n 1, 1) := by decide +kernel
theorem dX4_saves_51 : decode cX4_saves 51 = .ok (.iload_n 1, 1) := by decide +kernel
theorem dX4_saves_52 : decode cX4_saves 52 = .ok (.bipush 120, 2) := by decide +kernel
theorem dX4_saves_54 : decode cX4_saves 54 = .ok (.if_icmp .ge 29, 3) := by decide +kernel
theorem dX4_saves_57 : decode cX4_saves 57 = .ok (.aload_n 0, 1) := by decide +kernel
theorem dX4_saves_58 : decode cX4_saves 58 = .ok (.getfield 16, 3) := by decide +kernel
theorem dX4_saves_61 : decode cX4_saves 61 = .ok (.bipush 120, 2) := by decide +kernel
theorem dX4_saves_63 : decode cX4_saves 63 = .ok (.aload_n 0, 1) := by decide +kernel
theorem dX4_saves_64 : decode cX4_saves 64 = .ok (.getfield 33, 3) := by decide +kernel
theorem dX4_saves_67 : decode cX4_saves 67 = .ok (.imul, 1) := by decide +kernel
theorem dX4_saves_68 : decode cX4_saves 68 = .ok (.iload_n 1, 1) := by decide +kernel
theorem dX4_saves_69 : decode cX4_saves 69 = .ok (.iadd, 1) := by decide +kernel
theorem dX4_saves_70 : decode cX4_saves 70 = .ok (.aload_n 0, 1) := by decide +kernel
theorem dX4_saves_71 : decode cX4_saves 71 = .ok (.getfield 7, 3) := by decide +kernel
theorem dX4_saves_74 : decode cX4_saves 74 = .ok (.iload_n 1, 1) := by decide +kernel
theorem dX4_saves_75 : decode cX4_saves 75 = .ok (.iaload, 1) := by decide +kernel
theorem dX4_saves_76 : decode cX4_saves 76 = .ok (.iastore, 1) := by decide +kernel
theorem dX4_saves_77 : decode cX4_saves 77 = .ok (.iinc 1 1, 3) := by decide +kernel
theorem dX4_saves_80 : decode cX4_saves 80 = .ok (.goto (-29), 3) := by decide +kernel
theorem dX4_saves_83 : decode cX4_saves 83 = .ok (.aload_n 0, 1) := by decide +kernel
theorem dX4_saves_84 : decode cX4_saves 84 = .ok (.dup, 1) := by decide +kernel
theorem dX4_saves_85 : decode cX4_saves 85 = .ok (.getfield 33, 3) := by decide +kernel
theorem dX4_saves_88 : decode cX4_saves 88 = .ok (.iconst 1, 1) := by decide +kernel
theorem dX4_saves_89 : decode cX4_saves 89 = .ok (.iadd, 1) := by decide +kernel
theorem dX4_saves_90 : decode cX4_saves 90 = .ok (.putfield 33, 3) := by decide +kernel
theorem dX4_saves_93 : decode cX4_saves 93 = .ok (.return_, 1) := by decide +kernel
theorem dX4_putAside_0 : decode cX4_putAside 0 = .ok (.iconst 0, 1) := by decide +kernel
theorem dX4_putAside_1 : decode cX4_putAside 1 = .ok (.istore_n 1, 1) := by decide +kernel
theorem dX4_putAside_2 : decode cX4_putAside 2 = .ok (.iload_n 1, 1) := by decide +kernel
theorem dX4_putAside_3 : decode cX4_putAside 3 = .ok (.bipush 120, 2) := by decide +kernel
theorem dX4_putAside_5 : decode cX4_putAside 5 = .ok (.if_icmp .ge 21, 3) := by decide +kernel
theorem dX4_putAside_8 : decode cX4_putAside 8 = .ok (.aload_n 0, 1) := by decide +kernel
theorem dX4_putAside_9 : decode cX4_putAside 9 = .ok (.getfield 13, 3) := by decide +kernel
theorem dX4_putAside_12 : decode cX4_putAside 12 = .ok (.iload_n 1, 1) := by decide +kernel
theorem dX4_putAside_13 : decode cX4_putAside 13 = .ok (.aload_n 0, 1) := by decide +kernel
theorem dX4_putAside_14 : decode cX4_putAside 14 = .ok (.getfield 7, 3) := by decide +kernel
theorem dX4_putAside_17 : decode cX4_putAside 17 = .ok (.iload_n 1, 1) := by decide +kernel
theorem dX4_putAside_18 : decode cX4_putAside 18 = .ok (.iaload, 1) := by decide +kernel
theorem dX4_putAside_19 : decode cX4_putAside 19 = .ok (.iastore, 1) := by decide +kernel
theorem dX4_putAside_20 : decode cX4_putAside 20 = .ok (.iinc 1 1, 3) := by decide +kernel
theorem dX4_putAside_23 : decode cX4_putAside 23 = .ok (.goto (-21), 3) := by decide +kernel
theorem dX4_putAside_26 : decode cX4_putAside 26 = .ok (.return_, 1) := by decide +kernel
theorem dX4_takeBack_0 : decode cX4_takeBack 0 = .ok (.iconst 0, 1) := by decide +kernel
theorem dX4_takeBack_1 : decode cX4_takeBack 1 = .ok (.istore_n 1, 1) := by decide +kernel
theorem dX4_takeBack_2 : decode cX4_takeBack 2 = .ok (.iload_n 1, 1) := by decide +kernel
theorem dX4_takeBack_3 : decode cX4_takeBack 3 = .ok (.bipush 120, 2) := by decide +kernel
theorem dX4_takeBack_5 : decode cX4_takeBack 5 = .ok (.if_icmp .ge 21, 3) := by decide +kernel
theorem dX4_takeBack_8 : decode cX4_takeBack 8 = .ok (.aload_n 0, 1) := by decide +kernel
theorem dX4_takeBack_9 : decode cX4_takeBack 9 = .ok (.getfield 7, 3) := by decide +kernel
theorem dX4_takeBack_12 : decode cX4_takeBack 12 = .ok (.iload_n 1, 1) := by decide +kernel
theorem dX4_takeBack_13 : decode cX4_takeBack 13 = .ok (.aload_n 0, 1) := by decide +kernel
theorem dX4_takeBack_14 : decode cX4_takeBack 14 = .ok (.getfield 13, 3) := by decide +kernel
theorem dX4_takeBack_17 : decode cX4_takeBack 17 = .ok (.iload_n 1, 1) := by decide +kernel
theorem dX4_takeBack_18 : decode cX4_takeBack 18 = .ok (.iaload, 1) := by decide +kernel
theorem dX4_takeBack_19 : decode cX4_takeBack 19 = .ok (.iastore, 1) := by decide +kernel
theorem dX4_takeBack_20 : decode cX4_takeBack 20 = .ok (.iinc 1 1, 3) := by decide +kernel
theorem dX4_takeBack_23 : decode cX4_takeBack 23 = .ok (.goto (-21), 3) := by decide +kernel
theorem dX4_takeBack_26 : decode cX4_takeBack 26 = .ok (.return_, 1) := by decide +kernel
theorem dX4_calls_0 : decode cX4_calls 0 = .ok (.aload_n 0, 1) := by decide +kernel
theorem dX4_calls_1 : decode cX4_calls 1 = .ok (.getfield 7, 3) := by decide +kernel
theorem dX4_calls_4 : decode cX4_calls 4 = .ok (.bipush 69, 2) := by decide +kernel
theorem dX4_calls_6 : decode cX4_calls 6 = .ok (.iload_n 1, 1) := by decide +kernel
theorem dX4_calls_7 : decode cX4_calls 7 = .ok (.iadd, 1) := by decide +kernel
theorem dX4_calls_8 : decode cX4_calls 8 = .ok (.aload_n 0, 1) := by decide +kernel
theorem dX4_calls_9 : decode cX4_calls 9 = .ok (.getfield 7, 3) := by decide +kernel
theorem dX4_calls_12 : decode cX4_calls 12 = .ok (.iconst 0, 1) := by decide +kernel
theorem dX4_calls_13 : decode cX4_calls 13 = .ok (.iaload, 1) := by decide +kernel
theorem dX4_calls_14 : decode cX4_calls 14 = .ok (.iastore, 1) := by decide +kernel
theorem dX4_calls_15 : decode cX4_calls 15 = .ok (.aload_n 0, 1) := by decide +kernel
theorem dX4_calls_16 : decode cX4_calls 16 = .ok (.getfield 7, 3) := by decide +kernel
theorem dX4_calls_19 : decode cX4_calls 19 = .ok (.bipush 12, 2) := by decide +kernel
theorem dX4_calls_21 : decode cX4_calls 21 = .ok (.dup2, 1) := by decide +kernel
theorem dX4_calls_22 : decode cX4_calls 22 = .ok (.iaload, 1) := by decide +kernel
theorem dX4_calls_23 : decode cX4_calls 23 = .ok (.iconst 1, 1) := by decide +kernel
theorem dX4_calls_24 : decode cX4_calls 24 = .ok (.iadd, 1) := by decide +kernel
theorem dX4_calls_25 : decode cX4_calls 25 = .ok (.iastore, 1) := by decide +kernel
theorem dX4_calls_26 : decode cX4_calls 26 = .ok (.return_, 1) := by decide +kernel
set_option maxRecDepth 20000 in
theorem ggX4_comes_X4_calls : GoodIn wsX4_comes wsX4_calls := goodIn_r _ [6, 1, 7, 8, 9, 10, 11, 12, 13, 14, 15, 16, 17, 18] (by decide +kernel) (by decide +kernel)
set_option maxRecDepth 20000 in
theorem gX4_comes_X4_calls : GoodIn wsX4_comes (wsV RX4 36 RX4 yX4_calls wsX4_calls) := goodIn_app (goodIn_of _ (by decide +kernel)) ggX4_comes_X4_calls
theorem dX4_comes_0 : decode cX4_comes 0 = .ok (.aload_n 0, 1) := by decide +kernel
theorem dX4_comes_1 : decode cX4_comes 1 = .ok (.getfield 7, 3) := by decide +kernel
theorem dX4_comes_4 : decode cX4_comes 4 = .ok (.bipush 21, 2) := by decide +kernel
theorem dX4_comes_6 : decode cX4_comes 6 = .ok (.iload_n 1, 1) := by decide +kernel
theorem dX4_comes_7 : decode cX4_comes 7 = .ok (.iadd, 1) := by decide +kernel
theorem dX4_comes_8 : decode cX4_comes 8 = .ok (.dup2, 1) := by decide +kernel
theorem dX4_comes_9 : decode cX4_comes 9 = .ok (.iaload, 1) := by decide +kernel
theorem dX4_comes_10 : decode cX4_comes 10 = .ok (.iconst 1, 1) := by decide +kernel
theorem dX4_comes_11 : decode cX4_comes 11 = .ok (.iadd, 1) := by decide +kernel
theorem dX4_comes_12 : decode cX4_comes 12 = .ok (.iastore, 1) := by decide +kernel
theorem dX4_comes_13 : decode cX4_comes 13 = .ok (.aload_n 0, 1) := by decide +kernel
theorem dX4_comes_14 : decode cX4_comes 14 = .ok (.iload_n 1, 1) := by decide +kernel
theorem dX4_comes_15 : decode cX4_comes 15 = .ok (.invokevirtual 36, 3) := by decide +kernel
theorem dX4_comes_18 : decode cX4_comes 18 = .ok (.aload_n 0, 1) := by decide +kernel
theorem dX4_comes_19 : decode cX4_comes 19 = .ok (.getfield 7, 3) := by decide +kernel
theorem dX4_comes_22 : decode cX4_comes 22 = .ok (.bipush 21, 2) := by decide +kernel
theorem dX4_comes_24 : decode cX4_comes 24 = .ok (.iload_n 1, 1) := by decide +kernel
theorem dX4_comes_25 : decode cX4_comes 25 = .ok (.iadd, 1) := by decide +kernel
theorem dX4_comes_26 : decode cX4_comes 26 = .ok (.iaload, 1) := by decide +kernel
theorem dX4_comes_27 : decode cX4_comes 27 = .ok (.ireturn, 1) := by decide +kernel
set_option maxRecDepth 20000 in
theorem ggX4_come_X4_isPair : GoodIn wsX4_come wsX4_isPair := goodIn_r _ [6, 7, 8, 5, 9] (by decide +kernel) (by decide +kernel)
set_option maxRecDepth 20000 in
theorem gX4_come_X4_isPair : GoodIn wsX4_come (va_wsS RX4 40 yX4_isPair wsX4_isPair) := goodIn_app (goodIn_of _ (by decide +kernel)) ggX4_come_X4_isPair
set_option maxRecDepth 20000 in
theorem ggX4_come_X4_fails : GoodIn wsX4_come wsX4_fails := goodIn_r _ [13, 1, 31, 32, 33, 34, 35, 36, 37, 38, 39, 40, 41, 42] (by decide +kernel) (by decide +kernel)
set_option maxRecDepth 20000 in
theorem gX4_come_X4_fails : GoodIn wsX4_come (wsV RX4 44 RX4 yX4_fails wsX4_fails) := goodIn_app (goodIn_of _ (by decide +kernel)) ggX4_come_X4_fails
set_option maxRecDepth 20000 in
theorem ggX4_come_X4_cellOf : GoodIn wsX4_come wsX4_cellOf := goodIn_r _ [16] (by decide +kernel) (by decide +kernel)
set_option maxRecDepth 20000 in
theorem gX4_come_X4_cellOf : GoodIn wsX4_come (va_wsS RX4 48 yX4_cellOf wsX4_cellOf) := goodIn_app (goodIn_of _ (by decide +kernel)) ggX4_come_X4_cellOf
set_option maxRecDepth 20000 in
theorem ggX4_come_X4_saves : GoodIn wsX4_come wsX4_saves := goodIn_r _ [20, 21, 22, 2, 31, 32, 33, 34, 35, 36, 37, 38, 39, 40, 41, 42] (by decide +kernel) (by decide +kernel)
set_option maxRecDepth 20000 in
theorem gX4_come_X4_saves : GoodIn wsX4_come (wsV RX4 52 RX4 yX4_saves wsX4_saves) := goodIn_app (goodIn_of _ (by decide +kernel)) ggX4_come_X4_saves
set_option maxRecDepth 20000 in
theorem ggX4_come_X4_comes : GoodIn wsX4_come wsX4_comes := goodIn_r _ [26, 2, 27, 28, 29, 5, 30, 31, 32, 33, 34, 35, 36, 37, 38, 39, 40, 41, 42] (by decide +kernel) (by decide +kernel)
set_option maxRecDepth 20000 in
theorem gX4_come_X4_comes : GoodIn wsX4_come (wsV RX4 55 RX4 yX4_comes wsX4_comes) := goodIn_app (goodIn_of _ (by decide +kernel)) ggX4_come_X4_comes
theorem dX4_come_0 : decode cX4_come 0 = .ok (.aload_n 0, 1) := by decide +kernel
theorem dX4_come_1 : decode cX4_come 1 = .ok (.iconst 0, 1) := by decide +kernel
theorem dX4_come_2 : decode cX4_come 2 = .ok (.putfield 25, 3) := by decide +kernel
theorem dX4_come_5 : decode cX4_come 5 = .ok (.iload_n 1, 1) := by decide +kernel
theorem dX4_come_6 : decode cX4_come 6 = .ok (.iload_n 2, 1) := by decide +kernel
theorem dX4_come_7 : decode cX4_come 7 = .ok (.invokestatic 40, 3) := by decide +kernel
theorem dX4_come_10 : decode cX4_come 10 = .ok (.ifCond .ne 9, 3) := by decide +kernel
theorem dX4_come_13 : decode cX4_come 13 = .ok (.aload_n 0, 1) := by decide +kernel
theorem dX4_come_14 : decode cX4_come 14 = .ok (.iconst 1, 1) := by decide +kernel
theorem dX4_come_15 : decode cX4_come 15 = .ok (.invokevirtual 44, 3) := by decide +kernel
theorem dX4_come_18 : decode cX4_come 18 = .ok (.ireturn, 1) := by decide +kernel
theorem dX4_come_19 : decode cX4_come 19 = .ok (.aload_n 0, 1) := by decide +kernel
theorem dX4_come_20 : decode cX4_come 20 = .ok (.getfield 7, 3) := by decide +kernel
theorem dX4_come_23 : decode cX4_come 23 = .ok (.bipush 21, 2) := by decide +kernel
theorem dX4_come_25 : decode cX4_come 25 = .ok (.iload_n 1, 1) := by decide +kernel
theorem dX4_come_26 : decode cX4_come 26 = .ok (.iload_n 2, 1) := by decide +kernel
theorem dX4_come_27 : decode cX4_come 27 = .ok (.invokestatic 48, 3) := by decide +kernel
theorem dX4_come_30 : decode cX4_come 30 = .ok (.iadd, 1) := by decide +kernel
theorem dX4_come_31 : decode cX4_come 31 = .ok (.iaload, 1) := by decide +kernel
theorem dX4_come_32 : decode cX4_come 32 = .ok (.bipush 9, 2) := by decide +kernel
theorem dX4_come_34 : decode cX4_come 34 = .ok (.if_icmp .ne 9, 3) := by decide +kernel
theorem dX4_come_37 : decode cX4_come 37 = .ok (.aload_n 0, 1) := by decide +kernel
theorem dX4_come_38 : decode cX4_come 38 = .ok (.iconst 2, 1) := by decide +kernel
theorem dX4_come_39 : decode cX4_come 39 = .ok (.invokevirtual 44, 3) := by decide +kernel
theorem dX4_come_42 : decode cX4_come 42 = .ok (.ireturn, 1) := by decide +kernel
theorem dX4_come_43 : decode cX4_come 43 = .ok (.aload_n 0, 1) := by decide +kernel
theorem dX4_come_44 : decode cX4_come 44 = .ok (.invokevirtual 52, 3) := by decide +kernel
theorem dX4_come_47 : decode cX4_come 47 = .ok (.aload_n 0, 1) := by decide +kernel
theorem dX4_come_48 : decode cX4_come 48 = .ok (.iload_n 1, 1) := by decide +kernel
theorem dX4_come_49 : decode cX4_come 49 = .ok (.iload_n 2, 1) := by decide +kernel
theorem dX4_come_50 : decode cX4_come 50 = .ok (.invokestatic 48, 3) := by decide +kernel
theorem dX4_come_53 : decode cX4_come 53 = .ok (.invokevirtual 55, 3) := by decide +kernel
theorem dX4_come_56 : decode cX4_come 56 = .ok (.ireturn, 1) := by decide +kernel
set_option maxRecDepth 20000 in
theorem ggX4_farewell_X4_calls : GoodIn wsX4_farewell wsX4_calls := goodIn_r _ [6, 1, 7, 8, 9, 10, 11, 12, 13, 14, 15, 16, 17, 18] (by decide +kernel) (by decide +kernel)
set_option maxRecDepth 20000 in
theorem gX4_farewell_X4_calls : GoodIn wsX4_farewell (wsV RX4 36 RX4 yX4_calls wsX4_calls) := goodIn_app (goodIn_of _ (by decide +kernel)) ggX4_farewell_X4_calls
theorem dX4_farewell_0 : decode cX4_farewell 0 = .ok (.aload_n 0, 1) := by decide +kernel
theorem dX4_farewell_1 : decode cX4_farewell 1 = .ok (.getfield 7, 3) := by decide +kernel
theorem dX4_farewell_4 : decode cX4_farewell 4 = .ok (.iconst 3, 1) := by decide +kernel
theorem dX4_farewell_5 : decode cX4_farewell 5 = .ok (.iaload, 1) := by decide +kernel
theorem dX4_farewell_6 : decode cX4_farewell 6 = .ok (.iconst 1, 1) := by decide +kernel
theorem dX4_farewell_7 : decode cX4_farewell 7 = .ok (.if_icmp .ne 28, 3) := by decide +kernel
theorem dX4_farewell_10 : decode cX4_farewell 10 = .ok (.aload_n 0, 1) := by decide +kernel
theorem dX4_farewell_11 : decode cX4_farewell 11 = .ok (.getfield 7, 3) := by decide +kernel
theorem dX4_farewell_14 : decode cX4_farewell 14 = .ok (.bipush 21, 2) := by decide +kernel
theorem dX4_farewell_16 : decode cX4_farewell 16 = .ok (.iload_n 1, 1) := by decide +kernel
theorem dX4_farewell_17 : decode cX4_farewell 17 = .ok (.iadd, 1) := by decide +kernel
theorem dX4_farewell_18 : decode cX4_farewell 18 = .ok (.iaload, 1) := by decide +kernel
theorem dX4_farewell_19 : decode cX4_farewell 19 = .ok (.ifCond .ne 16, 3) := by decide +kernel
theorem dX4_farewell_22 : decode cX4_farewell 22 = .ok (.aload_n 0, 1) := by decide +kernel
theorem dX4_farewell_23 : decode cX4_farewell 23 = .ok (.getfield 7, 3) := by decide +kernel
theorem dX4_farewell_26 : decode cX4_farewell 26 = .ok (.bipush 69, 2) := by decide +kernel
theorem dX4_farewell_28 : decode cX4_farewell 28 = .ok (.iload_n 1, 1) := by decide +kernel
theorem dX4_farewell_29 : decode cX4_farewell 29 = .ok (.iadd, 1) := by decide +kernel
theorem dX4_farewell_30 : decode cX4_farewell 30 = .ok (.iconst 0, 1) := by decide +kernel
theorem dX4_farewell_31 : decode cX4_farewell 31 = .ok (.iastore, 1) := by decide +kernel
theorem dX4_farewell_32 : decode cX4_farewell 32 = .ok (.goto 64, 3) := by decide +kernel
theorem dX4_farewell_35 : decode cX4_farewell 35 = .ok (.aload_n 0, 1) := by decide +kernel
theorem dX4_farewell_36 : decode cX4_farewell 36 = .ok (.getfield 7, 3) := by decide +kernel
theorem dX4_farewell_39 : decode cX4_farewell 39 = .ok (.bipush 69, 2) := by decide +kernel
theorem dX4_farewell_41 : decode cX4_farewell 41 = .ok (.iload_n 1, 1) := by decide +kernel
theorem dX4_farewell_42 : decode cX4_farewell 42 = .ok (.iadd, 1) := by decide +kernel
theorem dX4_farewell_43 : decode cX4_farewell 43 = .ok (.iaload, 1) := by decide +kernel
theorem dX4_farewell_44 : decode cX4_farewell 44 = .ok (.aload_n 0, 1) := by decide +kernel
theorem dX4_farewell_45 : decode cX4_farewell 45 = .ok (.getfield 7, 3) := by decide +kernel
theorem dX4_farewell_48 : decode cX4_farewell 48 = .ok (.iconst 1, 1) := by decide +kernel
theorem dX4_farewell_49 : decode cX4_farewell 49 = .ok (.iaload, 1) := by decide +kernel
theorem dX4_farewell_50 : decode cX4_farewell 50 = .ok (.if_icmp .le 46, 3) := by decide +kernel
theorem dX4_farewell_53 : decode cX4_farewell 53 = .ok (.aload_n 0, 1) := by decide +kernel
theorem dX4_farewell_54 : decode cX4_farewell 54 = .ok (.getfield 7, 3) := by decide +kernel
theorem dX4_farewell_57 : decode cX4_farewell 57 = .ok (.bipush 69, 2) := by decide +kernel
theorem dX4_farewell_59 : decode cX4_farewell 59 = .ok (.iload_n 1, 1) := by decide +kernel
theorem dX4_farewell_60 : decode cX4_farewell 60 = .ok (.iadd, 1) := by decide +kernel
theorem dX4_farewell_61 : decode cX4_farewell 61 = .ok (.aload_n 0, 1) := by decide +kernel
theorem dX4_farewell_62 : decode cX4_farewell 62 = .ok (.getfield 7, 3) := by decide +kernel
theorem dX4_farewell_65 : decode cX4_farewell 65 = .ok (.iconst 1, 1) := by decide +kernel
theorem dX4_farewell_66 : decode cX4_farewell 66 = .ok (.iaload, 1) := by decide +kernel
theorem dX4_farewell_67 : decode cX4_farewell 67 = .ok (.iastore, 1) := by decide +kernel
theorem dX4_farewell_68 : decode cX4_farewell 68 = .ok (.aload_n 0, 1) := by decide +kernel
theorem dX4_farewell_69 : decode cX4_farewell 69 = .ok (.getfield 7, 3) := by decide +kernel
theorem dX4_farewell_72 : decode cX4_farewell 72 = .ok (.bipush 11, 2) := by decide +kernel
theorem dX4_farewell_74 : decode cX4_farewell 74 = .ok (.dup2, 1) := by decide +kernel
theorem dX4_farewell_75 : decode cX4_farewell 75 = .ok (.iaload, 1) := by decide +kernel
theorem dX4_farewell_76 : decode cX4_farewell 76 = .ok (.iconst 1, 1) := by decide +kernel
theorem dX4_farewell_77 : decode cX4_farewell 77 = .ok (.iadd, 1) := by decide +kernel
theorem dX4_farewell_78 : decode cX4_farewell 78 = .ok (.iastore, 1) := by decide +kernel
theorem dX4_farewell_79 : decode cX4_farewell 79 = .ok (.aload_n 0, 1) := by decide +kernel
theorem dX4_farewell_80 : decode cX4_farewell 80 = .ok (.getfield 7, 3) := by decide +kernel
theorem dX4_farewell_83 : decode cX4_farewell 83 = .ok (.bipush 21, 2) := by decide +kernel
theorem dX4_farewell_85 : decode cX4_farewell 85 = .ok (.iload_n 1, 1) := by decide +kernel
theorem dX4_farewell_86 : decode cX4_farewell 86 = .ok (.iadd, 1) := by decide +kernel
theorem dX4_farewell_87 : decode cX4_farewell 87 = .ok (.iaload, 1) := by decide +kernel
theorem dX4_farewell_88 : decode cX4_farewell 88 = .ok (.ifCond .le 8, 3) := by decide +kernel
theorem dX4_farewell_91 : decode cX4_farewell 91 = .ok (.aload_n 0, 1) := by decide +kernel
theorem dX4_farewell_92 : decode cX4_farewell 92 = .ok (.iload_n 1, 1) := by decide +kernel
theorem dX4_farewell_93 : decode cX4_farewell 93 = .ok (.invokevirtual 36, 3) := by decide +kernel
theorem dX4_farewell_96 : decode cX4_farewell 96 = .ok (.return_, 1) := by decide +kernel
set_option maxRecDepth 20000 in
theorem ggX4_leaves_X4_farewell : GoodIn wsX4_leaves wsX4_farewell := goodIn_r _ [6, 1, 7, 8, 9, 5, 10, 11, 12, 13, 14, 15, 16, 17, 18, 19, 20, 21, 22] (by decide +kernel) (by decide +kernel)
set_option maxRecDepth 20000 in
theorem gX4_leaves_X4_farewell : GoodIn wsX4_leaves (wsV RX4 58 RX4 yX4_farewell wsX4_farewell) := goodIn_app (goodIn_of _ (by decide +kernel)) ggX4_leaves_X4_farewell
theorem dX4_leaves_0 : decode cX4_leaves 0 = .ok (.aload_n 0, 1) := by decide +kernel
theorem dX4_leaves_1 : decode cX4_leaves 1 = .ok (.getfield 7, 3) := by decide +kernel
theorem dX4_leaves_4 : decode cX4_leaves 4 = .ok (.bipush 21, 2) := by decide +kernel
theorem dX4_leaves_6 : decode cX4_leaves 6 = .ok (.iload_n 1, 1) := by decide +kernel
theorem dX4_leaves_7 : decode cX4_leaves 7 = .ok (.iadd, 1) := by decide +kernel
theorem dX4_leaves_8 : decode cX4_leaves 8 = .ok (.dup2, 1) := by decide +kernel
theorem dX4_leaves_9 : decode cX4_leaves 9 = .ok (.iaload, 1) := by decide +kernel
theorem dX4_leaves_10 : decode cX4_leaves 10 = .ok (.iconst 1, 1) := by decide +kernel
theorem dX4_leaves_11 : decode cX4_leaves 11 = .ok (.isub, 1) := by decide +kernel
theorem dX4_leaves_12 : decode cX4_leaves 12 = .ok (.iastore, 1) := by decide +kernel
theorem dX4_leaves_13 : decode cX4_leaves 13 = .ok (.iload_n 2, 1) := by decide +kernel
theorem dX4_leaves_14 : decode cX4_leaves 14 = .ok (.ifCond .eq 8, 3) := by decide +kernel
theorem dX4_leaves_17 : decode cX4_leaves 17 = .ok (.aload_n 0, 1) := by decide +kernel
theorem dX4_leaves_18 : decode cX4_leaves 18 = .ok (.iload_n 1, 1) := by decide +kernel
theorem dX4_leaves_19 : decode cX4_leaves 19 = .ok (.invokevirtual 58, 3) := by decide +kernel
theorem dX4_leaves_22 : decode cX4_leaves 22 = .ok (.aload_n 0, 1) := by decide +kernel
theorem dX4_leaves_23 : decode cX4_leaves 23 = .ok (.getfield 7, 3) := by decide +kernel
theorem dX4_leaves_26 : decode cX4_leaves 26 = .ok (.bipush 21, 2) := by decide +kernel
theorem dX4_leaves_28 : decode cX4_leaves 28 = .ok (.iload_n 1, 1) := by decide +kernel
theorem dX4_leaves_29 : decode cX4_leaves 29 = .ok (.iadd, 1) := by decide +kernel
theorem dX4_leaves_30 : decode cX4_leaves 30 = .ok (.iaload, 1) := by decide +kernel
theorem dX4_leaves_31 : decode cX4_leaves 31 = .ok (.ireturn, 1) := by decide +kernel
set_option maxRecDepth 20000 in
theorem ggX4_leave_X4_isPair : GoodIn wsX4_leave wsX4_isPair := goodIn_r _ [6, 7, 8, 5, 9] (by decide +kernel) (by decide +kernel)
set_option maxRecDepth 20000 in
theorem gX4_leave_X4_isPair : GoodIn wsX4_leave (va_wsS RX4 40 yX4_isPair wsX4_isPair) := goodIn_app (goodIn_of _ (by decide +kernel)) ggX4_leave_X4_isPair
set_option maxRecDepth 20000 in
theorem ggX4_leave_X4_fails : GoodIn wsX4_leave wsX4_fails := goodIn_r _ [13, 1, 35, 36, 37, 38, 39, 40, 41, 42, 43, 44, 45, 46] (by decide +kernel) (by decide +kernel)
set_option maxRecDepth 20000 in
theorem gX4_leave_X4_fails : GoodIn wsX4_leave (wsV RX4 44 RX4 yX4_fails wsX4_fails) := goodIn_app (goodIn_of _ (by decide +kernel)) ggX4_leave_X4_fails
set_option maxRecDepth 20000 in
theorem ggX4_leave_X4_cellOf : GoodIn wsX4_leave wsX4_cellOf := goodIn_r _ [16] (by decide +kernel) (by decide +kernel)
set_option maxRecDepth 20000 in
theorem gX4_leave_X4_cellOf : GoodIn wsX4_leave (va_wsS RX4 48 yX4_cellOf wsX4_cellOf) := goodIn_app (goodIn_of _ (by decide +kernel)) ggX4_leave_X4_cellOf
set_option maxRecDepth 20000 in
theorem ggX4_leave_X4_saves : GoodIn wsX4_leave wsX4_saves := goodIn_r _ [20, 21, 22, 2, 35, 36, 37, 38, 39, 40, 41, 42, 43, 44, 45, 46] (by decide +kernel) (by decide +kernel)
set_option maxRecDepth 20000 in
theorem gX4_leave_X4_saves : GoodIn wsX4_leave (wsV RX4 52 RX4 yX4_saves wsX4_saves) := goodIn_app (goodIn_of _ (by decide +kernel)) ggX4_leave_X4_saves
set_option maxRecDepth 20000 in
theorem ggX4_leave_X4_leaves : GoodIn wsX4_leave wsX4_leaves := goodIn_r _ [26, 2, 27, 28, 29, 5, 30, 31, 32, 33, 34, 35, 36, 37, 38, 39, 40, 41, 42, 43, 44, 45, 46] (by decide +kernel) (by decide +kernel)
set_option maxRecDepth 20000 in
theorem gX4_leave_X4_leaves : GoodIn wsX4_leave (wsV RX4 61 RX4 yX4_leaves wsX4_leaves) := goodIn_app (goodIn_of _ (by decide +kernel)) ggX4_leave_X4_leaves
theorem dX4_leave_0 : decode cX4_leave 0 = .ok (.aload_n 0, 1) := by decide +kernel
theorem dX4_leave_1 : decode cX4_leave 1 = .ok (.iconst 0, 1) := by decide +kernel
theorem dX4_leave_2 : decode cX4_leave 2 = .ok (.putfield 25, 3) := by decide +kernel
theorem dX4_leave_5 : decode cX4_leave 5 = .ok (.iload_n 1, 1) := by decide +kernel
theorem dX4_leave_6 : decode cX4_leave 6 = .ok (.iload_n 2, 1) := by decide +kernel
theorem dX4_leave_7 : decode cX4_leave 7 = .ok (.invokestatic 40, 3) := by decide +kernel
theorem dX4_leave_10 : decode cX4_leave 10 = .ok (.ifCond .ne 9, 3) := by decide +kernel
theorem dX4_leave_13 : decode cX4_leave 13 = .ok (.aload_n 0, 1) := by decide +kernel
theorem dX4_leave_14 : decode cX4_leave 14 = .ok (.iconst 1, 1) := by decide +kernel
theorem dX4_leave_15 : decode cX4_leave 15 = .ok (.invokevirtual 44, 3) := by decide +kernel
theorem dX4_leave_18 : decode cX4_leave 18 = .ok (.ireturn, 1) := by decide +kernel
theorem dX4_leave_19 : decode cX4_leave 19 = .ok (.aload_n 0, 1) := by decide +kernel
theorem dX4_leave_20 : decode cX4_leave 20 = .ok (.getfield 7, 3) := by decide +kernel
theorem dX4_leave_23 : decode cX4_leave 23 = .ok (.bipush 21, 2) := by decide +kernel
theorem dX4_leave_25 : decode cX4_leave 25 = .ok (.iload_n 1, 1) := by decide +kernel
theorem dX4_leave_26 : decode cX4_leave 26 = .ok (.iload_n 2, 1) := by decide +kernel
theorem dX4_leave_27 : decode cX4_leave 27 = .ok (.invokestatic 48, 3) := by decide +kernel
theorem dX4_leave_30 : decode cX4_leave 30 = .ok (.iadd, 1) := by decide +kernel
theorem dX4_leave_31 : decode cX4_leave 31 = .ok (.iaload, 1) := by decide +kernel
theorem dX4_leave_32 : decode cX4_leave 32 = .ok (.ifCond .ne 9, 3) := by decide +kernel
theorem dX4_leave_35 : decode cX4_leave 35 = .ok (.aload_n 0, 1) := by decide +kernel
theorem dX4_leave_36 : decode cX4_leave 36 = .ok (.iconst 2, 1) := by decide +kernel
theorem dX4_leave_37 : decode cX4_leave 37 = .ok (.invokevirtual 44, 3) := by decide +kernel
theorem dX4_leave_40 : decode cX4_leave 40 = .ok (.ireturn, 1) := by decide +kernel
theorem dX4_leave_41 : decode cX4_leave 41 = .ok (.aload_n 0, 1) := by decide +kernel
theorem dX4_leave_42 : decode cX4_leave 42 = .ok (.invokevirtual 52, 3) := by decide +kernel
theorem dX4_leave_45 : decode cX4_leave 45 = .ok (.aload_n 0, 1) := by decide +kernel
theorem dX4_leave_46 : decode cX4_leave 46 = .ok (.iload_n 1, 1) := by decide +kernel
theorem dX4_leave_47 : decode cX4_leave 47 = .ok (.iload_n 2, 1) := by decide +kernel
theorem dX4_leave_48 : decode cX4_leave 48 = .ok (.invokestatic 48, 3) := by decide +kernel
theorem dX4_leave_51 : decode cX4_leave 51 = .ok (.iload_n 3, 1) := by decide +kernel
theorem dX4_leave_52 : decode cX4_leave 52 = .ok (.invokevirtual 61, 3) := by decide +kernel
theorem dX4_leave_55 : decode cX4_leave 55 = .ok (.ireturn, 1) := by decide +kernel
set_option maxRecDepth 20000 in
theorem ggX4_listeners_X4_isPair : GoodIn wsX4_listeners wsX4_isPair := goodIn_r _ [6, 7, 8, 5, 9] (by decide +kernel) (by decide +kernel)
set_option maxRecDepth 20000 in
theorem gX4_listeners_X4_isPair : GoodIn wsX4_listeners (va_wsS RX4 40 yX4_isPair wsX4_isPair) := goodIn_app (goodIn_of _ (by decide +kernel)) ggX4_listeners_X4_isPair
set_option maxRecDepth 20000 in
theorem ggX4_listeners_X4_cellOf : GoodIn wsX4_listeners wsX4_cellOf := goodIn_r _ [12] (by decide +kernel) (by decide +kernel)
set_option maxRecDepth 20000 in
theorem gX4_listeners_X4_cellOf : GoodIn wsX4_listeners (va_wsS RX4 48 yX4_cellOf wsX4_cellOf) := goodIn_app (goodIn_of _ (by decide +kernel)) ggX4_listeners_X4_cellOf
set_option maxRecDepth 20000 in
theorem ggX4_listeners_X4_fails : GoodIn wsX4_listeners wsX4_fails := goodIn_r _ [16, 1, 17, 18, 19, 20, 21, 22, 23, 24, 25, 26, 27, 28] (by decide +kernel) (by decide +kernel)
set_option maxRecDepth 20000 in
theorem gX4_listeners_X4_fails : GoodIn wsX4_listeners (wsV RX4 44 RX4 yX4_fails wsX4_fails) := goodIn_app (goodIn_of _ (by decide +kernel)) ggX4_listeners_X4_fails
theorem dX4_listeners_0 : decode cX4_listeners 0 = .ok (.aload_n 0, 1) := by decide +kernel
theorem dX4_listeners_1 : decode cX4_listeners 1 = .ok (.iconst 0, 1) := by decide +kernel
theorem dX4_listeners_2 : decode cX4_listeners 2 = .ok (.putfield 25, 3) := by decide +kernel
theorem dX4_listeners_5 : decode cX4_listeners 5 = .ok (.iload_n 1, 1) := by decide +kernel
theorem dX4_listeners_6 : decode cX4_listeners 6 = .ok (.iload_n 2, 1) := by decide +kernel
theorem dX4_listeners_7 : decode cX4_listeners 7 = .ok (.invokestatic 40, 3) := by decide +kernel
theorem dX4_listeners_10 : decode cX4_listeners 10 = .ok (.ifCond .eq 19, 3) := by decide +kernel
theorem dX4_listeners_13 : decode cX4_listeners 13 = .ok (.aload_n 0, 1) := by decide +kernel
theorem dX4_listeners_14 : decode cX4_listeners 14 = .ok (.getfield 7, 3) := by decide +kernel
theorem dX4_listeners_17 : decode cX4_listeners 17 = .ok (.bipush 21, 2) := by decide +kernel
theorem dX4_listeners_19 : decode cX4_listeners 19 = .ok (.iload_n 1, 1) := by decide +kernel
theorem dX4_listeners_20 : decode cX4_listeners 20 = .ok (.iload_n 2, 1) := by decide +kernel
theorem dX4_listeners_21 : decode cX4_listeners 21 = .ok (.invokestatic 48, 3) := by decide +kernel
theorem dX4_listeners_24 : decode cX4_listeners 24 = .ok (.iadd, 1) := by decide +kernel
theorem dX4_listeners_25 : decode cX4_listeners 25 = .ok (.iaload, 1) := by decide +kernel
theorem dX4_listeners_26 : decode cX4_listeners 26 = .ok (.goto 8, 3) := by decide +kernel
theorem dX4_listeners_29 : decode cX4_listeners 29 = .ok (.aload_n 0, 1) := by decide +kernel
theorem dX4_listeners_30 : decode cX4_listeners 30 = .ok (.iconst 1, 1) := by decide +kernel
theorem dX4_listeners_31 : decode cX4_listeners 31 = .ok (.invokevirtual 44, 3) := by decide +kernel
theorem dX4_listeners_34 : decode cX4_listeners 34 = .ok (.ireturn, 1) := by decide +kernel
set_option maxRecDepth 20000 in
theorem ggX4_setOpen_X4_in : GoodIn wsX4_setOpen wsX4_in := goodIn_r _ [6] (by decide +kernel) (by decide +kernel)
set_option maxRecDepth 20000 in
theorem gX4_setOpen_X4_in : GoodIn wsX4_setOpen (va_wsS RX4 29 yX4_in wsX4_in) := goodIn_app (goodIn_of _ (by decide +kernel)) ggX4_setOpen_X4_in
set_option maxRecDepth 20000 in
theorem ggX4_setOpen_X4_fails : GoodIn wsX4_setOpen wsX4_fails := goodIn_r _ [10, 1, 17, 18, 19, 20, 21, 22, 23, 24, 25, 26, 27, 28] (by decide +kernel) (by decide +kernel)
set_option maxRecDepth 20000 in
theorem gX4_setOpen_X4_fails : GoodIn wsX4_setOpen (wsV RX4 44 RX4 yX4_fails wsX4_fails) := goodIn_app (goodIn_of _ (by decide +kernel)) ggX4_setOpen_X4_fails
set_option maxRecDepth 20000 in
theorem ggX4_setOpen_X4_saves : GoodIn wsX4_setOpen wsX4_saves := goodIn_r _ [14, 15, 16, 2, 17, 18, 19, 20, 21, 22, 23, 24, 25, 26, 27, 28] (by decide +kernel) (by decide +kernel)
set_option maxRecDepth 20000 in
theorem gX4_setOpen_X4_saves : GoodIn wsX4_setOpen (wsV RX4 52 RX4 yX4_saves wsX4_saves) := goodIn_app (goodIn_of _ (by decide +kernel)) ggX4_setOpen_X4_saves
theorem dX4_setOpen_0 : decode cX4_setOpen 0 = .ok (.aload_n 0, 1) := by decide +kernel
theorem dX4_setOpen_1 : decode cX4_setOpen 1 = .ok (.iconst 0, 1) := by decide +kernel
theorem dX4_setOpen_2 : decode cX4_setOpen 2 = .ok (.putfield 25, 3) := by decide +kernel
theorem dX4_setOpen_5 : decode cX4_setOpen 5 = .ok (.iload_n 1, 1) := by decide +kernel
theorem dX4_setOpen_6 : decode cX4_setOpen 6 = .ok (.iconst 0, 1) := by decide +kernel
theorem dX4_setOpen_7 : decode cX4_setOpen 7 = .ok (.bipush 7, 2) := by decide +kernel
theorem dX4_setOpen_9 : decode cX4_setOpen 9 = .ok (.invokestatic 29, 3) := by decide +kernel
theorem dX4_setOpen_12 : decode cX4_setOpen 12 = .ok (.ifCond .ne 17, 3) := by decide +kernel
theorem dX4_setOpen_15 : decode cX4_setOpen 15 = .ok (.aload_n 0, 1) := by decide +kernel
theorem dX4_setOpen_16 : decode cX4_setOpen 16 = .ok (.iconst 1, 1) := by decide +kernel
theorem dX4_setOpen_17 : decode cX4_setOpen 17 = .ok (.invokevirtual 44, 3) := by decide +kernel
theorem dX4_setOpen_20 : decode cX4_setOpen 20 = .ok (.ifCond .le 7, 3) := by decide +kernel
theorem dX4_setOpen_23 : decode cX4_setOpen 23 = .ok (.iconst 1, 1) := by decide +kernel
theorem dX4_setOpen_24 : decode cX4_setOpen 24 = .ok (.goto 4, 3) := by decide +kernel
theorem dX4_setOpen_27 : decode cX4_setOpen 27 = .ok (.iconst 0, 1) := by decide +kernel
theorem dX4_setOpen_28 : decode cX4_setOpen 28 = .ok (.ireturn, 1) := by decide +kernel
theorem dX4_setOpen_29 : decode cX4_setOpen 29 = .ok (.aload_n 0, 1) := by decide +kernel
theorem dX4_setOpen_30 : decode cX4_setOpen 30 = .ok (.invokevirtual 52, 3) := by decide +kernel
theorem dX4_setOpen_33 : decode cX4_setOpen 33 = .ok (.aload_n 0, 1) := by decide +kernel
theorem dX4_setOpen_34 : decode cX4_setOpen 34 = .ok (.getfield 7, 3) := by decide +kernel
theorem dX4_setOpen_37 : decode cX4_setOpen 37 = .ok (.bipush 13, 2) := by decide +kernel
theorem dX4_setOpen_39 : decode cX4_setOpen 39 = .ok (.iload_n 1, 1) := by decide +kernel
theorem dX4_setOpen_40 : decode cX4_setOpen 40 = .ok (.iadd, 1) := by decide +kernel
theorem dX4_setOpen_41 : decode cX4_setOpen 41 = .ok (.iaload, 1) := by decide +kernel
theorem dX4_setOpen_42 : decode cX4_setOpen 42 = .ok (.iconst 1, 1) := by decide +kernel
theorem dX4_setOpen_43 : decode cX4_setOpen 43 = .ok (.if_icmp .ne 7, 3) := by decide +kernel
theorem dX4_setOpen_46 : decode cX4_setOpen 46 = .ok (.iconst 1, 1) := by decide +kernel
theorem dX4_setOpen_47 : decode cX4_setOpen 47 = .ok (.goto 4, 3) := by decide +kernel
theorem dX4_setOpen_50 : decode cX4_setOpen 50 = .ok (.iconst 0, 1) := by decide +kernel
theorem dX4_setOpen_51 : decode cX4_setOpen 51 = .ok (.istore_n 3, 1) := by decide +kernel
theorem dX4_setOpen_52 : decode cX4_setOpen 52 = .ok (.aload_n 0, 1) := by decide +kernel
theorem dX4_setOpen_53 : decode cX4_setOpen 53 = .ok (.getfield 7, 3) := by decide +kernel
theorem dX4_setOpen_56 : decode cX4_setOpen 56 = .ok (.bipush 13, 2) := by decide +kernel
theorem dX4_setOpen_58 : decode cX4_setOpen 58 = .ok (.iload_n 1, 1) := by decide +kernel
theorem dX4_setOpen_59 : decode cX4_setOpen 59 = .ok (.iadd, 1) := by decide +kernel
theorem dX4_setOpen_60 : decode cX4_setOpen 60 = .ok (.iload_n 2, 1) := by decide +kernel
theorem dX4_setOpen_61 : decode cX4_setOpen 61 = .ok (.ifCond .eq 7, 3) := by decide +kernel
theorem dX4_setOpen_64 : decode cX4_setOpen 64 = .ok (.iconst 1, 1) := by decide +kernel
theorem dX4_setOpen_65 : decode cX4_setOpen 65 = .ok (.goto 4, 3) := by decide +kernel
theorem dX4_setOpen_68 : decode cX4_setOpen 68 = .ok (.iconst 0, 1) := by decide +kernel
theorem dX4_setOpen_69 : decode cX4_setOpen 69 = .ok (.iastore, 1) := by decide +kernel
theorem dX4_setOpen_70 : decode cX4_setOpen 70 = .ok (.iload_n 3, 1) := by decide +kernel
theorem dX4_setOpen_71 : decode cX4_setOpen 71 = .ok (.ireturn, 1) := by decide +kernel
set_option maxRecDepth 20000 in
theorem ggX4_setQuick_X4_saves : GoodIn wsX4_setQuick wsX4_saves := goodIn_r _ [7, 8, 9, 2, 10, 11, 12, 13, 14, 15, 16, 17, 18, 19, 20, 21] (by decide +kernel) (by decide +kernel)
set_option maxRecDepth 20000 in
theorem gX4_setQuick_X4_saves : GoodIn wsX4_setQuick (wsV RX4 52 RX4 yX4_saves wsX4_saves) := goodIn_app (goodIn_of _ (by decide +kernel)) ggX4_setQuick_X4_saves
theorem dX4_setQuick_0 : decode cX4_setQuick 0 = .ok (.aload_n 0, 1) := by decide +kernel
theorem dX4_setQuick_1 : decode cX4_setQuick 1 = .ok (.iconst 0, 1) := by decide +kernel
theorem dX4_setQuick_2 : decode cX4_setQuick 2 = .ok (.putfield 25, 3) := by decide +kernel
theorem dX4_setQuick_5 : decode cX4_setQuick 5 = .ok (.aload_n 0, 1) := by decide +kernel
theorem dX4_setQuick_6 : decode cX4_setQuick 6 = .ok (.invokevirtual 52, 3) := by decide +kernel
theorem dX4_setQuick_9 : decode cX4_setQuick 9 = .ok (.aload_n 0, 1) := by decide +kernel
theorem dX4_setQuick_10 : decode cX4_setQuick 10 = .ok (.getfield 7, 3) := by decide +kernel
theorem dX4_setQuick_13 : decode cX4_setQuick 13 = .ok (.iconst 3, 1) := by decide +kernel
theorem dX4_setQuick_14 : decode cX4_setQuick 14 = .ok (.iaload, 1) := by decide +kernel
theorem dX4_setQuick_15 : decode cX4_setQuick 15 = .ok (.iconst 1, 1) := by decide +kernel
theorem dX4_setQuick_16 : decode cX4_setQuick 16 = .ok (.if_icmp .ne 7, 3) := by decide +kernel
theorem dX4_setQuick_19 : decode cX4_setQuick 19 = .ok (.iconst 1, 1) := by decide +kernel
theorem dX4_setQuick_20 : decode cX4_setQuick 20 = .ok (.goto 4, 3) := by decide +kernel
theorem dX4_setQuick_23 : decode cX4_setQuick 23 = .ok (.iconst 0, 1) := by decide +kernel
theorem dX4_setQuick_24 : decode cX4_setQuick 24 = .ok (.istore_n 2, 1) := by decide +kernel
theorem dX4_setQuick_25 : decode cX4_setQuick 25 = .ok (.aload_n 0, 1) := by decide +kernel
theorem dX4_setQuick_26 : decode cX4_setQuick 26 = .ok (.getfield 7, 3) := by decide +kernel
theorem dX4_setQuick_29 : decode cX4_setQuick 29 = .ok (.iconst 3, 1) := by decide +kernel
theorem dX4_setQuick_30 : decode cX4_setQuick 30 = .ok (.iload_n 1, 1) := by decide +kernel
theorem dX4_setQuick_31 : decode cX4_setQuick 31 = .ok (.ifCond .eq 7, 3) := by decide +kernel
theorem dX4_setQuick_34 : decode cX4_setQuick 34 = .ok (.iconst 1, 1) := by decide +kernel
theorem dX4_setQuick_35 : decode cX4_setQuick 35 = .ok (.goto 4, 3) := by decide +kernel
theorem dX4_setQuick_38 : decode cX4_setQuick 38 = .ok (.iconst 0, 1) := by decide +kernel
theorem dX4_setQuick_39 : decode cX4_setQuick 39 = .ok (.iastore, 1) := by decide +kernel
theorem dX4_setQuick_40 : decode cX4_setQuick 40 = .ok (.iload_n 2, 1) := by decide +kernel
theorem dX4_setQuick_41 : decode cX4_setQuick 41 = .ok (.ireturn, 1) := by decide +kernel
set_option maxRecDepth 20000 in
theorem ggX4_setTimes_X4_in : GoodIn wsX4_setTimes wsX4_in := goodIn_r _ [6] (by decide +kernel) (by decide +kernel)
set_option maxRecDepth 20000 in
theorem gX4_setTimes_X4_in : GoodIn wsX4_setTimes (va_wsS RX4 29 yX4_in wsX4_in) := goodIn_app (goodIn_of _ (by decide +kernel)) ggX4_setTimes_X4_in
set_option maxRecDepth 20000 in
theorem ggX4_setTimes_X4_fails : GoodIn wsX4_setTimes wsX4_fails := goodIn_r _ [10, 1, 17, 18, 19, 20, 21, 22, 23, 24, 25, 26, 27, 28] (by decide +kernel) (by decide +kernel)
set_option maxRecDepth 20000 in
theorem gX4_setTimes_X4_fails : GoodIn wsX4_setTimes (wsV RX4 44 RX4 yX4_fails wsX4_fails) := goodIn_app (goodIn_of _ (by decide +kernel)) ggX4_setTimes_X4_fails
set_option maxRecDepth 20000 in
theorem ggX4_setTimes_X4_saves : GoodIn wsX4_setTimes wsX4_saves := goodIn_r _ [14, 15, 16, 2, 17, 18, 19, 20, 21, 22, 23, 24, 25, 26, 27, 28] (by decide +kernel) (by decide +kernel)
set_option maxRecDepth 20000 in
theorem gX4_setTimes_X4_saves : GoodIn wsX4_setTimes (wsV RX4 52 RX4 yX4_saves wsX4_saves) := goodIn_app (goodIn_of _ (by decide +kernel)) ggX4_setTimes_X4_saves
theorem dX4_setTimes_0 : decode cX4_setTimes 0 = .ok (.aload_n 0, 1) := by decide +kernel
theorem dX4_setTimes_1 : decode cX4_setTimes 1 = .ok (.iconst 0, 1) := by decide +kernel
theorem dX4_setTimes_2 : decode cX4_setTimes 2 = .ok (.putfield 25, 3) := by decide +kernel
theorem dX4_setTimes_5 : decode cX4_setTimes 5 = .ok (.iload_n 1, 1) := by decide +kernel
theorem dX4_setTimes_6 : decode cX4_setTimes 6 = .ok (.iconst 2, 1) := by decide +kernel
theorem dX4_setTimes_7 : decode cX4_setTimes 7 = .ok (.bipush 60, 2) := by decide +kernel
theorem dX4_setTimes_9 : decode cX4_setTimes 9 = .ok (.invokestatic 29, 3) := by decide +kernel
theorem dX4_setTimes_12 : decode cX4_setTimes 12 = .ok (.ifCond .eq 23, 3) := by decide +kernel
theorem dX4_setTimes_15 : decode cX4_setTimes 15 = .ok (.iload_n 2, 1) := by decide +kernel
theorem dX4_setTimes_16 : decode cX4_setTimes 16 = .ok (.iconst 1, 1) := by decide +kernel
theorem dX4_setTimes_17 : decode cX4_setTimes 17 = .ok (.bipush 10, 2) := by decide +kernel
theorem dX4_setTimes_19 : decode cX4_setTimes 19 = .ok (.invokestatic 29, 3) := by decide +kernel
theorem dX4_setTimes_22 : decode cX4_setTimes 22 = .ok (.ifCond .eq 13, 3) := by decide +kernel
theorem dX4_setTimes_25 : decode cX4_setTimes 25 = .ok (.iload_n 3, 1) := by decide +kernel
theorem dX4_setTimes_26 : decode cX4_setTimes 26 = .ok (.iconst 1, 1) := by decide +kernel
theorem dX4_setTimes_27 : decode cX4_setTimes 27 = .ok (.bipush 30, 2) := by decide +kernel
theorem dX4_setTimes_29 : decode cX4_setTimes 29 = .ok (.invokestatic 29, 3) := by decide +kernel
theorem dX4_setTimes_32 : decode cX4_setTimes 32 = .ok (.ifCond .ne 9, 3) := by decide +kernel
theorem dX4_setTimes_35 : decode cX4_setTimes 35 = .ok (.aload_n 0, 1) := by decide +kernel
theorem dX4_setTimes_36 : decode cX4_setTimes 36 = .ok (.iconst 1, 1) := by decide +kernel
theorem dX4_setTimes_37 : decode cX4_setTimes 37 = .ok (.invokevirtual 44, 3) := by decide +kernel
theorem dX4_setTimes_40 : decode cX4_setTimes 40 = .ok (.ireturn, 1) := by decide +kernel
theorem dX4_setTimes_41 : decode cX4_setTimes 41 = .ok (.aload_n 0, 1) := by decide +kernel
theorem dX4_setTimes_42 : decode cX4_setTimes 42 = .ok (.invokevirtual 52, 3) := by decide +kernel
theorem dX4_setTimes_45 : decode cX4_setTimes 45 = .ok (.aload_n 0, 1) := by decide +kernel
theorem dX4_setTimes_46 : decode cX4_setTimes 46 = .ok (.getfield 7, 3) := by decide +kernel
theorem dX4_setTimes_49 : decode cX4_setTimes 49 = .ok (.iconst 0, 1) := by decide +kernel
theorem dX4_setTimes_50 : decode cX4_setTimes 50 = .ok (.iaload, 1) := by decide +kernel
theorem dX4_setTimes_51 : decode cX4_setTimes 51 = .ok (.istore 4, 2) := by decide +kernel
theorem dX4_setTimes_53 : decode cX4_setTimes 53 = .ok (.aload_n 0, 1) := by decide +kernel
theorem dX4_setTimes_54 : decode cX4_setTimes 54 = .ok (.getfield 7, 3) := by decide +kernel
theorem dX4_setTimes_57 : decode cX4_setTimes 57 = .ok (.iconst 0, 1) := by decide +kernel
theorem dX4_setTimes_58 : decode cX4_setTimes 58 = .ok (.iload_n 1, 1) := by decide +kernel
theorem dX4_setTimes_59 : decode cX4_setTimes 59 = .ok (.iastore, 1) := by decide +kernel
theorem dX4_setTimes_60 : decode cX4_setTimes 60 = .ok (.aload_n 0, 1) := by decide +kernel
theorem dX4_setTimes_61 : decode cX4_setTimes 61 = .ok (.getfield 7, 3) := by decide +kernel
theorem dX4_setTimes_64 : decode cX4_setTimes 64 = .ok (.iconst 1, 1) := by decide +kernel
theorem dX4_setTimes_65 : decode cX4_setTimes 65 = .ok (.iload_n 2, 1) := by decide +kernel
theorem dX4_setTimes_66 : decode cX4_setTimes 66 = .ok (.iastore, 1) := by decide +kernel
theorem dX4_setTimes_67 : decode cX4_setTimes 67 = .ok (.aload_n 0, 1) := by decide +kernel
theorem dX4_setTimes_68 : decode cX4_setTimes 68 = .ok (.getfield 7, 3) := by decide +kernel
theorem dX4_setTimes_71 : decode cX4_setTimes 71 = .ok (.iconst 2, 1) := by decide +kernel
theorem dX4_setTimes_72 : decode cX4_setTimes 72 = .ok (.iload_n 3, 1) := by decide +kernel
theorem dX4_setTimes_73 : decode cX4_setTimes 73 = .ok (.iastore, 1) := by decide +kernel
theorem dX4_setTimes_74 : decode cX4_setTimes 74 = .ok (.iload 4, 2) := by decide +kernel
theorem dX4_setTimes_76 : decode cX4_setTimes 76 = .ok (.ireturn, 1) := by decide +kernel
theorem dX4_chiefNow_0 : decode cX4_chiefNow 0 = .ok (.aload_n 0, 1) := by decide +kernel
theorem dX4_chiefNow_1 : decode cX4_chiefNow 1 = .ok (.getfield 7, 3) := by decide +kernel
theorem dX4_chiefNow_4 : decode cX4_chiefNow 4 = .ok (.iconst 4, 1) := by decide +kernel
theorem dX4_chiefNow_5 : decode cX4_chiefNow 5 = .ok (.iaload, 1) := by decide +kernel
theorem dX4_chiefNow_6 : decode cX4_chiefNow 6 = .ok (.iconst 3, 1) := by decide +kernel
theorem dX4_chiefNow_7 : decode cX4_chiefNow 7 = .ok (.if_icmp .le 7, 3) := by decide +kernel
theorem dX4_chiefNow_10 : decode cX4_chiefNow 10 = .ok (.iconst 2, 1) := by decide +kernel
theorem dX4_chiefNow_11 : decode cX4_chiefNow 11 = .ok (.goto 18, 3) := by decide +kernel
theorem dX4_chiefNow_14 : decode cX4_chiefNow 14 = .ok (.aload_n 0, 1) := by decide +kernel
theorem dX4_chiefNow_15 : decode cX4_chiefNow 15 = .ok (.getfield 7, 3) := by decide +kernel
theorem dX4_chiefNow_18 : decode cX4_chiefNow 18 = .ok (.iconst 4, 1) := by decide +kernel
theorem dX4_chiefNow_19 : decode cX4_chiefNow 19 = .ok (.iaload, 1) := by decide +kernel
theorem dX4_chiefNow_20 : decode cX4_chiefNow 20 = .ok (.iconst 1, 1) := by decide +kernel
theorem dX4_chiefNow_21 : decode cX4_chiefNow 21 = .ok (.if_icmp .le 7, 3) := by decide +kernel
theorem dX4_chiefNow_24 : decode cX4_chiefNow 24 = .ok (.iconst 1, 1) := by decide +kernel
theorem dX4_chiefNow_25 : decode cX4_chiefNow 25 = .ok (.goto 4, 3) := by decide +kernel
theorem dX4_chiefNow_28 : decode cX4_chiefNow 28 = .ok (.iconst 0, 1) := by decide +kernel
theorem dX4_chiefNow_29 : decode cX4_chiefNow 29 = .ok (.ireturn, 1) := by decide +kernel
set_option maxRecDepth 20000 in
theorem ggX4_setPresent_X4_in : GoodIn wsX4_setPresent wsX4_in := goodIn_r _ [6] (by decide +kernel) (by decide +kernel)
set_option maxRecDepth 20000 in
theorem gX4_setPresent_X4_in : GoodIn wsX4_setPresent (va_wsS RX4 29 yX4_in wsX4_in) := goodIn_app (goodIn_of _ (by decide +kernel)) ggX4_setPresent_X4_in
set_option maxRecDepth 20000 in
theorem ggX4_setPresent_X4_fails : GoodIn wsX4_setPresent wsX4_fails := goodIn_r _ [10, 1, 21, 22, 23, 24, 25, 26, 27, 28, 29, 30, 31, 32] (by decide +kernel) (by decide +kernel)
set_option maxRecDepth 20000 in
theorem gX4_setPresent_X4_fails : GoodIn wsX4_setPresent (wsV RX4 44 RX4 yX4_fails wsX4_fails) := goodIn_app (goodIn_of _ (by decide +kernel)) ggX4_setPresent_X4_fails
set_option maxRecDepth 20000 in
theorem ggX4_setPresent_X4_saves : GoodIn wsX4_setPresent wsX4_saves := goodIn_r _ [14, 15, 16, 2, 21, 22, 23, 24, 25, 26, 27, 28, 29, 30, 31, 32] (by decide +kernel) (by decide +kernel)
set_option maxRecDepth 20000 in
theorem gX4_setPresent_X4_saves : GoodIn wsX4_setPresent (wsV RX4 52 RX4 yX4_saves wsX4_saves) := goodIn_app (goodIn_of _ (by decide +kernel)) ggX4_setPresent_X4_saves
set_option maxRecDepth 20000 in
theorem ggX4_setPresent_X4_chiefNow : GoodIn wsX4_setPresent wsX4_chiefNow := goodIn_r _ [20, 2, 21, 22, 23, 24, 25, 26, 27, 28, 29, 30, 31, 32] (by decide +kernel) (by decide +kernel)
set_option maxRecDepth 20000 in
theorem gX4_setPresent_X4_chiefNow : GoodIn wsX4_setPresent (wsV RX4 65 RX4 yX4_chiefNow wsX4_chiefNow) := goodIn_app (goodIn_of _ (by decide +kernel)) ggX4_setPresent_X4_chiefNow
theorem dX4_setPresent_0 : decode cX4_setPresent 0 = .ok (.aload_n 0, 1) := by decide +kernel
theorem dX4_setPresent_1 : decode cX4_setPresent 1 = .ok (.iconst 0, 1) := by decide +kernel
theorem dX4_setPresent_2 : decode cX4_setPresent 2 = .ok (.putfield 25, 3) := by decide +kernel
theorem dX4_setPresent_5 : decode cX4_setPresent 5 = .ok (.iload_n 1, 1) := by decide +kernel
theorem dX4_setPresent_6 : decode cX4_setPresent 6 = .ok (.iconst 1, 1) := by decide +kernel
theorem dX4_setPresent_7 : decode cX4_setPresent 7 = .ok (.iconst 2, 1) := by decide +kernel
theorem dX4_setPresent_8 : decode cX4_setPresent 8 = .ok (.invokestatic 29, 3) := by decide +kernel
theorem dX4_setPresent_11 : decode cX4_setPresent 11 = .ok (.ifCond .ne 9, 3) := by decide +kernel
theorem dX4_setPresent_14 : decode cX4_setPresent 14 = .ok (.aload_n 0, 1) := by decide +kernel
theorem dX4_setPresent_15 : decode cX4_setPresent 15 = .ok (.iconst 1, 1) := by decide +kernel
theorem dX4_setPresent_16 : decode cX4_setPresent 16 = .ok (.invokevirtual 44, 3) := by decide +kernel
theorem dX4_setPresent_19 : decode cX4_setPresent 19 = .ok (.ireturn, 1) := by decide +kernel
theorem dX4_setPresent_20 : decode cX4_setPresent 20 = .ok (.aload_n 0, 1) := by decide +kernel
theorem dX4_setPresent_21 : decode cX4_setPresent 21 = .ok (.invokevirtual 52, 3) := by decide +kernel
theorem dX4_setPresent_24 : decode cX4_setPresent 24 = .ok (.aload_n 0, 1) := by decide +kernel
theorem dX4_setPresent_25 : decode cX4_setPresent 25 = .ok (.getfield 7, 3) := by decide +kernel
theorem dX4_setPresent_28 : decode cX4_setPresent 28 = .ok (.iconst 4, 1) := by decide +kernel
theorem dX4_setPresent_29 : decode cX4_setPresent 29 = .ok (.aload_n 0, 1) := by decide +kernel
theorem dX4_setPresent_30 : decode cX4_setPresent 30 = .ok (.getfield 7, 3) := by decide +kernel
theorem dX4_setPresent_33 : decode cX4_setPresent 33 = .ok (.iconst 4, 1) := by decide +kernel
theorem dX4_setPresent_34 : decode cX4_setPresent 34 = .ok (.iaload, 1) := by decide +kernel
theorem dX4_setPresent_35 : decode cX4_setPresent 35 = .ok (.iconst 1, 1) := by decide +kernel
theorem dX4_setPresent_36 : decode cX4_setPresent 36 = .ok (.iload_n 1, 1) := by decide +kernel
theorem dX4_setPresent_37 : decode cX4_setPresent 37 = .ok (.ishl, 1) := by decide +kernel
theorem dX4_setPresent_38 : decode cX4_setPresent 38 = .ok (.iconst (-1), 1) := by decide +kernel
theorem dX4_setPresent_39 : decode cX4_setPresent 39 = .ok (.ixor, 1) := by decide +kernel
theorem dX4_setPresent_40 : decode cX4_setPresent 40 = .ok (.iand, 1) := by decide +kernel
theorem dX4_setPresent_41 : decode cX4_setPresent 41 = .ok (.iload_n 2, 1) := by decide +kernel
theorem dX4_setPresent_42 : decode cX4_setPresent 42 = .ok (.ifCond .eq 9, 3) := by decide +kernel
theorem dX4_setPresent_45 : decode cX4_setPresent 45 = .ok (.iconst 1, 1) := by decide +kernel
theorem dX4_setPresent_46 : decode cX4_setPresent 46 = .ok (.iload_n 1, 1) := by decide +kernel
theorem dX4_setPresent_47 : decode cX4_setPresent 47 = .ok (.ishl, 1) := by decide +kernel
theorem dX4_setPresent_48 : decode cX4_setPresent 48 = .ok (.goto 4, 3) := by decide +kernel
theorem dX4_setPresent_51 : decode cX4_setPresent 51 = .ok (.iconst 0, 1) := by decide +kernel
theorem dX4_setPresent_52 : decode cX4_setPresent 52 = .ok (.ior, 1) := by decide +kernel
theorem dX4_setPresent_53 : decode cX4_setPresent 53 = .ok (.iastore, 1) := by decide +kernel
theorem dX4_setPresent_54 : decode cX4_setPresent 54 = .ok (.aload_n 0, 1) := by decide +kernel
theorem dX4_setPresent_55 : decode cX4_setPresent 55 = .ok (.invokevirtual 65, 3) := by decide +kernel
theorem dX4_setPresent_58 : decode cX4_setPresent 58 = .ok (.ireturn, 1) := by decide +kernel
set_option maxRecDepth 20000 in
theorem ggX4_chief_X4_chiefNow : GoodIn wsX4_chief wsX4_chiefNow := goodIn_r _ [6, 7, 8, 9, 10, 11, 12, 13, 14, 15, 16, 17, 18, 19] (by decide +kernel) (by decide +kernel)
set_option maxRecDepth 20000 in
theorem gX4_chief_X4_chiefNow : GoodIn wsX4_chief (wsV RX4 65 RX4 yX4_chiefNow wsX4_chiefNow) := goodIn_app (goodIn_of _ (by decide +kernel)) ggX4_chief_X4_chiefNow
theorem dX4_chief_0 : decode cX4_chief 0 = .ok (.aload_n 0, 1) := by decide +kernel
theorem dX4_chief_1 : decode cX4_chief 1 = .ok (.iconst 0, 1) := by decide +kernel
theorem dX4_chief_2 : decode cX4_chief 2 = .ok (.putfield 25, 3) := by decide +kernel
theorem dX4_chief_5 : decode cX4_chief 5 = .ok (.aload_n 0, 1) := by decide +kernel
theorem dX4_chief_6 : decode cX4_chief 6 = .ok (.invokevirtual 65, 3) := by decide +kernel
theorem dX4_chief_9 : decode cX4_chief 9 = .ok (.ireturn, 1) := by decide +kernel
set_option maxRecDepth 20000 in
theorem ggX4_rest_X4_isPair : GoodIn wsX4_rest wsX4_isPair := goodIn_r _ [6, 7, 8, 5, 9] (by decide +kernel) (by decide +kernel)
set_option maxRecDepth 20000 in
theorem gX4_rest_X4_isPair : GoodIn wsX4_rest (va_wsS RX4 40 yX4_isPair wsX4_isPair) := goodIn_app (goodIn_of _ (by decide +kernel)) ggX4_rest_X4_isPair
set_option maxRecDepth 20000 in
theorem ggX4_rest_X4_cellOf : GoodIn wsX4_rest wsX4_cellOf := goodIn_r _ [12] (by decide +kernel) (by decide +kernel)
set_option maxRecDepth 20000 in
theorem gX4_rest_X4_cellOf : GoodIn wsX4_rest (va_wsS RX4 48 yX4_cellOf wsX4_cellOf) := goodIn_app (goodIn_of _ (by decide +kernel)) ggX4_rest_X4_cellOf
set_option maxRecDepth 20000 in
theorem ggX4_rest_X4_fails : GoodIn wsX4_rest wsX4_fails := goodIn_r _ [16, 1, 17, 18, 19, 20, 21, 22, 23, 24, 25, 26, 27, 28] (by decide +kernel) (by decide +kernel)
set_option maxRecDepth 20000 in
theorem gX4_rest_X4_fails : GoodIn wsX4_rest (wsV RX4 44 RX4 yX4_fails wsX4_fails) := goodIn_app (goodIn_of _ (by decide +kernel)) ggX4_rest_X4_fails
theorem dX4_rest_0 : decode cX4_rest 0 = .ok (.aload_n 0, 1) := by decide +kernel
theorem dX4_rest_1 : decode cX4_rest 1 = .ok (.iconst 0, 1) := by decide +kernel
theorem dX4_rest_2 : decode cX4_rest 2 = .ok (.putfield 25, 3) := by decide +kernel
theorem dX4_rest_5 : decode cX4_rest 5 = .ok (.iload_n 1, 1) := by decide +kernel
theorem dX4_rest_6 : decode cX4_rest 6 = .ok (.iload_n 2, 1) := by decide +kernel
theorem dX4_rest_7 : decode cX4_rest 7 = .ok (.invokestatic 40, 3) := by decide +kernel
theorem dX4_rest_10 : decode cX4_rest 10 = .ok (.ifCond .eq 19, 3) := by decide +kernel
theorem dX4_rest_13 : decode cX4_rest 13 = .ok (.aload_n 0, 1) := by decide +kernel
theorem dX4_rest_14 : decode cX4_rest 14 = .ok (.getfield 7, 3) := by decide +kernel
theorem dX4_rest_17 : decode cX4_rest 17 = .ok (.bipush 69, 2) := by decide +kernel
theorem dX4_rest_19 : decode cX4_rest 19 = .ok (.iload_n 1, 1) := by decide +kernel
theorem dX4_rest_20 : decode cX4_rest 20 = .ok (.iload_n 2, 1) := by decide +kernel
theorem dX4_rest_21 : decode cX4_rest 21 = .ok (.invokestatic 48, 3) := by decide +kernel
theorem dX4_rest_24 : decode cX4_rest 24 = .ok (.iadd, 1) := by decide +kernel
theorem dX4_rest_25 : decode cX4_rest 25 = .ok (.iaload, 1) := by decide +kernel
theorem dX4_rest_26 : decode cX4_rest 26 = .ok (.goto 8, 3) := by decide +kernel
theorem dX4_rest_29 : decode cX4_rest 29 = .ok (.aload_n 0, 1) := by decide +kernel
theorem dX4_rest_30 : decode cX4_rest 30 = .ok (.iconst 1, 1) := by decide +kernel
theorem dX4_rest_31 : decode cX4_rest 31 = .ok (.invokevirtual 44, 3) := by decide +kernel
theorem dX4_rest_34 : decode cX4_rest 34 = .ok (.ireturn, 1) := by decide +kernel
theorem dX4_entriesNow_0 : decode cX4_entriesNow 0 = .ok (.iconst 0, 1) := by decide +kernel
theorem dX4_entriesNow_1 : decode cX4_entriesNow 1 = .ok (.istore_n 1, 1) := by decide +kernel
theorem dX4_entriesNow_2 : decode cX4_entriesNow 2 = .ok (.iconst 0, 1) := by decide +kernel
theorem dX4_entriesNow_3 : decode cX4_entriesNow 3 = .ok (.istore_n 2, 1) := by decide +kernel
theorem dX4_entriesNow_4 : decode cX4_entriesNow 4 = .ok (.iload_n 2, 1) := by decide +kernel
theorem dX4_entriesNow_5 : decode cX4_entriesNow 5 = .ok (.bipush 48, 2) := by decide +kernel
theorem dX4_entriesNow_7 : decode cX4_entriesNow 7 = .ok (.if_icmp .ge 29, 3) := by decide +kernel
theorem dX4_entriesNow_10 : decode cX4_entriesNow 10 = .ok (.iload_n 1, 1) := by decide +kernel
theorem dX4_entriesNow_11 : decode cX4_entriesNow 11 = .ok (.aload_n 0, 1) := by decide +kernel
theorem dX4_entriesNow_12 : decode cX4_entriesNow 12 = .ok (.getfield 7, 3) := by decide +kernel
theorem dX4_entriesNow_15 : decode cX4_entriesNow 15 = .ok (.bipush 69, 2) := by decide +kernel
theorem dX4_entriesNow_17 : decode cX4_entriesNow 17 = .ok (.iload_n 2, 1) := by decide +kernel
theorem dX4_entriesNow_18 : decode cX4_entriesNow 18 = .ok (.iadd, 1) := by decide +kernel
theorem dX4_entriesNow_19 : decode cX4_entriesNow 19 = .ok (.iaload, 1) := by decide +kernel
theorem dX4_entriesNow_20 : decode cX4_entriesNow 20 = .ok (.ifCond .le 7, 3) := by decide +kernel
theorem dX4_entriesNow_23 : decode cX4_entriesNow 23 = .ok (.iconst 1, 1) := by decide +kernel
theorem dX4_entriesNow_24 : decode cX4_entriesNow 24 = .ok (.goto 4, 3) := by decide +kernel
theorem dX4_entriesNow_27 : decode cX4_entriesNow 27 = .ok (.iconst 0, 1) := by decide +kernel
theorem dX4_entriesNow_28 : decode cX4_entriesNow 28 = .ok (.iadd, 1) := by decide +kernel
theorem dX4_entriesNow_29 : decode cX4_entriesNow 29 = .ok (.istore_n 1, 1) := by decide +kernel
theorem dX4_entriesNow_30 : decode cX4_entriesNow 30 = .ok (.iinc 2 1, 3) := by decide +kernel
theorem dX4_entriesNow_33 : decode cX4_entriesNow 33 = .ok (.goto (-29), 3) := by decide +kernel
theorem dX4_entriesNow_36 : decode cX4_entriesNow 36 = .ok (.iload_n 1, 1) := by decide +kernel
theorem dX4_entriesNow_37 : decode cX4_entriesNow 37 = .ok (.ireturn, 1) := by decide +kernel
set_option maxRecDepth 20000 in
theorem ggX4_entries_X4_entriesNow : GoodIn wsX4_entries wsX4_entriesNow := goodIn_r _ [6, 7, 8, 9, 10, 11, 12, 13, 14, 15, 16, 17, 18, 19] (by decide +kernel) (by decide +kernel)
set_option maxRecDepth 20000 in
theorem gX4_entries_X4_entriesNow : GoodIn wsX4_entries (wsV RX4 69 RX4 yX4_entriesNow wsX4_entriesNow) := goodIn_app (goodIn_of _ (by decide +kernel)) ggX4_entries_X4_entriesNow
theorem dX4_entries_0 : decode cX4_entries 0 = .ok (.aload_n 0, 1) := by decide +kernel
theorem dX4_entries_1 : decode cX4_entries 1 = .ok (.iconst 0, 1) := by decide +kernel
theorem dX4_entries_2 : decode cX4_entries 2 = .ok (.putfield 25, 3) := by decide +kernel
theorem dX4_entries_5 : decode cX4_entries 5 = .ok (.aload_n 0, 1) := by decide +kernel
theorem dX4_entries_6 : decode cX4_entries 6 = .ok (.invokevirtual 69, 3) := by decide +kernel
theorem dX4_entries_9 : decode cX4_entries 9 = .ok (.ireturn, 1) := by decide +kernel
set_option maxRecDepth 20000 in
theorem ggX4_isOpen_X4_in : GoodIn wsX4_isOpen wsX4_in := goodIn_r _ [6] (by decide +kernel) (by decide +kernel)
set_option maxRecDepth 20000 in
theorem gX4_isOpen_X4_in : GoodIn wsX4_isOpen (va_wsS RX4 29 yX4_in wsX4_in) := goodIn_app (goodIn_of _ (by decide +kernel)) ggX4_isOpen_X4_in
set_option maxRecDepth 20000 in
theorem ggX4_isOpen_X4_fails : GoodIn wsX4_isOpen wsX4_fails := goodIn_r _ [10, 1, 11, 12, 13, 14, 15, 16, 17, 18, 19, 20, 21, 22] (by decide +kernel) (by decide +kernel)
set_option maxRecDepth 20000 in
theorem gX4_isOpen_X4_fails : GoodIn wsX4_isOpen (wsV RX4 44 RX4 yX4_fails wsX4_fails) := goodIn_app (goodIn_of _ (by decide +kernel)) ggX4_isOpen_X4_fails
theorem dX4_isOpen_0 : decode cX4_isOpen 0 = .ok (.aload_n 0, 1) := by decide +kernel
theorem dX4_isOpen_1 : decode cX4_isOpen 1 = .ok (.iconst 0, 1) := by decide +kernel
theorem dX4_isOpen_2 : decode cX4_isOpen 2 = .ok (.putfield 25, 3) := by decide +kernel
theorem dX4_isOpen_5 : decode cX4_isOpen 5 = .ok (.iload_n 1, 1) := by decide +kernel
theorem dX4_isOpen_6 : decode cX4_isOpen 6 = .ok (.iconst 0, 1) := by decide +kernel
theorem dX4_isOpen_7 : decode cX4_isOpen 7 = .ok (.bipush 7, 2) := by decide +kernel
theorem dX4_isOpen_9 : decode cX4_isOpen 9 = .ok (.invokestatic 29, 3) := by decide +kernel
theorem dX4_isOpen_12 : decode cX4_isOpen 12 = .ok (.ifCond .eq 24, 3) := by decide +kernel
theorem dX4_isOpen_15 : decode cX4_isOpen 15 = .ok (.aload_n 0, 1) := by decide +kernel
theorem dX4_isOpen_16 : decode cX4_isOpen 16 = .ok (.getfield 7, 3) := by decide +kernel
theorem dX4_isOpen_19 : decode cX4_isOpen 19 = .ok (.bipush 13, 2) := by decide +kernel
theorem dX4_isOpen_21 : decode cX4_isOpen 21 = .ok (.iload_n 1, 1) := by decide +kernel
theorem dX4_isOpen_22 : decode cX4_isOpen 22 = .ok (.iadd, 1) := by decide +kernel
theorem dX4_isOpen_23 : decode cX4_isOpen 23 = .ok (.iaload, 1) := by decide +kernel
theorem dX4_isOpen_24 : decode cX4_isOpen 24 = .ok (.iconst 1, 1) := by decide +kernel
theorem dX4_isOpen_25 : decode cX4_isOpen 25 = .ok (.if_icmp .ne 7, 3) := by decide +kernel
theorem dX4_isOpen_28 : decode cX4_isOpen 28 = .ok (.iconst 1, 1) := by decide +kernel
theorem dX4_isOpen_29 : decode cX4_isOpen 29 = .ok (.goto 20, 3) := by decide +kernel
theorem dX4_isOpen_32 : decode cX4_isOpen 32 = .ok (.iconst 0, 1) := by decide +kernel
theorem dX4_isOpen_33 : decode cX4_isOpen 33 = .ok (.goto 16, 3) := by decide +kernel
theorem dX4_isOpen_36 : decode cX4_isOpen 36 = .ok (.aload_n 0, 1) := by decide +kernel
theorem dX4_isOpen_37 : decode cX4_isOpen 37 = .ok (.iconst 1, 1) := by decide +kernel
theorem dX4_isOpen_38 : decode cX4_isOpen 38 = .ok (.invokevirtual 44, 3) := by decide +kernel
theorem dX4_isOpen_41 : decode cX4_isOpen 41 = .ok (.ifCond .le 7, 3) := by decide +kernel
theorem dX4_isOpen_44 : decode cX4_isOpen 44 = .ok (.iconst 1, 1) := by decide +kernel
theorem dX4_isOpen_45 : decode cX4_isOpen 45 = .ok (.goto 4, 3) := by decide +kernel
theorem dX4_isOpen_48 : decode cX4_isOpen 48 = .ok (.iconst 0, 1) := by decide +kernel
theorem dX4_isOpen_49 : decode cX4_isOpen 49 = .ok (.ireturn, 1) := by decide +kernel
set_option maxRecDepth 20000 in
theorem ggX4_goes_X4_cellOf : GoodIn wsX4_goes wsX4_cellOf := goodIn_r _ [5] (by decide +kernel) (by decide +kernel)
set_option maxRecDepth 20000 in
theorem gX4_goes_X4_cellOf : GoodIn wsX4_goes (va_wsS RX4 48 yX4_cellOf wsX4_cellOf) := goodIn_app (goodIn_of _ (by decide +kernel)) ggX4_goes_X4_cellOf
theorem dX4_goes_0 : decode cX4_goes 0 = .ok (.aload_n 0, 1) := by decide +kernel
theorem dX4_goes_1 : decode cX4_goes 1 = .ok (.getfield 7, 3) := by decide +kernel
theorem dX4_goes_4 : decode cX4_goes 4 = .ok (.bipush 13, 2) := by decide +kernel
theorem dX4_goes_6 : decode cX4_goes 6 = .ok (.iload_n 1, 1) := by decide +kernel
theorem dX4_goes_7 : decode cX4_goes 7 = .ok (.iadd, 1) := by decide +kernel
theorem dX4_goes_8 : decode cX4_goes 8 = .ok (.iaload, 1) := by decide +kernel
theorem dX4_goes_9 : decode cX4_goes 9 = .ok (.iconst 1, 1) := by decide +kernel
theorem dX4_goes_10 : decode cX4_goes 10 = .ok (.if_icmp .eq 19, 3) := by decide +kernel
theorem dX4_goes_13 : decode cX4_goes 13 = .ok (.aload_n 0, 1) := by decide +kernel
theorem dX4_goes_14 : decode cX4_goes 14 = .ok (.getfield 7, 3) := by decide +kernel
theorem dX4_goes_17 : decode cX4_goes 17 = .ok (.bipush 69, 2) := by decide +kernel
theorem dX4_goes_19 : decode cX4_goes 19 = .ok (.iload_n 1, 1) := by decide +kernel
theorem dX4_goes_20 : decode cX4_goes 20 = .ok (.iload_n 2, 1) := by decide +kernel
theorem dX4_goes_21 : decode cX4_goes 21 = .ok (.invokestatic 48, 3) := by decide +kernel
theorem dX4_goes_24 : decode cX4_goes 24 = .ok (.iadd, 1) := by decide +kernel
theorem dX4_goes_25 : decode cX4_goes 25 = .ok (.iaload, 1) := by decide +kernel
theorem dX4_goes_26 : decode cX4_goes 26 = .ok (.ifCond .le 7, 3) := by decide +kernel
theorem dX4_goes_29 : decode cX4_goes 29 = .ok (.iconst 1, 1) := by decide +kernel
theorem dX4_goes_30 : decode cX4_goes 30 = .ok (.goto 4, 3) := by decide +kernel
theorem dX4_goes_33 : decode cX4_goes 33 = .ok (.iconst 0, 1) := by decide +kernel
theorem dX4_goes_34 : decode cX4_goes 34 = .ok (.ireturn, 1) := by decide +kernel
set_option maxRecDepth 20000 in
theorem ggX4_wants_X4_cellOf : GoodIn wsX4_wants wsX4_cellOf := goodIn_r _ [5] (by decide +kernel) (by decide +kernel)
set_option maxRecDepth 20000 in
theorem gX4_wants_X4_cellOf : GoodIn wsX4_wants (va_wsS RX4 48 yX4_cellOf wsX4_cellOf) := goodIn_app (goodIn_of _ (by decide +kernel)) ggX4_wants_X4_cellOf
theorem dX4_wants_0 : decode cX4_wants 0 = .ok (.aload_n 0, 1) := by decide +kernel
theorem dX4_wants_1 : decode cX4_wants 1 = .ok (.getfield 7, 3) := by decide +kernel
theorem dX4_wants_4 : decode cX4_wants 4 = .ok (.bipush 21, 2) := by decide +kernel
theorem dX4_wants_6 : decode cX4_wants 6 = .ok (.iload_n 1, 1) := by decide +kernel
theorem dX4_wants_7 : decode cX4_wants 7 = .ok (.iload_n 2, 1) := by decide +kernel
theorem dX4_wants_8 : decode cX4_wants 8 = .ok (.invokestatic 48, 3) := by decide +kernel
theorem dX4_wants_11 : decode cX4_wants 11 = .ok (.iadd, 1) := by decide +kernel
theorem dX4_wants_12 : decode cX4_wants 12 = .ok (.iaload, 1) := by decide +kernel
theorem dX4_wants_13 : decode cX4_wants 13 = .ok (.ifCond .le 7, 3) := by decide +kernel
theorem dX4_wants_16 : decode cX4_wants 16 = .ok (.iconst 1, 1) := by decide +kernel
theorem dX4_wants_17 : decode cX4_wants 17 = .ok (.goto 4, 3) := by decide +kernel
theorem dX4_wants_20 : decode cX4_wants 20 = .ok (.iconst 0, 1) := by decide +kernel
theorem dX4_wants_21 : decode cX4_wants 21 = .ok (.ireturn, 1) := by decide +kernel
set_option maxRecDepth 20000 in
theorem ggX4_rowsOf_X4_goes : GoodIn wsX4_rowsOf wsX4_goes := goodIn_r _ [5, 6, 7, 8, 4, 9, 10, 11, 12, 13, 14, 15, 16, 17, 18, 19, 20, 21] (by decide +kernel) (by decide +kernel)
set_option maxRecDepth 20000 in
theorem gX4_rowsOf_X4_goes : GoodIn wsX4_rowsOf (wsV RX4 72 RX4 yX4_goes wsX4_goes) := goodIn_app (goodIn_of _ (by decide +kernel)) ggX4_rowsOf_X4_goes
theorem dX4_rowsOf_0 : decode cX4_rowsOf 0 = .ok (.iconst 0, 1) := by decide +kernel
theorem dX4_rowsOf_1 : decode cX4_rowsOf 1 = .ok (.istore_n 2, 1) := by decide +kernel
theorem dX4_rowsOf_2 : decode cX4_rowsOf 2 = .ok (.iconst 0, 1) := by decide +kernel
theorem dX4_rowsOf_3 : decode cX4_rowsOf 3 = .ok (.istore_n 3, 1) := by decide +kernel
theorem dX4_rowsOf_4 : decode cX4_rowsOf 4 = .ok (.iload_n 3, 1) := by decide +kernel
theorem dX4_rowsOf_5 : decode cX4_rowsOf 5 = .ok (.bipush 8, 2) := by decide +kernel
theorem dX4_rowsOf_7 : decode cX4_rowsOf 7 = .ok (.if_icmp .ge 28, 3) := by decide +kernel
theorem dX4_rowsOf_10 : decode cX4_rowsOf 10 = .ok (.iload_n 2, 1) := by decide +kernel
theorem dX4_rowsOf_11 : decode cX4_rowsOf 11 = .ok (.aload_n 0, 1) := by decide +kernel
theorem dX4_rowsOf_12 : decode cX4_rowsOf 12 = .ok (.iload_n 3, 1) := by decide +kernel
theorem dX4_rowsOf_13 : decode cX4_rowsOf 13 = .ok (.iload_n 1, 1) := by decide +kernel
theorem dX4_rowsOf_14 : decode cX4_rowsOf 14 = .ok (.invokevirtual 72, 3) := by decide +kernel
theorem dX4_rowsOf_17 : decode cX4_rowsOf 17 = .ok (.ifCond .eq 9, 3) := by decide +kernel
theorem dX4_rowsOf_20 : decode cX4_rowsOf 20 = .ok (.iconst 1, 1) := by decide +kernel
theorem dX4_rowsOf_21 : decode cX4_rowsOf 21 = .ok (.iload_n 3, 1) := by decide +kernel
theorem dX4_rowsOf_22 : decode cX4_rowsOf 22 = .ok (.ishl, 1) := by decide +kernel
theorem dX4_rowsOf_23 : decode cX4_rowsOf 23 = .ok (.goto 4, 3) := by decide +kernel
theorem dX4_rowsOf_26 : decode cX4_rowsOf 26 = .ok (.iconst 0, 1) := by decide +kernel
theorem dX4_rowsOf_27 : decode cX4_rowsOf 27 = .ok (.ior, 1) := by decide +kernel
theorem dX4_rowsOf_28 : decode cX4_rowsOf 28 = .ok (.istore_n 2, 1) := by decide +kernel
theorem dX4_rowsOf_29 : decode cX4_rowsOf 29 = .ok (.iinc 3 1, 3) := by decide +kernel
theorem dX4_rowsOf_32 : decode cX4_rowsOf 32 = .ok (.goto (-28), 3) := by decide +kernel
theorem dX4_rowsOf_35 : decode cX4_rowsOf 35 = .ok (.iload_n 2, 1) := by decide +kernel
theorem dX4_rowsOf_36 : decode cX4_rowsOf 36 = .ok (.ireturn, 1) := by decide +kernel
set_option maxRecDepth 20000 in
theorem ggX4_wantedOf_X4_wants : GoodIn wsX4_wantedOf wsX4_wants := goodIn_r _ [5, 6, 7, 8, 4, 9, 10, 11, 12, 13, 14, 15, 16, 17, 18, 19, 20, 21] (by decide +kernel) (by decide +kernel)
set_option maxRecDepth 20000 in
theorem gX4_wantedOf_X4_wants : GoodIn wsX4_wantedOf (wsV RX4 75 RX4 yX4_wants wsX4_wants) := goodIn_app (goodIn_of _ (by decide +kernel)) ggX4_wantedOf_X4_wants
theorem dX4_wantedOf_0 : decode cX4_wantedOf 0 = .ok (.iconst 0, 1) := by decide +kernel
theorem dX4_wantedOf_1 : decode cX4_wantedOf 1 = .ok (.istore_n 2, 1) := by decide +kernel
theorem dX4_wantedOf_2 : decode cX4_wantedOf 2 = .ok (.iconst 0, 1) := by decide +kernel
theorem dX4_wantedOf_3 : decode cX4_wantedOf 3 = .ok (.istore_n 3, 1) := by decide +kernel
theorem dX4_wantedOf_4 : decode cX4_wantedOf 4 = .ok (.iload_n 3, 1) := by decide +kernel
theorem dX4_wantedOf_5 : decode cX4_wantedOf 5 = .ok (.bipush 8, 2) := by decide +kernel
theorem dX4_wantedOf_7 : decode cX4_wantedOf 7 = .ok (.if_icmp .ge 28, 3) := by decide +kernel
theorem dX4_wantedOf_10 : decode cX4_wantedOf 10 = .ok (.iload_n 2, 1) := by decide +kernel
theorem dX4_wantedOf_11 : decode cX4_wantedOf 11 = .ok (.aload_n 0, 1) := by decide +kernel
theorem dX4_wantedOf_12 : decode cX4_wantedOf 12 = .ok (.iload_n 3, 1) := by decide +kernel
theorem dX4_wantedOf_13 : decode cX4_wantedOf 13 = .ok (.iload_n 1, 1) := by decide +kernel
theorem dX4_wantedOf_14 : decode cX4_wantedOf 14 = .ok (.invokevirtual 75, 3) := by decide +kernel
theorem dX4_wantedOf_17 : decode cX4_wantedOf 17 = .ok (.ifCond .eq 9, 3) := by decide +kernel
theorem dX4_wantedOf_20 : decode cX4_wantedOf 20 = .ok (.iconst 1, 1) := by decide +kernel
theorem dX4_wantedOf_21 : decode cX4_wantedOf 21 = .ok (.iload_n 3, 1) := by decide +kernel
theorem dX4_wantedOf_22 : decode cX4_wantedOf 22 = .ok (.ishl, 1) := by decide +kernel
theorem dX4_wantedOf_23 : decode cX4_wantedOf 23 = .ok (.goto 4, 3) := by decide +kernel
theorem dX4_wantedOf_26 : decode cX4_wantedOf 26 = .ok (.iconst 0, 1) := by decide +kernel
theorem dX4_wantedOf_27 : decode cX4_wantedOf 27 = .ok (.ior, 1) := by decide +kernel
theorem dX4_wantedOf_28 : decode cX4_wantedOf 28 = .ok (.istore_n 2, 1) := by decide +kernel
theorem dX4_wantedOf_29 : decode cX4_wantedOf 29 = .ok (.iinc 3 1, 3) := by decide +kernel
theorem dX4_wantedOf_32 : decode cX4_wantedOf 32 = .ok (.goto (-28), 3) := by decide +kernel
theorem dX4_wantedOf_35 : decode cX4_wantedOf 35 = .ok (.iload_n 2, 1) := by decide +kernel
theorem dX4_wantedOf_36 : decode cX4_wantedOf 36 = .ok (.ireturn, 1) := by decide +kernel
set_option maxRecDepth 20000 in
theorem ggX4_rows_X4_isConcert : GoodIn wsX4_rows wsX4_isConcert := goodIn_r _ [5, 6, 7, 4, 8] (by decide +kernel) (by decide +kernel)
set_option maxRecDepth 20000 in
theorem gX4_rows_X4_isConcert : GoodIn wsX4_rows (va_wsS RX4 78 yX4_isConcert wsX4_isConcert) := goodIn_app (goodIn_of _ (by decide +kernel)) ggX4_rows_X4_isConcert
set_option maxRecDepth 20000 in
theorem ggX4_rows_X4_rowsOf : GoodIn wsX4_rows wsX4_rowsOf := goodIn_r _ [12, 13, 14, 15, 4, 16, 17, 18, 19, 20, 25, 26, 27, 28, 29, 30, 31, 32, 33, 34, 35, 36] (by decide +kernel) (by decide +kernel)
set_option maxRecDepth 20000 in
theorem gX4_rows_X4_rowsOf : GoodIn wsX4_rows (wsV RX4 82 RX4 yX4_rowsOf wsX4_rowsOf) := goodIn_app (goodIn_of _ (by decide +kernel)) ggX4_rows_X4_rowsOf
set_option maxRecDepth 20000 in
theorem ggX4_rows_X4_fails : GoodIn wsX4_rows wsX4_fails := goodIn_r _ [24, 1, 25, 26, 27, 28, 29, 30, 31, 32, 33, 34, 35, 36] (by decide +kernel) (by decide +kernel)
set_option maxRecDepth 20000 in
theorem gX4_rows_X4_fails : GoodIn wsX4_rows (wsV RX4 44 RX4 yX4_fails wsX4_fails) := goodIn_app (goodIn_of _ (by decide +kernel)) ggX4_rows_X4_fails
theorem dX4_rows_0 : decode cX4_rows 0 = .ok (.aload_n 0, 1) := by decide +kernel
theorem dX4_rows_1 : decode cX4_rows 1 = .ok (.iconst 0, 1) := by decide +kernel
theorem dX4_rows_2 : decode cX4_rows 2 = .ok (.putfield 25, 3) := by decide +kernel
theorem dX4_rows_5 : decode cX4_rows 5 = .ok (.iload_n 1, 1) := by decide +kernel
theorem dX4_rows_6 : decode cX4_rows 6 = .ok (.invokestatic 78, 3) := by decide +kernel
theorem dX4_rows_9 : decode cX4_rows 9 = .ok (.ifCond .eq 11, 3) := by decide +kernel
theorem dX4_rows_12 : decode cX4_rows 12 = .ok (.aload_n 0, 1) := by decide +kernel
theorem dX4_rows_13 : decode cX4_rows 13 = .ok (.iload_n 1, 1) := by decide +kernel
theorem dX4_rows_14 : decode cX4_rows 14 = .ok (.invokevirtual 82, 3) := by decide +kernel
theorem dX4_rows_17 : decode cX4_rows 17 = .ok (.goto 8, 3) := by decide +kernel
theorem dX4_rows_20 : decode cX4_rows 20 = .ok (.aload_n 0, 1) := by decide +kernel
theorem dX4_rows_21 : decode cX4_rows 21 = .ok (.iconst 1, 1) := by decide +kernel
theorem dX4_rows_22 : decode cX4_rows 22 = .ok (.invokevirtual 44, 3) := by decide +kernel
theorem dX4_rows_25 : decode cX4_rows 25 = .ok (.ireturn, 1) := by decide +kernel
set_option maxRecDepth 20000 in
theorem ggX4_wanted_X4_isConcert : GoodIn wsX4_wanted wsX4_isConcert := goodIn_r _ [5, 6, 7, 4, 8] (by decide +kernel) (by decide +kernel)
set_option maxRecDepth 20000 in
theorem gX4_wanted_X4_isConcert : GoodIn wsX4_wanted (va_wsS RX4 78 yX4_isConcert wsX4_isConcert) := goodIn_app (goodIn_of _ (by decide +kernel)) ggX4_wanted_X4_isConcert
set_option maxRecDepth 20000 in
theorem ggX4_wanted_X4_wantedOf : GoodIn wsX4_wanted wsX4_wantedOf := goodIn_r _ [12, 13, 14, 15, 4, 16, 17, 18, 19, 20, 25, 26, 27, 28, 29, 30, 31, 32, 33, 34, 35, 36] (by decide +kernel) (by decide +kernel)
set_option maxRecDepth 20000 in
theorem gX4_wanted_X4_wantedOf : GoodIn wsX4_wanted (wsV RX4 85 RX4 yX4_wantedOf wsX4_wantedOf) := goodIn_app (goodIn_of _ (by decide +kernel)) ggX4_wanted_X4_wantedOf
set_option maxRecDepth 20000 in
theorem ggX4_wanted_X4_fails : GoodIn wsX4_wanted wsX4_fails := goodIn_r _ [24, 1, 25, 26, 27, 28, 29, 30, 31, 32, 33, 34, 35, 36] (by decide +kernel) (by decide +kernel)
set_option maxRecDepth 20000 in
theorem gX4_wanted_X4_fails : GoodIn wsX4_wanted (wsV RX4 44 RX4 yX4_fails wsX4_fails) := goodIn_app (goodIn_of _ (by decide +kernel)) ggX4_wanted_X4_fails
theorem dX4_wanted_0 : decode cX4_wanted 0 = .ok (.aload_n 0, 1) := by decide +kernel
theorem dX4_wanted_1 : decode cX4_wanted 1 = .ok (.iconst 0, 1) := by decide +kernel
theorem dX4_wanted_2 : decode cX4_wanted 2 = .ok (.putfield 25, 3) := by decide +kernel
theorem dX4_wanted_5 : decode cX4_wanted 5 = .ok (.iload_n 1, 1) := by decide +kernel
theorem dX4_wanted_6 : decode cX4_wanted 6 = .ok (.invokestatic 78, 3) := by decide +kernel
theorem dX4_wanted_9 : decode cX4_wanted 9 = .ok (.ifCond .eq 11, 3) := by decide +kernel
theorem dX4_wanted_12 : decode cX4_wanted 12 = .ok (.aload_n 0, 1) := by decide +kernel
theorem dX4_wanted_13 : decode cX4_wanted 13 = .ok (.iload_n 1, 1) := by decide +kernel
theorem dX4_wanted_14 : decode cX4_wanted 14 = .ok (.invokevirtual 85, 3) := by decide +kernel
theorem dX4_wanted_17 : decode cX4_wanted 17 = .ok (.goto 8, 3) := by decide +kernel
theorem dX4_wanted_20 : decode cX4_wanted 20 = .ok (.aload_n 0, 1) := by decide +kernel
theorem dX4_wanted_21 : decode cX4_wanted 21 = .ok (.iconst 1, 1) := by decide +kernel
theorem dX4_wanted_22 : decode cX4_wanted 22 = .ok (.invokevirtual 44, 3) := by decide +kernel
theorem dX4_wanted_25 : decode cX4_wanted 25 = .ok (.ireturn, 1) := by decide +kernel
set_option maxRecDepth 20000 in
theorem ggX4_due_X4_chiefNow : GoodIn wsX4_due wsX4_chiefNow := goodIn_r _ [6, 1, 7, 8, 9, 10, 11, 12, 13, 14, 15, 16, 17, 18] (by decide +kernel) (by decide +kernel)
set_option maxRecDepth 20000 in
theorem gX4_due_X4_chiefNow : GoodIn wsX4_due (wsV RX4 65 RX4 yX4_chiefNow wsX4_chiefNow) := goodIn_app (goodIn_of _ (by decide +kernel)) ggX4_due_X4_chiefNow
theorem dX4_due_0 : decode cX4_due 0 = .ok (.aload_n 0, 1) := by decide +kernel
theorem dX4_due_1 : decode cX4_due 1 = .ok (.invokevirtual 65, 3) := by decide +kernel
theorem dX4_due_4 : decode cX4_due 4 = .ok (.ifCond .ne 12, 3) := by decide +kernel
theorem dX4_due_7 : decode cX4_due 7 = .ok (.aload_n 0, 1) := by decide +kernel
theorem dX4_due_8 : decode cX4_due 8 = .ok (.getfield 7, 3) := by decide +kernel
theorem dX4_due_11 : decode cX4_due 11 = .ok (.iconst 2, 1) := by decide +kernel
theorem dX4_due_12 : decode cX4_due 12 = .ok (.iaload, 1) := by decide +kernel
theorem dX4_due_13 : decode cX4_due 13 = .ok (.goto 11, 3) := by decide +kernel
theorem dX4_due_16 : decode cX4_due 16 = .ok (.iconst 2, 1) := by decide +kernel
theorem dX4_due_17 : decode cX4_due 17 = .ok (.aload_n 0, 1) := by decide +kernel
theorem dX4_due_18 : decode cX4_due 18 = .ok (.getfield 7, 3) := by decide +kernel
theorem dX4_due_21 : decode cX4_due 21 = .ok (.iconst 2, 1) := by decide +kernel
theorem dX4_due_22 : decode cX4_due 22 = .ok (.iaload, 1) := by decide +kernel
theorem dX4_due_23 : decode cX4_due 23 = .ok (.imul, 1) := by decide +kernel
theorem dX4_due_24 : decode cX4_due 24 = .ok (.ireturn, 1) := by decide +kernel
set_option maxRecDepth 20000 in
theorem ggX4_goesBy_X4_due : GoodIn wsX4_goesBy wsX4_due := goodIn_r _ [6, 1, 7, 8, 9, 5, 10, 15, 16, 17, 18, 19, 20, 21, 22, 23, 24, 25, 26] (by decide +kernel) (by decide +kernel)
set_option maxRecDepth 20000 in
theorem gX4_goesBy_X4_due : GoodIn wsX4_goesBy (wsV RX4 88 RX4 yX4_due wsX4_due) := goodIn_app (goodIn_of _ (by decide +kernel)) ggX4_goesBy_X4_due
set_option maxRecDepth 20000 in
theorem ggX4_goesBy_X4_calls : GoodIn wsX4_goesBy wsX4_calls := goodIn_r _ [14, 1, 15, 16, 17, 18, 19, 20, 21, 22, 23, 24, 25, 26] (by decide +kernel) (by decide +kernel)
set_option maxRecDepth 20000 in
theorem gX4_goesBy_X4_calls : GoodIn wsX4_goesBy (wsV RX4 36 RX4 yX4_calls wsX4_calls) := goodIn_app (goodIn_of _ (by decide +kernel)) ggX4_goesBy_X4_calls
theorem dX4_goesBy_0 : decode cX4_goesBy 0 = .ok (.iconst 0, 1) := by decide +kernel
theorem dX4_goesBy_1 : decode cX4_goesBy 1 = .ok (.istore_n 1, 1) := by decide +kernel
theorem dX4_goesBy_2 : decode cX4_goesBy 2 = .ok (.iload_n 1, 1) := by decide +kernel
theorem dX4_goesBy_3 : decode cX4_goesBy 3 = .ok (.bipush 48, 2) := by decide +kernel
theorem dX4_goesBy_5 : decode cX4_goesBy 5 = .ok (.if_icmp .ge 38, 3) := by decide +kernel
theorem dX4_goesBy_8 : decode cX4_goesBy 8 = .ok (.aload_n 0, 1) := by decide +kernel
theorem dX4_goesBy_9 : decode cX4_goesBy 9 = .ok (.getfield 7, 3) := by decide +kernel
theorem dX4_goesBy_12 : decode cX4_goesBy 12 = .ok (.bipush 69, 2) := by decide +kernel
theorem dX4_goesBy_14 : decode cX4_goesBy 14 = .ok (.iload_n 1, 1) := by decide +kernel
theorem dX4_goesBy_15 : decode cX4_goesBy 15 = .ok (.iadd, 1) := by decide +kernel
theorem dX4_goesBy_16 : decode cX4_goesBy 16 = .ok (.dup2, 1) := by decide +kernel
theorem dX4_goesBy_17 : decode cX4_goesBy 17 = .ok (.iaload, 1) := by decide +kernel
theorem dX4_goesBy_18 : decode cX4_goesBy 18 = .ok (.aload_n 0, 1) := by decide +kernel
theorem dX4_goesBy_19 : decode cX4_goesBy 19 = .ok (.getfield 7, 3) := by decide +kernel
theorem dX4_goesBy_22 : decode cX4_goesBy 22 = .ok (.bipush 69, 2) := by decide +kernel
theorem dX4_goesBy_24 : decode cX4_goesBy 24 = .ok (.iload_n 1, 1) := by decide +kernel
theorem dX4_goesBy_25 : decode cX4_goesBy 25 = .ok (.iadd, 1) := by decide +kernel
theorem dX4_goesBy_26 : decode cX4_goesBy 26 = .ok (.iaload, 1) := by decide +kernel
theorem dX4_goesBy_27 : decode cX4_goesBy 27 = .ok (.ifCond .le 7, 3) := by decide +kernel
theorem dX4_goesBy_30 : decode cX4_goesBy 30 = .ok (.iconst 1, 1) := by decide +kernel
theorem dX4_goesBy_31 : decode cX4_goesBy 31 = .ok (.goto 4, 3) := by decide +kernel
theorem dX4_goesBy_34 : decode cX4_goesBy 34 = .ok (.iconst 0, 1) := by decide +kernel
theorem dX4_goesBy_35 : decode cX4_goesBy 35 = .ok (.isub, 1) := by decide +kernel
theorem dX4_goesBy_36 : decode cX4_goesBy 36 = .ok (.iastore, 1) := by decide +kernel
theorem dX4_goesBy_37 : decode cX4_goesBy 37 = .ok (.iinc 1 1, 3) := by decide +kernel
theorem dX4_goesBy_40 : decode cX4_goesBy 40 = .ok (.goto (-38), 3) := by decide +kernel
theorem dX4_goesBy_43 : decode cX4_goesBy 43 = .ok (.aload_n 0, 1) := by decide +kernel
theorem dX4_goesBy_44 : decode cX4_goesBy 44 = .ok (.getfield 7, 3) := by decide +kernel
theorem dX4_goesBy_47 : decode cX4_goesBy 47 = .ok (.iconst 5, 1) := by decide +kernel
theorem dX4_goesBy_48 : decode cX4_goesBy 48 = .ok (.dup2, 1) := by decide +kernel
theorem dX4_goesBy_49 : decode cX4_goesBy 49 = .ok (.iaload, 1) := by decide +kernel
theorem dX4_goesBy_50 : decode cX4_goesBy 50 = .ok (.iconst 1, 1) := by decide +kernel
theorem dX4_goesBy_51 : decode cX4_goesBy 51 = .ok (.iadd, 1) := by decide +kernel
theorem dX4_goesBy_52 : decode cX4_goesBy 52 = .ok (.iastore, 1) := by decide +kernel
theorem dX4_goesBy_53 : decode cX4_goesBy 53 = .ok (.aload_n 0, 1) := by decide +kernel
theorem dX4_goesBy_54 : decode cX4_goesBy 54 = .ok (.getfield 7, 3) := by decide +kernel
theorem dX4_goesBy_57 : decode cX4_goesBy 57 = .ok (.bipush 6, 2) := by decide +kernel
theorem dX4_goesBy_59 : decode cX4_goesBy 59 = .ok (.dup2, 1) := by decide +kernel
theorem dX4_goesBy_60 : decode cX4_goesBy 60 = .ok (.iaload, 1) := by decide +kernel
theorem dX4_goesBy_61 : decode cX4_goesBy 61 = .ok (.iconst 1, 1) := by decide +kernel
theorem dX4_goesBy_62 : decode cX4_goesBy 62 = .ok (.iadd, 1) := by decide +kernel
theorem dX4_goesBy_63 : decode cX4_goesBy 63 = .ok (.iastore, 1) := by decide +kernel
theorem dX4_goesBy_64 : decode cX4_goesBy 64 = .ok (.aload_n 0, 1) := by decide +kernel
theorem dX4_goesBy_65 : decode cX4_goesBy 65 = .ok (.getfield 7, 3) := by decide +kernel
theorem dX4_goesBy_68 : decode cX4_goesBy 68 = .ok (.bipush 6, 2) := by decide +kernel
theorem dX4_goesBy_70 : decode cX4_goesBy 70 = .ok (.iaload, 1) := by decide +kernel
theorem dX4_goesBy_71 : decode cX4_goesBy 71 = .ok (.aload_n 0, 1) := by decide +kernel
theorem dX4_goesBy_72 : decode cX4_goesBy 72 = .ok (.invokevirtual 88, 3) := by decide +kernel
theorem dX4_goesBy_75 : decode cX4_goesBy 75 = .ok (.if_icmp .lt 7, 3) := by decide +kernel
theorem dX4_goesBy_78 : decode cX4_goesBy 78 = .ok (.iconst 1, 1) := by decide +kernel
theorem dX4_goesBy_79 : decode cX4_goesBy 79 = .ok (.goto 4, 3) := by decide +kernel
theorem dX4_goesBy_82 : decode cX4_goesBy 82 = .ok (.iconst 0, 1) := by decide +kernel
theorem dX4_goesBy_83 : decode cX4_goesBy 83 = .ok (.istore_n 1, 1) := by decide +kernel
theorem dX4_goesBy_84 : decode cX4_goesBy 84 = .ok (.iload_n 1, 1) := by decide +kernel
theorem dX4_goesBy_85 : decode cX4_goesBy 85 = .ok (.ifCond .eq 53, 3) := by decide +kernel
theorem dX4_goesBy_88 : decode cX4_goesBy 88 = .ok (.aload_n 0, 1) := by decide +kernel
theorem dX4_goesBy_89 : decode cX4_goesBy 89 = .ok (.getfield 7, 3) := by decide +kernel
theorem dX4_goesBy_92 : decode cX4_goesBy 92 = .ok (.bipush 6, 2) := by decide +kernel
theorem dX4_goesBy_94 : decode cX4_goesBy 94 = .ok (.iconst 0, 1) := by decide +kernel
theorem dX4_goesBy_95 : decode cX4_goesBy 95 = .ok (.iastore, 1) := by decide +kernel
theorem dX4_goesBy_96 : decode cX4_goesBy 96 = .ok (.aload_n 0, 1) := by decide +kernel
theorem dX4_goesBy_97 : decode cX4_goesBy 97 = .ok (.getfield 7, 3) := by decide +kernel
theorem dX4_goesBy_100 : decode cX4_goesBy 100 = .ok (.bipush 10, 2) := by decide +kernel
theorem dX4_goesBy_102 : decode cX4_goesBy 102 = .ok (.dup2, 1) := by decide +kernel
theorem dX4_goesBy_103 : decode cX4_goesBy 103 = .ok (.iaload, 1) := by decide +kernel
theorem dX4_goesBy_104 : decode cX4_goesBy 104 = .ok (.iconst 1, 1) := by decide +kernel
theorem dX4_goesBy_105 : decode cX4_goesBy 105 = .ok (.iadd, 1) := by decide +kernel
theorem dX4_goesBy_106 : decode cX4_goesBy 106 = .ok (.iastore, 1) := by decide +kernel
theorem dX4_goesBy_107 : decode cX4_goesBy 107 = .ok (.iconst 0, 1) := by decide +kernel
theorem dX4_goesBy_108 : decode cX4_goesBy 108 = .ok (.istore_n 2, 1) := by decide +kernel
theorem dX4_goesBy_109 : decode cX4_goesBy 109 = .ok (.iload_n 2, 1) := by decide +kernel
theorem dX4_goesBy_110 : decode cX4_goesBy 110 = .ok (.bipush 48, 2) := by decide +kernel
theorem dX4_goesBy_112 : decode cX4_goesBy 112 = .ok (.if_icmp .ge 26, 3) := by decide +kernel
theorem dX4_goesBy_115 : decode cX4_goesBy 115 = .ok (.aload_n 0, 1) := by decide +kernel
theorem dX4_goesBy_116 : decode cX4_goesBy 116 = .ok (.getfield 7, 3) := by decide +kernel
theorem dX4_goesBy_119 : decode cX4_goesBy 119 = .ok (.bipush 21, 2) := by decide +kernel
theorem dX4_goesBy_121 : decode cX4_goesBy 121 = .ok (.iload_n 2, 1) := by decide +kernel
theorem dX4_goesBy_122 : decode cX4_goesBy 122 = .ok (.iadd, 1) := by decide +kernel
theorem dX4_goesBy_123 : decode cX4_goesBy 123 = .ok (.iaload, 1) := by decide +kernel
theorem dX4_goesBy_124 : decode cX4_goesBy 124 = .ok (.ifCond .le 8, 3) := by decide +kernel
theorem dX4_goesBy_127 : decode cX4_goesBy 127 = .ok (.aload_n 0, 1) := by decide +kernel
theorem dX4_goesBy_128 : decode cX4_goesBy 128 = .ok (.iload_n 2, 1) := by decide +kernel
theorem dX4_goesBy_129 : decode cX4_goesBy 129 = .ok (.invokevirtual 36, 3) := by decide +kernel
theorem dX4_goesBy_132 : decode cX4_goesBy 132 = .ok (.iinc 2 1, 3) := by decide +kernel
theorem dX4_goesBy_135 : decode cX4_goesBy 135 = .ok (.goto (-26), 3) := by decide +kernel
theorem dX4_goesBy_138 : decode cX4_goesBy 138 = .ok (.iload_n 1, 1) := by decide +kernel
theorem dX4_goesBy_139 : decode cX4_goesBy 139 = .ok (.ireturn, 1) := by decide +kernel
set_option maxRecDepth 20000 in
theorem ggX4_passes_X4_goesBy : GoodIn wsX4_passes wsX4_goesBy := goodIn_r _ [5, 6, 7, 8, 9, 4, 10, 11, 12, 13, 14, 15, 16, 17, 18, 19, 20, 21, 22, 23, 24, 25, 26, 27, 28, 29, 30] (by decide +kernel) (by decide +kernel)
set_option maxRecDepth 20000 in
theorem gX4_passes_X4_goesBy : GoodIn wsX4_passes (wsV RX4 91 RX4 yX4_goesBy wsX4_goesBy) := goodIn_app (goodIn_of _ (by decide +kernel)) ggX4_passes_X4_goesBy
theorem dX4_passes_0 : decode cX4_passes 0 = .ok (.iconst 0, 1) := by decide +kernel
theorem dX4_passes_1 : decode cX4_passes 1 = .ok (.istore_n 2, 1) := by decide +kernel
theorem dX4_passes_2 : decode cX4_passes 2 = .ok (.iconst 0, 1) := by decide +kernel
theorem dX4_passes_3 : decode cX4_passes 3 = .ok (.istore_n 3, 1) := by decide +kernel
theorem dX4_passes_4 : decode cX4_passes 4 = .ok (.iload_n 3, 1) := by decide +kernel
theorem dX4_passes_5 : decode cX4_passes 5 = .ok (.iload_n 1, 1) := by decide +kernel
theorem dX4_passes_6 : decode cX4_passes 6 = .ok (.if_icmp .ge 24, 3) := by decide +kernel
theorem dX4_passes_9 : decode cX4_passes 9 = .ok (.iload_n 2, 1) := by decide +kernel
theorem dX4_passes_10 : decode cX4_passes 10 = .ok (.aload_n 0, 1) := by decide +kernel
theorem dX4_passes_11 : decode cX4_passes 11 = .ok (.invokevirtual 91, 3) := by decide +kernel
theorem dX4_passes_14 : decode cX4_passes 14 = .ok (.ifCond .eq 7, 3) := by decide +kernel
theorem dX4_passes_17 : decode cX4_passes 17 = .ok (.iconst 1, 1) := by decide +kernel
theorem dX4_passes_18 : decode cX4_passes 18 = .ok (.goto 4, 3) := by decide +kernel
theorem dX4_passes_21 : decode cX4_passes 21 = .ok (.iconst 0, 1) := by decide +kernel
theorem dX4_passes_22 : decode cX4_passes 22 = .ok (.iadd, 1) := by decide +kernel
theorem dX4_passes_23 : decode cX4_passes 23 = .ok (.istore_n 2, 1) := by decide +kernel
theorem dX4_passes_24 : decode cX4_passes 24 = .ok (.iinc 3 1, 3) := by decide +kernel
theorem dX4_passes_27 : decode cX4_passes 27 = .ok (.goto (-23), 3) := by decide +kernel
theorem dX4_passes_30 : decode cX4_passes 30 = .ok (.iload_n 2, 1) := by decide +kernel
theorem dX4_passes_31 : decode cX4_passes 31 = .ok (.ireturn, 1) := by decide +kernel
set_option maxRecDepth 20000 in
theorem ggX4_pass_X4_in : GoodIn wsX4_pass wsX4_in := goodIn_r _ [5] (by decide +kernel) (by decide +kernel)
set_option maxRecDepth 20000 in
theorem gX4_pass_X4_in : GoodIn wsX4_pass (va_wsS RX4 29 yX4_in wsX4_in) := goodIn_app (goodIn_of _ (by decide +kernel)) ggX4_pass_X4_in
set_option maxRecDepth 20000 in
theorem ggX4_pass_X4_fails : GoodIn wsX4_pass wsX4_fails := goodIn_r _ [9, 1, 37, 38, 39, 40, 41, 42, 43, 44, 45, 46, 47, 48] (by decide +kernel) (by decide +kernel)
set_option maxRecDepth 20000 in
theorem gX4_pass_X4_fails : GoodIn wsX4_pass (wsV RX4 44 RX4 yX4_fails wsX4_fails) := goodIn_app (goodIn_of _ (by decide +kernel)) ggX4_pass_X4_fails
set_option maxRecDepth 20000 in
theorem ggX4_pass_X4_saves : GoodIn wsX4_pass wsX4_saves := goodIn_r _ [13, 14, 15, 16, 37, 38, 39, 40, 41, 42, 43, 44, 45, 46, 47, 48] (by decide +kernel) (by decide +kernel)
set_option maxRecDepth 20000 in
theorem gX4_pass_X4_saves : GoodIn wsX4_pass (wsV RX4 52 RX4 yX4_saves wsX4_saves) := goodIn_app (goodIn_of _ (by decide +kernel)) ggX4_pass_X4_saves
set_option maxRecDepth 20000 in
theorem ggX4_pass_X4_passes : GoodIn wsX4_pass wsX4_passes := goodIn_r _ [20, 21, 22, 23, 4, 24, 16, 25, 26, 27, 28, 29, 30, 31, 32, 33, 34, 35, 36, 37, 38, 39, 40, 41, 42, 43, 44, 45, 46, 47, 48] (by decide +kernel) (by decide +kernel)
set_option maxRecDepth 20000 in
theorem gX4_pass_X4_passes : GoodIn wsX4_pass (wsV RX4 95 RX4 yX4_passes wsX4_passes) := goodIn_app (goodIn_of _ (by decide +kernel)) ggX4_pass_X4_passes
theorem dX4_pass_0 : decode cX4_pass 0 = .ok (.aload_n 0, 1) := by decide +kernel
theorem dX4_pass_1 : decode cX4_pass 1 = .ok (.iconst 0, 1) := by decide +kernel
theorem dX4_pass_2 : decode cX4_pass 2 = .ok (.putfield 25, 3) := by decide +kernel
theorem dX4_pass_5 : decode cX4_pass 5 = .ok (.iload_n 1, 1) := by decide +kernel
theorem dX4_pass_6 : decode cX4_pass 6 = .ok (.iconst 1, 1) := by decide +kernel
theorem dX4_pass_7 : decode cX4_pass 7 = .ok (.bipush 60, 2) := by decide +kernel
theorem dX4_pass_9 : decode cX4_pass 9 = .ok (.invokestatic 29, 3) := by decide +kernel
theorem dX4_pass_12 : decode cX4_pass 12 = .ok (.ifCond .ne 9, 3) := by decide +kernel
theorem dX4_pass_15 : decode cX4_pass 15 = .ok (.aload_n 0, 1) := by decide +kernel
theorem dX4_pass_16 : decode cX4_pass 16 = .ok (.iconst 1, 1) := by decide +kernel
theorem dX4_pass_17 : decode cX4_pass 17 = .ok (.invokevirtual 44, 3) := by decide +kernel
theorem dX4_pass_20 : decode cX4_pass 20 = .ok (.ireturn, 1) := by decide +kernel
theorem dX4_pass_21 : decode cX4_pass 21 = .ok (.aload_n 0, 1) := by decide +kernel
theorem dX4_pass_22 : decode cX4_pass 22 = .ok (.invokevirtual 52, 3) := by decide +kernel
theorem dX4_pass_25 : decode cX4_pass 25 = .ok (.aload_n 0, 1) := by decide +kernel
theorem dX4_pass_26 : decode cX4_pass 26 = .ok (.iload_n 1, 1) := by decide +kernel
theorem dX4_pass_27 : decode cX4_pass 27 = .ok (.invokevirtual 95, 3) := by decide +kernel
theorem dX4_pass_30 : decode cX4_pass 30 = .ok (.ireturn, 1) := by decide +kernel
set_option maxRecDepth 20000 in
theorem ggX4_plays_X4_goes : GoodIn wsX4_plays wsX4_goes := goodIn_r _ [6, 1, 7, 8, 5, 9, 14, 15, 16, 17, 18, 19, 20, 21, 22, 23, 24, 25] (by decide +kernel) (by decide +kernel)
set_option maxRecDepth 20000 in
theorem gX4_plays_X4_goes : GoodIn wsX4_plays (wsV RX4 72 RX4 yX4_goes wsX4_goes) := goodIn_app (goodIn_of _ (by decide +kernel)) ggX4_plays_X4_goes
set_option maxRecDepth 20000 in
theorem ggX4_plays_X4_wants : GoodIn wsX4_plays wsX4_wants := goodIn_r _ [13, 1, 7, 8, 5, 9, 14, 15, 16, 17, 18, 19, 20, 21, 22, 23, 24, 25] (by decide +kernel) (by decide +kernel)
set_option maxRecDepth 20000 in
theorem gX4_plays_X4_wants : GoodIn wsX4_plays (wsV RX4 75 RX4 yX4_wants wsX4_wants) := goodIn_app (goodIn_of _ (by decide +kernel)) ggX4_plays_X4_wants
theorem dX4_plays_0 : decode cX4_plays 0 = .ok (.iconst 0, 1) := by decide +kernel
theorem dX4_plays_1 : decode cX4_plays 1 = .ok (.istore_n 2, 1) := by decide +kernel
theorem dX4_plays_2 : decode cX4_plays 2 = .ok (.iconst 0, 1) := by decide +kernel
theorem dX4_plays_3 : decode cX4_plays 3 = .ok (.istore_n 3, 1) := by decide +kernel
theorem dX4_plays_4 : decode cX4_plays 4 = .ok (.iload_n 3, 1) := by decide +kernel
theorem dX4_plays_5 : decode cX4_plays 5 = .ok (.bipush 8, 2) := by decide +kernel
theorem dX4_plays_7 : decode cX4_plays 7 = .ok (.if_icmp .ge 113, 3) := by decide +kernel
theorem dX4_plays_10 : decode cX4_plays 10 = .ok (.aload_n 0, 1) := by decide +kernel
theorem dX4_plays_11 : decode cX4_plays 11 = .ok (.iload_n 3, 1) := by decide +kernel
theorem dX4_plays_12 : decode cX4_plays 12 = .ok (.iload_n 1, 1) := by decide +kernel
theorem dX4_plays_13 : decode cX4_plays 13 = .ok (.invokevirtual 72, 3) := by decide +kernel
theorem dX4_plays_16 : decode cX4_plays 16 = .ok (.istore 4, 2) := by decide +kernel
theorem dX4_plays_18 : decode cX4_plays 18 = .ok (.aload_n 0, 1) := by decide +kernel
theorem dX4_plays_19 : decode cX4_plays 19 = .ok (.iload_n 3, 1) := by decide +kernel
theorem dX4_plays_20 : decode cX4_plays 20 = .ok (.iload_n 1, 1) := by decide +kernel
theorem dX4_plays_21 : decode cX4_plays 21 = .ok (.invokevirtual 75, 3) := by decide +kernel
theorem dX4_plays_24 : decode cX4_plays 24 = .ok (.istore 5, 2) := by decide +kernel
theorem dX4_plays_26 : decode cX4_plays 26 = .ok (.aload_n 0, 1) := by decide +kernel
theorem dX4_plays_27 : decode cX4_plays 27 = .ok (.getfield 7, 3) := by decide +kernel
theorem dX4_plays_30 : decode cX4_plays 30 = .ok (.bipush 7, 2) := by decide +kernel
theorem dX4_plays_32 : decode cX4_plays 32 = .ok (.dup2, 1) := by decide +kernel
theorem dX4_plays_33 : decode cX4_plays 33 = .ok (.iaload, 1) := by decide +kernel
theorem dX4_plays_34 : decode cX4_plays 34 = .ok (.iload 4, 2) := by decide +kernel
theorem dX4_plays_36 : decode cX4_plays 36 = .ok (.ifCond .eq 12, 3) := by decide +kernel
theorem dX4_plays_39 : decode cX4_plays 39 = .ok (.iload 5, 2) := by decide +kernel
theorem dX4_plays_41 : decode cX4_plays 41 = .ok (.ifCond .eq 7, 3) := by decide +kernel
theorem dX4_plays_44 : decode cX4_plays 44 = .ok (.iconst 1, 1) := by decide +kernel
theorem dX4_plays_45 : decode cX4_plays 45 = .ok (.goto 4, 3) := by decide +kernel
theorem dX4_plays_48 : decode cX4_plays 48 = .ok (.iconst 0, 1) := by decide +kernel
theorem dX4_plays_49 : decode cX4_plays 49 = .ok (.iadd, 1) := by decide +kernel
theorem dX4_plays_50 : decode cX4_plays 50 = .ok (.iastore, 1) := by decide +kernel
theorem dX4_plays_51 : decode cX4_plays 51 = .ok (.aload_n 0, 1) := by decide +kernel
theorem dX4_plays_52 : decode cX4_plays 52 = .ok (.getfield 7, 3) := by decide +kernel
theorem dX4_plays_55 : decode cX4_plays 55 = .ok (.bipush 8, 2) := by decide +kernel
theorem dX4_plays_57 : decode cX4_plays 57 = .ok (.dup2, 1) := by decide +kernel
theorem dX4_plays_58 : decode cX4_plays 58 = .ok (.iaload, 1) := by decide +kernel
theorem dX4_plays_59 : decode cX4_plays 59 = .ok (.iload 4, 2) := by decide +kernel
theorem dX4_plays_61 : decode cX4_plays 61 = .ok (.ifCond .eq 12, 3) := by decide +kernel
theorem dX4_plays_64 : decode cX4_plays 64 = .ok (.iload 5, 2) := by decide +kernel
theorem dX4_plays_66 : decode cX4_plays 66 = .ok (.ifCond .ne 7, 3) := by decide +kernel
theorem dX4_plays_69 : decode cX4_plays 69 = .ok (.iconst 1, 1) := by decide +kernel
theorem dX4_plays_70 : decode cX4_plays 70 = .ok (.goto 4, 3) := by decide +kernel
theorem dX4_plays_73 : decode cX4_plays 73 = .ok (.iconst 0, 1) := by decide +kernel
theorem dX4_plays_74 : decode cX4_plays 74 = .ok (.iadd, 1) := by decide +kernel
theorem dX4_plays_75 : decode cX4_plays 75 = .ok (.iastore, 1) := by decide +kernel
theorem dX4_plays_76 : decode cX4_plays 76 = .ok (.aload_n 0, 1) := by decide +kernel
theorem dX4_plays_77 : decode cX4_plays 77 = .ok (.getfield 7, 3) := by decide +kernel
theorem dX4_plays_80 : decode cX4_plays 80 = .ok (.bipush 9, 2) := by decide +kernel
theorem dX4_plays_82 : decode cX4_plays 82 = .ok (.dup2, 1) := by decide +kernel
theorem dX4_plays_83 : decode cX4_plays 83 = .ok (.iaload, 1) := by decide +kernel
theorem dX4_plays_84 : decode cX4_plays 84 = .ok (.iload 4, 2) := by decide +kernel
theorem dX4_plays_86 : decode cX4_plays 86 = .ok (.ifCond .ne 12, 3) := by decide +kernel
theorem dX4_plays_89 : decode cX4_plays 89 = .ok (.iload 5, 2) := by decide +kernel
theorem dX4_plays_91 : decode cX4_plays 91 = .ok (.ifCond .eq 7, 3) := by decide +kernel
theorem dX4_plays_94 : decode cX4_plays 94 = .ok (.iconst 1, 1) := by decide +kernel
theorem dX4_plays_95 : decode cX4_plays 95 = .ok (.goto 4, 3) := by decide +kernel
theorem dX4_plays_98 : decode cX4_plays 98 = .ok (.iconst 0, 1) := by decide +kernel
theorem dX4_plays_99 : decode cX4_plays 99 = .ok (.iadd, 1) := by decide +kernel
theorem dX4_plays_100 : decode cX4_plays 100 = .ok (.iastore, 1) := by decide +kernel
theorem dX4_plays_101 : decode cX4_plays 101 = .ok (.iload_n 2, 1) := by decide +kernel
theorem dX4_plays_102 : decode cX4_plays 102 = .ok (.iload 4, 2) := by decide +kernel
theorem dX4_plays_104 : decode cX4_plays 104 = .ok (.ifCond .eq 7, 3) := by decide +kernel
theorem dX4_plays_107 : decode cX4_plays 107 = .ok (.iconst 1, 1) := by decide +kernel
theorem dX4_plays_108 : decode cX4_plays 108 = .ok (.goto 4, 3) := by decide +kernel
theorem dX4_plays_111 : decode cX4_plays 111 = .ok (.iconst 0, 1) := by decide +kernel
theorem dX4_plays_112 : decode cX4_plays 112 = .ok (.iadd, 1) := by decide +kernel
theorem dX4_plays_113 : decode cX4_plays 113 = .ok (.istore_n 2, 1) := by decide +kernel
theorem dX4_plays_114 : decode cX4_plays 114 = .ok (.iinc 3 1, 3) := by decide +kernel
theorem dX4_plays_117 : decode cX4_plays 117 = .ok (.goto (-113), 3) := by decide +kernel
theorem dX4_plays_120 : decode cX4_plays 120 = .ok (.iload_n 2, 1) := by decide +kernel
theorem dX4_plays_121 : decode cX4_plays 121 = .ok (.ireturn, 1) := by decide +kernel
set_option maxRecDepth 20000 in
theorem ggX4_play_X4_isConcert : GoodIn wsX4_play wsX4_isConcert := goodIn_r _ [5, 6, 7, 4, 8] (by decide +kernel) (by decide +kernel)
set_option maxRecDepth 20000 in
theorem gX4_play_X4_isConcert : GoodIn wsX4_play (va_wsS RX4 78 yX4_isConcert wsX4_isConcert) := goodIn_app (goodIn_of _ (by decide +kernel)) ggX4_play_X4_isConcert
set_option maxRecDepth 20000 in
theorem ggX4_play_X4_fails : GoodIn wsX4_play wsX4_fails := goodIn_r _ [12, 1, 35, 36, 37, 38, 39, 40, 41, 42, 43, 44, 45, 46] (by decide +kernel) (by decide +kernel)
set_option maxRecDepth 20000 in
theorem gX4_play_X4_fails : GoodIn wsX4_play (wsV RX4 44 RX4 yX4_fails wsX4_fails) := goodIn_app (goodIn_of _ (by decide +kernel)) ggX4_play_X4_fails
set_option maxRecDepth 20000 in
theorem ggX4_play_X4_saves : GoodIn wsX4_play wsX4_saves := goodIn_r _ [16, 17, 18, 19, 35, 36, 37, 38, 39, 40, 41, 42, 43, 44, 45, 46] (by decide +kernel) (by decide +kernel)
set_option maxRecDepth 20000 in
theorem gX4_play_X4_saves : GoodIn wsX4_play (wsV RX4 52 RX4 yX4_saves wsX4_saves) := goodIn_app (goodIn_of _ (by decide +kernel)) ggX4_play_X4_saves
set_option maxRecDepth 20000 in
theorem ggX4_play_X4_plays : GoodIn wsX4_play wsX4_plays := goodIn_r _ [23, 19, 24, 25, 26, 4, 27, 28, 29, 30, 31, 32, 33, 34, 35, 36, 37, 38, 39, 40, 41, 42, 43, 44, 45, 46] (by decide +kernel) (by decide +kernel)
set_option maxRecDepth 20000 in
theorem gX4_play_X4_plays : GoodIn wsX4_play (wsV RX4 98 RX4 yX4_plays wsX4_plays) := goodIn_app (goodIn_of _ (by decide +kernel)) ggX4_play_X4_plays
theorem dX4_play_0 : decode cX4_play 0 = .ok (.aload_n 0, 1) := by decide +kernel
theorem dX4_play_1 : decode cX4_play 1 = .ok (.iconst 0, 1) := by decide +kernel
theorem dX4_play_2 : decode cX4_play 2 = .ok (.putfield 25, 3) := by decide +kernel
theorem dX4_play_5 : decode cX4_play 5 = .ok (.iload_n 1, 1) := by decide +kernel
theorem dX4_play_6 : decode cX4_play 6 = .ok (.invokestatic 78, 3) := by decide +kernel
theorem dX4_play_9 : decode cX4_play 9 = .ok (.ifCond .ne 9, 3) := by decide +kernel
theorem dX4_play_12 : decode cX4_play 12 = .ok (.aload_n 0, 1) := by decide +kernel
theorem dX4_play_13 : decode cX4_play 13 = .ok (.iconst 1, 1) := by decide +kernel
theorem dX4_play_14 : decode cX4_play 14 = .ok (.invokevirtual 44, 3) := by decide +kernel
theorem dX4_play_17 : decode cX4_play 17 = .ok (.ireturn, 1) := by decide +kernel
theorem dX4_play_18 : decode cX4_play 18 = .ok (.aload_n 0, 1) := by decide +kernel
theorem dX4_play_19 : decode cX4_play 19 = .ok (.invokevirtual 52, 3) := by decide +kernel
theorem dX4_play_22 : decode cX4_play 22 = .ok (.aload_n 0, 1) := by decide +kernel
theorem dX4_play_23 : decode cX4_play 23 = .ok (.iload_n 1, 1) := by decide +kernel
theorem dX4_play_24 : decode cX4_play 24 = .ok (.invokevirtual 98, 3) := by decide +kernel
theorem dX4_play_27 : decode cX4_play 27 = .ok (.ireturn, 1) := by decide +kernel
theorem dX4_minutes_0 : decode cX4_minutes 0 = .ok (.aload_n 0, 1) := by decide +kernel
theorem dX4_minutes_1 : decode cX4_minutes 1 = .ok (.iconst 0, 1) := by decide +kernel
theorem dX4_minutes_2 : decode cX4_minutes 2 = .ok (.putfield 25, 3) := by decide +kernel
theorem dX4_minutes_5 : decode cX4_minutes 5 = .ok (.aload_n 0, 1) := by decide +kernel
theorem dX4_minutes_6 : decode cX4_minutes 6 = .ok (.getfield 7, 3) := by decide +kernel
theorem dX4_minutes_9 : decode cX4_minutes 9 = .ok (.iconst 5, 1) := by decide +kernel
theorem dX4_minutes_10 : decode cX4_minutes 10 = .ok (.iaload, 1) := by decide +kernel
theorem dX4_minutes_11 : decode cX4_minutes 11 = .ok (.ireturn, 1) := by decide +kernel
theorem dX4_sinceQuestion_0 : decode cX4_sinceQuestion 0 = .ok (.aload_n 0, 1) := by decide +kernel
theorem dX4_sinceQuestion_1 : decode cX4_sinceQuestion 1 = .ok (.iconst 0, 1) := by decide +kernel
theorem dX4_sinceQuestion_2 : decode cX4_sinceQuestion 2 = .ok (.putfield 25, 3) := by decide +kernel
theorem dX4_sinceQuestion_5 : decode cX4_sinceQuestion 5 = .ok (.aload_n 0, 1) := by decide +kernel
theorem dX4_sinceQuestion_6 : decode cX4_sinceQuestion 6 = .ok (.getfield 7, 3) := by decide +kernel
theorem dX4_sinceQuestion_9 : decode cX4_sinceQuestion 9 = .ok (.bipush 6, 2) := by decide +kernel
theorem dX4_sinceQuestion_11 : decode cX4_sinceQuestion 11 = .ok (.iaload, 1) := by decide +kernel
theorem dX4_sinceQuestion_12 : decode cX4_sinceQuestion 12 = .ok (.ireturn, 1) := by decide +kernel
set_option maxRecDepth 20000 in
theorem ggX4_count_X4_in : GoodIn wsX4_count wsX4_in := goodIn_r _ [6] (by decide +kernel) (by decide +kernel)
set_option maxRecDepth 20000 in
theorem gX4_count_X4_in : GoodIn wsX4_count (va_wsS RX4 29 yX4_in wsX4_in) := goodIn_app (goodIn_of _ (by decide +kernel)) ggX4_count_X4_in
set_option maxRecDepth 20000 in
theorem ggX4_count_X4_fails : GoodIn wsX4_count wsX4_fails := goodIn_r _ [10, 1, 11, 12, 13, 14, 15, 16, 17, 18, 19, 20, 21, 22] (by decide +kernel) (by decide +kernel)
set_option maxRecDepth 20000 in
theorem gX4_count_X4_fails : GoodIn wsX4_count (wsV RX4 44 RX4 yX4_fails wsX4_fails) := goodIn_app (goodIn_of _ (by decide +kernel)) ggX4_count_X4_fails
theorem dX4_count_0 : decode cX4_count 0 = .ok (.aload_n 0, 1) := by decide +kernel
theorem dX4_count_1 : decode cX4_count 1 = .ok (.iconst 0, 1) := by decide +kernel
theorem dX4_count_2 : decode cX4_count 2 = .ok (.putfield 25, 3) := by decide +kernel
theorem dX4_count_5 : decode cX4_count 5 = .ok (.iload_n 1, 1) := by decide +kernel
theorem dX4_count_6 : decode cX4_count 6 = .ok (.iconst 0, 1) := by decide +kernel
theorem dX4_count_7 : decode cX4_count 7 = .ok (.iconst 5, 1) := by decide +kernel
theorem dX4_count_8 : decode cX4_count 8 = .ok (.invokestatic 29, 3) := by decide +kernel
theorem dX4_count_11 : decode cX4_count 11 = .ok (.ifCond .eq 15, 3) := by decide +kernel
theorem dX4_count_14 : decode cX4_count 14 = .ok (.aload_n 0, 1) := by decide +kernel
theorem dX4_count_15 : decode cX4_count 15 = .ok (.getfield 7, 3) := by decide +kernel
theorem dX4_count_18 : decode cX4_count 18 = .ok (.bipush 7, 2) := by decide +kernel
theorem dX4_count_20 : decode cX4_count 20 = .ok (.iload_n 1, 1) := by decide +kernel
theorem dX4_count_21 : decode cX4_count 21 = .ok (.iadd, 1) := by decide +kernel
theorem dX4_count_22 : decode cX4_count 22 = .ok (.iaload, 1) := by decide +kernel
theorem dX4_count_23 : decode cX4_count 23 = .ok (.goto 8, 3) := by decide +kernel
theorem dX4_count_26 : decode cX4_count 26 = .ok (.aload_n 0, 1) := by decide +kernel
theorem dX4_count_27 : decode cX4_count 27 = .ok (.iconst 1, 1) := by decide +kernel
theorem dX4_count_28 : decode cX4_count 28 = .ok (.invokevirtual 44, 3) := by decide +kernel
theorem dX4_count_31 : decode cX4_count 31 = .ok (.ireturn, 1) := by decide +kernel
theorem dX4_usefulShare_0 : decode cX4_usefulShare 0 = .ok (.aload_n 0, 1) := by decide +kernel
theorem dX4_usefulShare_1 : decode cX4_usefulShare 1 = .ok (.iconst 0, 1) := by decide +kernel
theorem dX4_usefulShare_2 : decode cX4_usefulShare 2 = .ok (.putfield 25, 3) := by decide +kernel
theorem dX4_usefulShare_5 : decode cX4_usefulShare 5 = .ok (.aload_n 0, 1) := by decide +kernel
theorem dX4_usefulShare_6 : decode cX4_usefulShare 6 = .ok (.getfield 7, 3) := by decide +kernel
theorem dX4_usefulShare_9 : decode cX4_usefulShare 9 = .ok (.bipush 7, 2) := by decide +kernel
theorem dX4_usefulShare_11 : decode cX4_usefulShare 11 = .ok (.iaload, 1) := by decide +kernel
theorem dX4_usefulShare_12 : decode cX4_usefulShare 12 = .ok (.aload_n 0, 1) := by decide +kernel
theorem dX4_usefulShare_13 : decode cX4_usefulShare 13 = .ok (.getfield 7, 3) := by decide +kernel
theorem dX4_usefulShare_16 : decode cX4_usefulShare 16 = .ok (.bipush 8, 2) := by decide +kernel
theorem dX4_usefulShare_18 : decode cX4_usefulShare 18 = .ok (.iaload, 1) := by decide +kernel
theorem dX4_usefulShare_19 : decode cX4_usefulShare 19 = .ok (.iadd, 1) := by decide +kernel
theorem dX4_usefulShare_20 : decode cX4_usefulShare 20 = .ok (.istore_n 1, 1) := by decide +kernel
theorem dX4_usefulShare_21 : decode cX4_usefulShare 21 = .ok (.iload_n 1, 1) := by decide +kernel
theorem dX4_usefulShare_22 : decode cX4_usefulShare 22 = .ok (.ifCond .ne 7, 3) := by decide +kernel
theorem dX4_usefulShare_25 : decode cX4_usefulShare 25 = .ok (.dconst 1, 1) := by decide +kernel
theorem dX4_usefulShare_26 : decode cX4_usefulShare 26 = .ok (.goto 14, 3) := by decide +kernel
theorem dX4_usefulShare_29 : decode cX4_usefulShare 29 = .ok (.aload_n 0, 1) := by decide +kernel
theorem dX4_usefulShare_30 : decode cX4_usefulShare 30 = .ok (.getfield 7, 3) := by decide +kernel
theorem dX4_usefulShare_33 : decode cX4_usefulShare 33 = .ok (.bipush 7, 2) := by decide +kernel
theorem dX4_usefulShare_35 : decode cX4_usefulShare 35 = .ok (.iaload, 1) := by decide +kernel
theorem dX4_usefulShare_36 : decode cX4_usefulShare 36 = .ok (.i2d, 1) := by decide +kernel
theorem dX4_usefulShare_37 : decode cX4_usefulShare 37 = .ok (.iload_n 1, 1) := by decide +kernel
theorem dX4_usefulShare_38 : decode cX4_usefulShare 38 = .ok (.i2d, 1) := by decide +kernel
theorem dX4_usefulShare_39 : decode cX4_usefulShare 39 = .ok (.ddiv, 1) := by decide +kernel
theorem dX4_usefulShare_40 : decode cX4_usefulShare 40 = .ok (.dreturn, 1) := by decide +kernel
set_option maxRecDepth 20000 in
theorem ggX4_fadesIn_X4_putAside : GoodIn wsX4_fadesIn wsX4_putAside := goodIn_r _ [6, 7, 1, 28, 29, 30, 31, 32, 33, 34, 35, 36, 37, 38, 39] (by decide +kernel) (by decide +kernel)
set_option maxRecDepth 20000 in
theorem gX4_fadesIn_X4_putAside : GoodIn wsX4_fadesIn (wsV RX4 101 RX4 yX4_putAside wsX4_putAside) := goodIn_app (goodIn_of _ (by decide +kernel)) ggX4_fadesIn_X4_putAside
set_option maxRecDepth 20000 in
theorem ggX4_fadesIn_X4_goesBy : GoodIn wsX4_fadesIn wsX4_goesBy := goodIn_r _ [11, 1, 12, 13, 14, 5, 15, 16, 17, 18, 19, 20, 21, 22, 23, 28, 29, 30, 31, 32, 33, 34, 35, 36, 37, 38, 39] (by decide +kernel) (by decide +kernel)
set_option maxRecDepth 20000 in
theorem gX4_fadesIn_X4_goesBy : GoodIn wsX4_fadesIn (wsV RX4 91 RX4 yX4_goesBy wsX4_goesBy) := goodIn_app (goodIn_of _ (by decide +kernel)) ggX4_fadesIn_X4_goesBy
set_option maxRecDepth 20000 in
theorem ggX4_fadesIn_X4_takeBack : GoodIn wsX4_fadesIn wsX4_takeBack := goodIn_r _ [27, 1, 7, 28, 29, 30, 31, 32, 33, 34, 35, 36, 37, 38, 39] (by decide +kernel) (by decide +kernel)
set_option maxRecDepth 20000 in
theorem gX4_fadesIn_X4_takeBack : GoodIn wsX4_fadesIn (wsV RX4 104 RX4 yX4_takeBack wsX4_takeBack) := goodIn_app (goodIn_of _ (by decide +kernel)) ggX4_fadesIn_X4_takeBack
theorem dX4_fadesIn_0 : decode cX4_fadesIn 0 = .ok (.aload_n 0, 1) := by decide +kernel
theorem dX4_fadesIn_1 : decode cX4_fadesIn 1 = .ok (.invokevirtual 101, 3) := by decide +kernel
theorem dX4_fadesIn_4 : decode cX4_fadesIn 4 = .ok (.iconst 0, 1) := by decide +kernel
theorem dX4_fadesIn_5 : decode cX4_fadesIn 5 = .ok (.istore_n 2, 1) := by decide +kernel
theorem dX4_fadesIn_6 : decode cX4_fadesIn 6 = .ok (.iload_n 2, 1) := by decide +kernel
theorem dX4_fadesIn_7 : decode cX4_fadesIn 7 = .ok (.sipush 150, 3) := by decide +kernel
theorem dX4_fadesIn_10 : decode cX4_fadesIn 10 = .ok (.if_icmp .ge 26, 3) := by decide +kernel
theorem dX4_fadesIn_13 : decode cX4_fadesIn 13 = .ok (.aload_n 0, 1) := by decide +kernel
theorem dX4_fadesIn_14 : decode cX4_fadesIn 14 = .ok (.getfield 7, 3) := by decide +kernel
theorem dX4_fadesIn_17 : decode cX4_fadesIn 17 = .ok (.bipush 69, 2) := by decide +kernel
theorem dX4_fadesIn_19 : decode cX4_fadesIn 19 = .ok (.iload_n 1, 1) := by decide +kernel
theorem dX4_fadesIn_20 : decode cX4_fadesIn 20 = .ok (.iadd, 1) := by decide +kernel
theorem dX4_fadesIn_21 : decode cX4_fadesIn 21 = .ok (.iaload, 1) := by decide +kernel
theorem dX4_fadesIn_22 : decode cX4_fadesIn 22 = .ok (.ifCond .le 14, 3) := by decide +kernel
theorem dX4_fadesIn_25 : decode cX4_fadesIn 25 = .ok (.aload_n 0, 1) := by decide +kernel
theorem dX4_fadesIn_26 : decode cX4_fadesIn 26 = .ok (.invokevirtual 91, 3) := by decide +kernel
theorem dX4_fadesIn_29 : decode cX4_fadesIn 29 = .ok (.pop, 1) := by decide +kernel
theorem dX4_fadesIn_30 : decode cX4_fadesIn 30 = .ok (.iinc 2 1, 3) := by decide +kernel
theorem dX4_fadesIn_33 : decode cX4_fadesIn 33 = .ok (.goto (-27), 3) := by decide +kernel
theorem dX4_fadesIn_36 : decode cX4_fadesIn 36 = .ok (.aload_n 0, 1) := by decide +kernel
theorem dX4_fadesIn_37 : decode cX4_fadesIn 37 = .ok (.getfield 7, 3) := by decide +kernel
theorem dX4_fadesIn_40 : decode cX4_fadesIn 40 = .ok (.bipush 69, 2) := by decide +kernel
theorem dX4_fadesIn_42 : decode cX4_fadesIn 42 = .ok (.iload_n 1, 1) := by decide +kernel
theorem dX4_fadesIn_43 : decode cX4_fadesIn 43 = .ok (.iadd, 1) := by decide +kernel
theorem dX4_fadesIn_44 : decode cX4_fadesIn 44 = .ok (.iaload, 1) := by decide +kernel
theorem dX4_fadesIn_45 : decode cX4_fadesIn 45 = .ok (.ifCond .le 7, 3) := by decide +kernel
theorem dX4_fadesIn_48 : decode cX4_fadesIn 48 = .ok (.iconst (-1), 1) := by decide +kernel
theorem dX4_fadesIn_49 : decode cX4_fadesIn 49 = .ok (.goto 4, 3) := by decide +kernel
theorem dX4_fadesIn_52 : decode cX4_fadesIn 52 = .ok (.iload_n 2, 1) := by decide +kernel
theorem dX4_fadesIn_53 : decode cX4_fadesIn 53 = .ok (.istore_n 3, 1) := by decide +kernel
theorem dX4_fadesIn_54 : decode cX4_fadesIn 54 = .ok (.aload_n 0, 1) := by decide +kernel
theorem dX4_fadesIn_55 : decode cX4_fadesIn 55 = .ok (.invokevirtual 104, 3) := by decide +kernel
theorem dX4_fadesIn_58 : decode cX4_fadesIn 58 = .ok (.iload_n 3, 1) := by decide +kernel
theorem dX4_fadesIn_59 : decode cX4_fadesIn 59 = .ok (.ireturn, 1) := by decide +kernel
set_option maxRecDepth 20000 in
theorem ggX4_minutesToFade_X4_isPair : GoodIn wsX4_minutesToFade wsX4_isPair := goodIn_r _ [5, 6, 7, 4, 8] (by decide +kernel) (by decide +kernel)
set_option maxRecDepth 20000 in
theorem gX4_minutesToFade_X4_isPair : GoodIn wsX4_minutesToFade (va_wsS RX4 40 yX4_isPair wsX4_isPair) := goodIn_app (goodIn_of _ (by decide +kernel)) ggX4_minutesToFade_X4_isPair
set_option maxRecDepth 20000 in
theorem ggX4_minutesToFade_X4_cellOf : GoodIn wsX4_minutesToFade wsX4_cellOf := goodIn_r _ [11] (by decide +kernel) (by decide +kernel)
set_option maxRecDepth 20000 in
theorem gX4_minutesToFade_X4_cellOf : GoodIn wsX4_minutesToFade (va_wsS RX4 48 yX4_cellOf wsX4_cellOf) := goodIn_app (goodIn_of _ (by decide +kernel)) ggX4_minutesToFade_X4_cellOf
set_option maxRecDepth 20000 in
theorem ggX4_minutesToFade_X4_fadesIn : GoodIn wsX4_minutesToFade wsX4_fadesIn := goodIn_r _ [15, 16, 17, 18, 19, 4, 20, 21, 22, 23, 24, 25, 26, 27, 28, 29, 30, 31, 32, 33, 34, 35, 36, 37, 38, 39, 40, 41, 46, 47, 48, 49, 50, 51, 52, 53, 54, 55, 56, 57] (by decide +kernel) (by decide +kernel)
set_option maxRecDepth 20000 in
theorem gX4_minutesToFade_X4_fadesIn : GoodIn wsX4_minutesToFade (wsV RX4 107 RX4 yX4_fadesIn wsX4_fadesIn) := goodIn_app (goodIn_of _ (by decide +kernel)) ggX4_minutesToFade_X4_fadesIn
set_option maxRecDepth 20000 in
theorem ggX4_minutesToFade_X4_fails : GoodIn wsX4_minutesToFade wsX4_fails := goodIn_r _ [45, 1, 46, 47, 48, 49, 50, 51, 52, 53, 54, 55, 56, 57] (by decide +kernel) (by decide +kernel)
set_option maxRecDepth 20000 in
theorem gX4_minutesToFade_X4_fails : GoodIn wsX4_minutesToFade (wsV RX4 44 RX4 yX4_fails wsX4_fails) := goodIn_app (goodIn_of _ (by decide +kernel)) ggX4_minutesToFade_X4_fails
theorem dX4_minutesToFade_0 : decode cX4_minutesToFade 0 = .ok (.aload_n 0, 1) := by decide +kernel
theorem dX4_minutesToFade_1 : decode cX4_minutesToFade 1 = .ok (.iconst 0, 1) := by decide +kernel
theorem dX4_minutesToFade_2 : decode cX4_minutesToFade 2 = .ok (.putfield 25, 3) := by decide +kernel
theorem dX4_minutesToFade_5 : decode cX4_minutesToFade 5 = .ok (.iload_n 1, 1) := by decide +kernel
theorem dX4_minutesToFade_6 : decode cX4_minutesToFade 6 = .ok (.iload_n 2, 1) := by decide +kernel
theorem dX4_minutesToFade_7 : decode cX4_minutesToFade 7 = .ok (.invokestatic 40, 3) := by decide +kernel
theorem dX4_minutesToFade_10 : decode cX4_minutesToFade 10 = .ok (.ifCond .eq 15, 3) := by decide +kernel
theorem dX4_minutesToFade_13 : decode cX4_minutesToFade 13 = .ok (.aload_n 0, 1) := by decide +kernel
theorem dX4_minutesToFade_14 : decode cX4_minutesToFade 14 = .ok (.iload_n 1, 1) := by decide +kernel
theorem dX4_minutesToFade_15 : decode cX4_minutesToFade 15 = .ok (.iload_n 2, 1) := by decide +kernel
theorem dX4_minutesToFade_16 : decode cX4_minutesToFade 16 = .ok (.invokestatic 48, 3) := by decide +kernel
theorem dX4_minutesToFade_19 : decode cX4_minutesToFade 19 = .ok (.invokevirtual 107, 3) := by decide +kernel
theorem dX4_minutesToFade_22 : decode cX4_minutesToFade 22 = .ok (.goto 8, 3) := by decide +kernel
theorem dX4_minutesToFade_25 : decode cX4_minutesToFade 25 = .ok (.aload_n 0, 1) := by decide +kernel
theorem dX4_minutesToFade_26 : decode cX4_minutesToFade 26 = .ok (.iconst 1, 1) := by decide +kernel
theorem dX4_minutesToFade_27 : decode cX4_minutesToFade 27 = .ok (.invokevirtual 44, 3) := by decide +kernel
theorem dX4_minutesToFade_30 : decode cX4_minutesToFade 30 = .ok (.ireturn, 1) := by decide +kernel
set_option maxRecDepth 20000 in
theorem ggX4_asksIn_X4_due : GoodIn wsX4_asksIn wsX4_due := goodIn_r _ [6, 1, 7, 8, 9, 5, 10, 11, 12, 13, 14, 15, 16, 17, 18, 19, 20, 21, 22] (by decide +kernel) (by decide +kernel)
set_option maxRecDepth 20000 in
theorem gX4_asksIn_X4_due : GoodIn wsX4_asksIn (wsV RX4 88 RX4 yX4_due wsX4_due) := goodIn_app (goodIn_of _ (by decide +kernel)) ggX4_asksIn_X4_due
theorem dX4_asksIn_0 : decode cX4_asksIn 0 = .ok (.aload_n 0, 1) := by decide +kernel
theorem dX4_asksIn_1 : decode cX4_asksIn 1 = .ok (.invokevirtual 88, 3) := by decide +kernel
theorem dX4_asksIn_4 : decode cX4_asksIn 4 = .ok (.aload_n 0, 1) := by decide +kernel
theorem dX4_asksIn_5 : decode cX4_asksIn 5 = .ok (.getfield 7, 3) := by decide +kernel
theorem dX4_asksIn_8 : decode cX4_asksIn 8 = .ok (.bipush 6, 2) := by decide +kernel
theorem dX4_asksIn_10 : decode cX4_asksIn 10 = .ok (.iaload, 1) := by decide +kernel
theorem dX4_asksIn_11 : decode cX4_asksIn 11 = .ok (.isub, 1) := by decide +kernel
theorem dX4_asksIn_12 : decode cX4_asksIn 12 = .ok (.istore_n 1, 1) := by decide +kernel
theorem dX4_asksIn_13 : decode cX4_asksIn 13 = .ok (.iload_n 1, 1) := by decide +kernel
theorem dX4_asksIn_14 : decode cX4_asksIn 14 = .ok (.iconst 1, 1) := by decide +kernel
theorem dX4_asksIn_15 : decode cX4_asksIn 15 = .ok (.if_icmp .ge 7, 3) := by decide +kernel
theorem dX4_asksIn_18 : decode cX4_asksIn 18 = .ok (.iconst 1, 1) := by decide +kernel
theorem dX4_asksIn_19 : decode cX4_asksIn 19 = .ok (.goto 4, 3) := by decide +kernel
theorem dX4_asksIn_22 : decode cX4_asksIn 22 = .ok (.iload_n 1, 1) := by decide +kernel
theorem dX4_asksIn_23 : decode cX4_asksIn 23 = .ok (.ireturn, 1) := by decide +kernel
set_option maxRecDepth 20000 in
theorem ggX4_minutesToQuestion_X4_asksIn : GoodIn wsX4_minutesToQuestion wsX4_asksIn := goodIn_r _ [6, 7, 8, 9, 10, 5, 11, 12, 13, 14, 15, 16, 17, 18, 19, 20, 21, 22, 23, 24, 25, 26, 27] (by decide +kernel) (by decide +kernel)
set_option maxRecDepth 20000 in
theorem gX4_minutesToQuestion_X4_asksIn : GoodIn wsX4_minutesToQuestion (wsV RX4 110 RX4 yX4_asksIn wsX4_asksIn) := goodIn_app (goodIn_of _ (by decide +kernel)) ggX4_minutesToQuestion_X4_asksIn
theorem dX4_minutesToQuestion_0 : decode cX4_minutesToQuestion 0 = .ok (.aload_n 0, 1) := by decide +kernel
theorem dX4_minutesToQuestion_1 : decode cX4_minutesToQuestion 1 = .ok (.iconst 0, 1) := by decide +kernel
theorem dX4_minutesToQuestion_2 : decode cX4_minutesToQuestion 2 = .ok (.putfield 25, 3) := by decide +kernel
theorem dX4_minutesToQuestion_5 : decode cX4_minutesToQuestion 5 = .ok (.aload_n 0, 1) := by decide +kernel
theorem dX4_minutesToQuestion_6 : decode cX4_minutesToQuestion 6 = .ok (.invokevirtual 110, 3) := by decide +kernel
theorem dX4_minutesToQuestion_9 : decode cX4_minutesToQuestion 9 = .ok (.ireturn, 1) := by decide +kernel
set_option maxRecDepth 20000 in
theorem ggX4_disturbedAfter_X4_isConcert : GoodIn wsX4_disturbedAfter wsX4_isConcert := goodIn_r _ [5, 6, 7, 4, 8] (by decide +kernel) (by decide +kernel)
set_option maxRecDepth 20000 in
theorem gX4_disturbedAfter_X4_isConcert : GoodIn wsX4_disturbedAfter (va_wsS RX4 78 yX4_isConcert wsX4_isConcert) := goodIn_app (goodIn_of _ (by decide +kernel)) ggX4_disturbedAfter_X4_isConcert
set_option maxRecDepth 20000 in
theorem ggX4_disturbedAfter_X4_fails : GoodIn wsX4_disturbedAfter wsX4_fails := goodIn_r _ [12, 1, 54, 55, 56, 57, 58, 59, 60, 61, 62, 63, 64, 65] (by decide +kernel) (by decide +kernel)
set_option maxRecDepth 20000 in
theorem gX4_disturbedAfter_X4_fails : GoodIn wsX4_disturbedAfter (wsV RX4 44 RX4 yX4_fails wsX4_fails) := goodIn_app (goodIn_of _ (by decide +kernel)) ggX4_disturbedAfter_X4_fails
set_option maxRecDepth 20000 in
theorem ggX4_disturbedAfter_X4_in : GoodIn wsX4_disturbedAfter wsX4_in := goodIn_r _ [8] (by decide +kernel) (by decide +kernel)
set_option maxRecDepth 20000 in
theorem gX4_disturbedAfter_X4_in : GoodIn wsX4_disturbedAfter (va_wsS RX4 29 yX4_in wsX4_in) := goodIn_app (goodIn_of _ (by decide +kernel)) ggX4_disturbedAfter_X4_in
set_option maxRecDepth 20000 in
theorem ggX4_disturbedAfter_X4_putAside : GoodIn wsX4_disturbedAfter wsX4_putAside := goodIn_r _ [16, 17, 18, 54, 55, 56, 57, 58, 59, 60, 61, 62, 63, 64, 65] (by decide +kernel) (by decide +kernel)
set_option maxRecDepth 20000 in
theorem gX4_disturbedAfter_X4_putAside : GoodIn wsX4_disturbedAfter (wsV RX4 101 RX4 yX4_putAside wsX4_putAside) := goodIn_app (goodIn_of _ (by decide +kernel)) ggX4_disturbedAfter_X4_putAside
set_option maxRecDepth 20000 in
theorem ggX4_disturbedAfter_X4_passes : GoodIn wsX4_disturbedAfter wsX4_passes := goodIn_r _ [22, 23, 24, 25, 4, 26, 18, 27, 28, 29, 30, 31, 32, 33, 34, 35, 36, 37, 38, 54, 55, 56, 57, 58, 59, 60, 61, 62, 63, 64, 65] (by decide +kernel) (by decide +kernel)
set_option maxRecDepth 20000 in
theorem gX4_disturbedAfter_X4_passes : GoodIn wsX4_disturbedAfter (wsV RX4 95 RX4 yX4_passes wsX4_passes) := goodIn_app (goodIn_of _ (by decide +kernel)) ggX4_disturbedAfter_X4_passes
set_option maxRecDepth 20000 in
theorem ggX4_disturbedAfter_X4_goes : GoodIn wsX4_disturbedAfter wsX4_goes := goodIn_r _ [42, 18, 43, 44, 4, 45, 54, 55, 56, 57, 58, 59, 60, 61, 62, 63, 64, 65] (by decide +kernel) (by decide +kernel)
set_option maxRecDepth 20000 in
theorem gX4_disturbedAfter_X4_goes : GoodIn wsX4_disturbedAfter (wsV RX4 72 RX4 yX4_goes wsX4_goes) := goodIn_app (goodIn_of _ (by decide +kernel)) ggX4_disturbedAfter_X4_goes
set_option maxRecDepth 20000 in
theorem ggX4_disturbedAfter_X4_wants : GoodIn wsX4_disturbedAfter wsX4_wants := goodIn_r _ [49, 18, 43, 44, 4, 45, 54, 55, 56, 57, 58, 59, 60, 61, 62, 63, 64, 65] (by decide +kernel) (by decide +kernel)
set_option maxRecDepth 20000 in
theorem gX4_disturbedAfter_X4_wants : GoodIn wsX4_disturbedAfter (wsV RX4 75 RX4 yX4_wants wsX4_wants) := goodIn_app (goodIn_of _ (by decide +kernel)) ggX4_disturbedAfter_X4_wants
set_option maxRecDepth 20000 in
theorem ggX4_disturbedAfter_X4_takeBack : GoodIn wsX4_disturbedAfter wsX4_takeBack := goodIn_r _ [53, 18, 17, 54, 55, 56, 57, 58, 59, 60, 61, 62, 63, 64, 65] (by decide +kernel) (by decide +kernel)
set_option maxRecDepth 20000 in
theorem gX4_disturbedAfter_X4_takeBack : GoodIn wsX4_disturbedAfter (wsV RX4 104 RX4 yX4_takeBack wsX4_takeBack) := goodIn_app (goodIn_of _ (by decide +kernel)) ggX4_disturbedAfter_X4_takeBack
theorem dX4_disturbedAfter_0 : decode cX4_disturbedAfter 0 = .ok (.aload_n 0, 1) := by decide +kernel
theorem dX4_disturbedAfter_1 : decode cX4_disturbedAfter 1 = .ok (.iconst 0, 1) := by decide +kernel
theorem dX4_disturbedAfter_2 : decode cX4_disturbedAfter 2 = .ok (.putfield 25, 3) := by decide +kernel
theorem dX4_disturbedAfter_5 : decode cX4_disturbedAfter 5 = .ok (.iload_n 1, 1) := by decide +kernel
theorem dX4_disturbedAfter_6 : decode cX4_disturbedAfter 6 = .ok (.invokestatic 78, 3) := by decide +kernel
theorem dX4_disturbedAfter_9 : decode cX4_disturbedAfter 9 = .ok (.ifCond .ne 9, 3) := by decide +kernel
theorem dX4_disturbedAfter_12 : decode cX4_disturbedAfter 12 = .ok (.aload_n 0, 1) := by decide +kernel
theorem dX4_disturbedAfter_13 : decode cX4_disturbedAfter 13 = .ok (.iconst 1, 1) := by decide +kernel
theorem dX4_disturbedAfter_14 : decode cX4_disturbedAfter 14 = .ok (.invokevirtual 44, 3) := by decide +kernel
theorem dX4_disturbedAfter_17 : decode cX4_disturbedAfter 17 = .ok (.ireturn, 1) := by decide +kernel
theorem dX4_disturbedAfter_18 : decode cX4_disturbedAfter 18 = .ok (.iload_n 2, 1) := by decide +kernel
theorem dX4_disturbedAfter_19 : decode cX4_disturbedAfter 19 = .ok (.iconst 1, 1) := by decide +kernel
theorem dX4_disturbedAfter_20 : decode cX4_disturbedAfter 20 = .ok (.bipush 60, 2) := by decide +kernel
theorem dX4_disturbedAfter_22 : decode cX4_disturbedAfter 22 = .ok (.invokestatic 29, 3) := by decide +kernel
theorem dX4_disturbedAfter_25 : decode cX4_disturbedAfter 25 = .ok (.ifCond .ne 9, 3) := by decide +kernel
theorem dX4_disturbedAfter_28 : decode cX4_disturbedAfter 28 = .ok (.aload_n 0, 1) := by decide +kernel
theorem dX4_disturbedAfter_29 : decode cX4_disturbedAfter 29 = .ok (.iconst 2, 1) := by decide +kernel
theorem dX4_disturbedAfter_30 : decode cX4_disturbedAfter 30 = .ok (.invokevirtual 44, 3) := by decide +kernel
theorem dX4_disturbedAfter_33 : decode cX4_disturbedAfter 33 = .ok (.ireturn, 1) := by decide +kernel
theorem dX4_disturbedAfter_34 : decode cX4_disturbedAfter 34 = .ok (.aload_n 0, 1) := by decide +kernel
theorem dX4_disturbedAfter_35 : decode cX4_disturbedAfter 35 = .ok (.invokevirtual 101, 3) := by decide +kernel
theorem dX4_disturbedAfter_38 : decode cX4_disturbedAfter 38 = .ok (.aload_n 0, 1) := by decide +kernel
theorem dX4_disturbedAfter_39 : decode cX4_disturbedAfter 39 = .ok (.iload_n 2, 1) := by decide +kernel
theorem dX4_disturbedAfter_40 : decode cX4_disturbedAfter 40 = .ok (.invokevirtual 95, 3) := by decide +kernel
theorem dX4_disturbedAfter_43 : decode cX4_disturbedAfter 43 = .ok (.pop, 1) := by decide +kernel
theorem dX4_disturbedAfter_44 : decode cX4_disturbedAfter 44 = .ok (.iconst 0, 1) := by decide +kernel
theorem dX4_disturbedAfter_45 : decode cX4_disturbedAfter 45 = .ok (.istore_n 3, 1) := by decide +kernel
theorem dX4_disturbedAfter_46 : decode cX4_disturbedAfter 46 = .ok (.iconst 0, 1) := by decide +kernel
theorem dX4_disturbedAfter_47 : decode cX4_disturbedAfter 47 = .ok (.istore 4, 2) := by decide +kernel
theorem dX4_disturbedAfter_49 : decode cX4_disturbedAfter 49 = .ok (.iload 4, 2) := by decide +kernel
theorem dX4_disturbedAfter_51 : decode cX4_disturbedAfter 51 = .ok (.bipush 8, 2) := by decide +kernel
theorem dX4_disturbedAfter_53 : decode cX4_disturbedAfter 53 = .ok (.if_icmp .ge 37, 3) := by decide +kernel
theorem dX4_disturbedAfter_56 : decode cX4_disturbedAfter 56 = .ok (.iload_n 3, 1) := by decide +kernel
theorem dX4_disturbedAfter_57 : decode cX4_disturbedAfter 57 = .ok (.aload_n 0, 1) := by decide +kernel
theorem dX4_disturbedAfter_58 : decode cX4_disturbedAfter 58 = .ok (.iload 4, 2) := by decide +kernel
theorem dX4_disturbedAfter_60 : decode cX4_disturbedAfter 60 = .ok (.iload_n 1, 1) := by decide +kernel
theorem dX4_disturbedAfter_61 : decode cX4_disturbedAfter 61 = .ok (.invokevirtual 72, 3) := by decide +kernel
theorem dX4_disturbedAfter_64 : decode cX4_disturbedAfter 64 = .ok (.ifCond .eq 17, 3) := by decide +kernel
theorem dX4_disturbedAfter_67 : decode cX4_disturbedAfter 67 = .ok (.aload_n 0, 1) := by decide +kernel
theorem dX4_disturbedAfter_68 : decode cX4_disturbedAfter 68 = .ok (.iload 4, 2) := by decide +kernel
theorem dX4_disturbedAfter_70 : decode cX4_disturbedAfter 70 = .ok (.iload_n 1, 1) := by decide +kernel
theorem dX4_disturbedAfter_71 : decode cX4_disturbedAfter 71 = .ok (.invokevirtual 75, 3) := by decide +kernel
theorem dX4_disturbedAfter_74 : decode cX4_disturbedAfter 74 = .ok (.ifCond .ne 7, 3) := by decide +kernel
theorem dX4_disturbedAfter_77 : decode cX4_disturbedAfter 77 = .ok (.iconst 1, 1) := by decide +kernel
theorem dX4_disturbedAfter_78 : decode cX4_disturbedAfter 78 = .ok (.goto 4, 3) := by decide +kernel
theorem dX4_disturbedAfter_81 : decode cX4_disturbedAfter 81 = .ok (.iconst 0, 1) := by decide +kernel
theorem dX4_disturbedAfter_82 : decode cX4_disturbedAfter 82 = .ok (.iadd, 1) := by decide +kernel
theorem dX4_disturbedAfter_83 : decode cX4_disturbedAfter 83 = .ok (.istore_n 3, 1) := by decide +kernel
theorem dX4_disturbedAfter_84 : decode cX4_disturbedAfter 84 = .ok (.iinc 4 1, 3) := by decide +kernel
theorem dX4_disturbedAfter_87 : decode cX4_disturbedAfter 87 = .ok (.goto (-38), 3) := by decide +kernel
theorem dX4_disturbedAfter_90 : decode cX4_disturbedAfter 90 = .ok (.aload_n 0, 1) := by decide +kernel
theorem dX4_disturbedAfter_91 : decode cX4_disturbedAfter 91 = .ok (.invokevirtual 104, 3) := by decide +kernel
theorem dX4_disturbedAfter_94 : decode cX4_disturbedAfter 94 = .ok (.iload_n 3, 1) := by decide +kernel
theorem dX4_disturbedAfter_95 : decode cX4_disturbedAfter 95 = .ok (.ireturn, 1) := by decide +kernel
set_option maxRecDepth 20000 in
theorem ggX4_append_X4_in : GoodIn wsX4_append wsX4_in := goodIn_r _ [7] (by decide +kernel) (by decide +kernel)
set_option maxRecDepth 20000 in
theorem gX4_append_X4_in : GoodIn wsX4_append (va_wsS RX4 29 yX4_in wsX4_in) := goodIn_app (goodIn_of _ (by decide +kernel)) ggX4_append_X4_in
set_option maxRecDepth 20000 in
theorem ggX4_append_X4_fails : GoodIn wsX4_append wsX4_fails := goodIn_r _ [11, 1, 12, 13, 14, 15, 16, 17, 18, 19, 20, 21, 22, 23] (by decide +kernel) (by decide +kernel)
set_option maxRecDepth 20000 in
theorem gX4_append_X4_fails : GoodIn wsX4_append (wsV RX4 44 RX4 yX4_fails wsX4_fails) := goodIn_app (goodIn_of _ (by decide +kernel)) ggX4_append_X4_fails
theorem dX4_append_0 : decode cX4_append 0 = .ok (.aload_n 0, 1) := by decide +kernel
theorem dX4_append_1 : decode cX4_append 1 = .ok (.iconst 0, 1) := by decide +kernel
theorem dX4_append_2 : decode cX4_append 2 = .ok (.putfield 25, 3) := by decide +kernel
theorem dX4_append_5 : decode cX4_append 5 = .ok (.iload_n 1, 1) := by decide +kernel
theorem dX4_append_6 : decode cX4_append 6 = .ok (.bipush 33, 2) := by decide +kernel
theorem dX4_append_8 : decode cX4_append 8 = .ok (.bipush 126, 2) := by decide +kernel
theorem dX4_append_10 : decode cX4_append 10 = .ok (.invokestatic 29, 3) := by decide +kernel
theorem dX4_append_13 : decode cX4_append 13 = .ok (.ifCond .ne 9, 3) := by decide +kernel
theorem dX4_append_16 : decode cX4_append 16 = .ok (.aload_n 0, 1) := by decide +kernel
theorem dX4_append_17 : decode cX4_append 17 = .ok (.iconst 1, 1) := by decide +kernel
theorem dX4_append_18 : decode cX4_append 18 = .ok (.invokevirtual 44, 3) := by decide +kernel
theorem dX4_append_21 : decode cX4_append 21 = .ok (.ireturn, 1) := by decide +kernel
theorem dX4_append_22 : decode cX4_append 22 = .ok (.aload_n 0, 1) := by decide +kernel
theorem dX4_append_23 : decode cX4_append 23 = .ok (.getfield 113, 3) := by decide +kernel
theorem dX4_append_26 : decode cX4_append 26 = .ok (.bipush 60, 2) := by decide +kernel
theorem dX4_append_28 : decode cX4_append 28 = .ok (.if_icmp .ne 9, 3) := by decide +kernel
theorem dX4_append_31 : decode cX4_append 31 = .ok (.aload_n 0, 1) := by decide +kernel
theorem dX4_append_32 : decode cX4_append 32 = .ok (.iconst 2, 1) := by decide +kernel
theorem dX4_append_33 : decode cX4_append 33 = .ok (.invokevirtual 44, 3) := by decide +kernel
theorem dX4_append_36 : decode cX4_append 36 = .ok (.ireturn, 1) := by decide +kernel
theorem dX4_append_37 : decode cX4_append 37 = .ok (.aload_n 0, 1) := by decide +kernel
theorem dX4_append_38 : decode cX4_append 38 = .ok (.getfield 19, 3) := by decide +kernel
theorem dX4_append_41 : decode cX4_append 41 = .ok (.aload_n 0, 1) := by decide +kernel
theorem dX4_append_42 : decode cX4_append 42 = .ok (.getfield 113, 3) := by decide +kernel
theorem dX4_append_45 : decode cX4_append 45 = .ok (.iload_n 1, 1) := by decide +kernel
theorem dX4_append_46 : decode cX4_append 46 = .ok (.iastore, 1) := by decide +kernel
theorem dX4_append_47 : decode cX4_append 47 = .ok (.aload_n 0, 1) := by decide +kernel
theorem dX4_append_48 : decode cX4_append 48 = .ok (.dup, 1) := by decide +kernel
theorem dX4_append_49 : decode cX4_append 49 = .ok (.getfield 113, 3) := by decide +kernel
theorem dX4_append_52 : decode cX4_append 52 = .ok (.iconst 1, 1) := by decide +kernel
theorem dX4_append_53 : decode cX4_append 53 = .ok (.iadd, 1) := by decide +kernel
theorem dX4_append_54 : decode cX4_append 54 = .ok (.putfield 113, 3) := by decide +kernel
theorem dX4_append_57 : decode cX4_append 57 = .ok (.aload_n 0, 1) := by decide +kernel
theorem dX4_append_58 : decode cX4_append 58 = .ok (.getfield 113, 3) := by decide +kernel
theorem dX4_append_61 : decode cX4_append 61 = .ok (.ireturn, 1) := by decide +kernel
theorem dX4_clearText_0 : decode cX4_clearText 0 = .ok (.aload_n 0, 1) := by decide +kernel
theorem dX4_clearText_1 : decode cX4_clearText 1 = .ok (.iconst 0, 1) := by decide +kernel
theorem dX4_clearText_2 : decode cX4_clearText 2 = .ok (.putfield 25, 3) := by decide +kernel
theorem dX4_clearText_5 : decode cX4_clearText 5 = .ok (.aload_n 0, 1) := by decide +kernel
theorem dX4_clearText_6 : decode cX4_clearText 6 = .ok (.getfield 113, 3) := by decide +kernel
theorem dX4_clearText_9 : decode cX4_clearText 9 = .ok (.istore_n 1, 1) := by decide +kernel
theorem dX4_clearText_10 : decode cX4_clearText 10 = .ok (.aload_n 0, 1) := by decide +kernel
theorem dX4_clearText_11 : decode cX4_clearText 11 = .ok (.iconst 0, 1) := by decide +kernel
theorem dX4_clearText_12 : decode cX4_clearText 12 = .ok (.putfield 113, 3) := by decide +kernel
theorem dX4_clearText_15 : decode cX4_clearText 15 = .ok (.iload_n 1, 1) := by decide +kernel
theorem dX4_clearText_16 : decode cX4_clearText 16 = .ok (.ireturn, 1) := by decide +kernel
theorem dX4_sign_0 : decode cX4_sign 0 = .ok (.aload_n 0, 1) := by decide +kernel
theorem dX4_sign_1 : decode cX4_sign 1 = .ok (.getfield 116, 3) := by decide +kernel
theorem dX4_sign_4 : decode cX4_sign 4 = .ok (.aload_n 0, 1) := by decide +kernel
theorem dX4_sign_5 : decode cX4_sign 5 = .ok (.getfield 113, 3) := by decide +kernel
theorem dX4_sign_8 : decode cX4_sign 8 = .ok (.if_icmp .ge 15, 3) := by decide +kernel
theorem dX4_sign_11 : decode cX4_sign 11 = .ok (.aload_n 0, 1) := by decide +kernel
theorem dX4_sign_12 : decode cX4_sign 12 = .ok (.getfield 19, 3) := by decide +kernel
theorem dX4_sign_15 : decode cX4_sign 15 = .ok (.aload_n 0, 1) := by decide +kernel
theorem dX4_sign_16 : decode cX4_sign 16 = .ok (.getfield 116, 3) := by decide +kernel
theorem dX4_sign_19 : decode cX4_sign 19 = .ok (.iaload, 1) := by decide +kernel
theorem dX4_sign_20 : decode cX4_sign 20 = .ok (.goto 4, 3) := by decide +kernel
theorem dX4_sign_23 : decode cX4_sign 23 = .ok (.iconst 0, 1) := by decide +kernel
theorem dX4_sign_24 : decode cX4_sign 24 = .ok (.ireturn, 1) := by decide +kernel
set_option maxRecDepth 20000 in
theorem ggX4_figure_X4_sign : GoodIn wsX4_figure wsX4_sign := goodIn_r _ [7, 2, 8, 9, 13, 14, 15, 16, 17, 18, 19, 20, 21, 22, 23, 24] (by decide +kernel) (by decide +kernel)
set_option maxRecDepth 20000 in
theorem gX4_figure_X4_sign : GoodIn wsX4_figure (wsV RX4 123 RX4 yX4_sign wsX4_sign) := goodIn_app (goodIn_of _ (by decide +kernel)) ggX4_figure_X4_sign
set_option maxRecDepth 20000 in
theorem ggX4_figure_X4_in : GoodIn wsX4_figure wsX4_in := goodIn_r _ [12] (by decide +kernel) (by decide +kernel)
set_option maxRecDepth 20000 in
theorem gX4_figure_X4_in : GoodIn wsX4_figure (va_wsS RX4 29 yX4_in wsX4_in) := goodIn_app (goodIn_of _ (by decide +kernel)) ggX4_figure_X4_in
theorem dX4_figure_0 : decode cX4_figure 0 = .ok (.aload_n 0, 1) := by decide +kernel
theorem dX4_figure_1 : decode cX4_figure 1 = .ok (.aload_n 0, 1) := by decide +kernel
theorem dX4_figure_2 : decode cX4_figure 2 = .ok (.getfield 119, 3) := by decide +kernel
theorem dX4_figure_5 : decode cX4_figure 5 = .ok (.ifCond .eq 25, 3) := by decide +kernel
theorem dX4_figure_8 : decode cX4_figure 8 = .ok (.aload_n 0, 1) := by decide +kernel
theorem dX4_figure_9 : decode cX4_figure 9 = .ok (.invokevirtual 123, 3) := by decide +kernel
theorem dX4_figure_12 : decode cX4_figure 12 = .ok (.bipush 48, 2) := by decide +kernel
theorem dX4_figure_14 : decode cX4_figure 14 = .ok (.iload_n 1, 1) := by decide +kernel
theorem dX4_figure_15 : decode cX4_figure 15 = .ok (.iadd, 1) := by decide +kernel
theorem dX4_figure_16 : decode cX4_figure 16 = .ok (.bipush 48, 2) := by decide +kernel
theorem dX4_figure_18 : decode cX4_figure 18 = .ok (.iload_n 2, 1) := by decide +kernel
theorem dX4_figure_19 : decode cX4_figure 19 = .ok (.iadd, 1) := by decide +kernel
theorem dX4_figure_20 : decode cX4_figure 20 = .ok (.invokestatic 29, 3) := by decide +kernel
theorem dX4_figure_23 : decode cX4_figure 23 = .ok (.ifCond .eq 7, 3) := by decide +kernel
theorem dX4_figure_26 : decode cX4_figure 26 = .ok (.iconst 1, 1) := by decide +kernel
theorem dX4_figure_27 : decode cX4_figure 27 = .ok (.goto 4, 3) := by decide +kernel
theorem dX4_figure_30 : decode cX4_figure 30 = .ok (.iconst 0, 1) := by decide +kernel
theorem dX4_figure_31 : decode cX4_figure 31 = .ok (.putfield 119, 3) := by decide +kernel
theorem dX4_figure_34 : decode cX4_figure 34 = .ok (.aload_n 0, 1) := by decide +kernel
theorem dX4_figure_35 : decode cX4_figure 35 = .ok (.invokevirtual 123, 3) := by decide +kernel
theorem dX4_figure_38 : decode cX4_figure 38 = .ok (.bipush 48, 2) := by decide +kernel
theorem dX4_figure_40 : decode cX4_figure 40 = .ok (.isub, 1) := by decide +kernel
theorem dX4_figure_41 : decode cX4_figure 41 = .ok (.istore_n 3, 1) := by decide +kernel
theorem dX4_figure_42 : decode cX4_figure 42 = .ok (.aload_n 0, 1) := by decide +kernel
theorem dX4_figure_43 : decode cX4_figure 43 = .ok (.dup, 1) := by decide +kernel
theorem dX4_figure_44 : decode cX4_figure 44 = .ok (.getfield 116, 3) := by decide +kernel
theorem dX4_figure_47 : decode cX4_figure 47 = .ok (.aload_n 0, 1) := by decide +kernel
theorem dX4_figure_48 : decode cX4_figure 48 = .ok (.getfield 119, 3) := by decide +kernel
theorem dX4_figure_51 : decode cX4_figure 51 = .ok (.ifCond .eq 7, 3) := by decide +kernel
theorem dX4_figure_54 : decode cX4_figure 54 = .ok (.iconst 1, 1) := by decide +kernel
theorem dX4_figure_55 : decode cX4_figure 55 = .ok (.goto 4, 3) := by decide +kernel
theorem dX4_figure_58 : decode cX4_figure 58 = .ok (.iconst 0, 1) := by decide +kernel
theorem dX4_figure_59 : decode cX4_figure 59 = .ok (.iadd, 1) := by decide +kernel
theorem dX4_figure_60 : decode cX4_figure 60 = .ok (.putfield 116, 3) := by decide +kernel
theorem dX4_figure_63 : decode cX4_figure 63 = .ok (.iload_n 3, 1) := by decide +kernel
theorem dX4_figure_64 : decode cX4_figure 64 = .ok (.ireturn, 1) := by decide +kernel
set_option maxRecDepth 20000 in
theorem ggX4_number_X4_figure : GoodIn wsX4_number wsX4_figure := goodIn_r _ [7, 1, 2, 8, 9, 10, 6, 11, 12, 13, 14, 15, 16, 17, 18, 19, 20, 21, 22, 23, 24, 25, 26, 27, 28] (by decide +kernel) (by decide +kernel)
set_option maxRecDepth 20000 in
theorem gX4_number_X4_figure : GoodIn wsX4_number (wsV RX4 126 RX4 yX4_figure wsX4_figure) := goodIn_app (goodIn_of _ (by decide +kernel)) ggX4_number_X4_figure
set_option maxRecDepth 20000 in
theorem ggX4_number_X4_sign : GoodIn wsX4_number wsX4_sign := goodIn_r _ [11, 2, 12, 13, 17, 18, 19, 20, 21, 22, 23, 24, 25, 26, 27, 28] (by decide +kernel) (by decide +kernel)
set_option maxRecDepth 20000 in
theorem gX4_number_X4_sign : GoodIn wsX4_number (wsV RX4 123 RX4 yX4_sign wsX4_sign) := goodIn_app (goodIn_of _ (by decide +kernel)) ggX4_number_X4_sign
set_option maxRecDepth 20000 in
theorem ggX4_number_X4_in : GoodIn wsX4_number wsX4_in := goodIn_r _ [16] (by decide +kernel) (by decide +kernel)
set_option maxRecDepth 20000 in
theorem gX4_number_X4_in : GoodIn wsX4_number (va_wsS RX4 29 yX4_in wsX4_in) := goodIn_app (goodIn_of _ (by decide +kernel)) ggX4_number_X4_in
theorem dX4_number_0 : decode cX4_number 0 = .ok (.aload_n 0, 1) := by decide +kernel
theorem dX4_number_1 : decode cX4_number 1 = .ok (.iconst 1, 1) := by decide +kernel
theorem dX4_number_2 : decode cX4_number 2 = .ok (.bipush 9, 2) := by decide +kernel
theorem dX4_number_4 : decode cX4_number 4 = .ok (.invokevirtual 126, 3) := by decide +kernel
theorem dX4_number_7 : decode cX4_number 7 = .ok (.istore_n 1, 1) := by decide +kernel
theorem dX4_number_8 : decode cX4_number 8 = .ok (.aload_n 0, 1) := by decide +kernel
theorem dX4_number_9 : decode cX4_number 9 = .ok (.getfield 119, 3) := by decide +kernel
theorem dX4_number_12 : decode cX4_number 12 = .ok (.ifCond .eq 57, 3) := by decide +kernel
theorem dX4_number_15 : decode cX4_number 15 = .ok (.aload_n 0, 1) := by decide +kernel
theorem dX4_number_16 : decode cX4_number 16 = .ok (.invokevirtual 123, 3) := by decide +kernel
theorem dX4_number_19 : decode cX4_number 19 = .ok (.bipush 48, 2) := by decide +kernel
theorem dX4_number_21 : decode cX4_number 21 = .ok (.bipush 57, 2) := by decide +kernel
theorem dX4_number_23 : decode cX4_number 23 = .ok (.invokestatic 29, 3) := by decide +kernel
theorem dX4_number_26 : decode cX4_number 26 = .ok (.ifCond .eq 43, 3) := by decide +kernel
theorem dX4_number_29 : decode cX4_number 29 = .ok (.bipush 10, 2) := by decide +kernel
theorem dX4_number_31 : decode cX4_number 31 = .ok (.iload_n 1, 1) := by decide +kernel
theorem dX4_number_32 : decode cX4_number 32 = .ok (.imul, 1) := by decide +kernel
theorem dX4_number_33 : decode cX4_number 33 = .ok (.aload_n 0, 1) := by decide +kernel
theorem dX4_number_34 : decode cX4_number 34 = .ok (.invokevirtual 123, 3) := by decide +kernel
theorem dX4_number_37 : decode cX4_number 37 = .ok (.iadd, 1) := by decide +kernel
theorem dX4_number_38 : decode cX4_number 38 = .ok (.bipush 48, 2) := by decide +kernel
theorem dX4_number_40 : decode cX4_number 40 = .ok (.isub, 1) := by decide +kernel
theorem dX4_number_41 : decode cX4_number 41 = .ok (.bipush 60, 2) := by decide +kernel
theorem dX4_number_43 : decode cX4_number 43 = .ok (.if_icmp .gt 26, 3) := by decide +kernel
theorem dX4_number_46 : decode cX4_number 46 = .ok (.bipush 10, 2) := by decide +kernel
theorem dX4_number_48 : decode cX4_number 48 = .ok (.iload_n 1, 1) := by decide +kernel
theorem dX4_number_49 : decode cX4_number 49 = .ok (.imul, 1) := by decide +kernel
theorem dX4_number_50 : decode cX4_number 50 = .ok (.aload_n 0, 1) := by decide +kernel
theorem dX4_number_51 : decode cX4_number 51 = .ok (.invokevirtual 123, 3) := by decide +kernel
theorem dX4_number_54 : decode cX4_number 54 = .ok (.iadd, 1) := by decide +kernel
theorem dX4_number_55 : decode cX4_number 55 = .ok (.bipush 48, 2) := by decide +kernel
theorem dX4_number_57 : decode cX4_number 57 = .ok (.isub, 1) := by decide +kernel
theorem dX4_number_58 : decode cX4_number 58 = .ok (.istore_n 1, 1) := by decide +kernel
theorem dX4_number_59 : decode cX4_number 59 = .ok (.aload_n 0, 1) := by decide +kernel
theorem dX4_number_60 : decode cX4_number 60 = .ok (.dup, 1) := by decide +kernel
theorem dX4_number_61 : decode cX4_number 61 = .ok (.getfield 116, 3) := by decide +kernel
theorem dX4_number_64 : decode cX4_number 64 = .ok (.iconst 1, 1) := by decide +kernel
theorem dX4_number_65 : decode cX4_number 65 = .ok (.iadd, 1) := by decide +kernel
theorem dX4_number_66 : decode cX4_number 66 = .ok (.putfield 116, 3) := by decide +kernel
theorem dX4_number_69 : decode cX4_number 69 = .ok (.iload_n 1, 1) := by decide +kernel
theorem dX4_number_70 : decode cX4_number 70 = .ok (.ireturn, 1) := by decide +kernel
set_option maxRecDepth 20000 in
theorem ggX4_readsEvent_X4_sign : GoodIn wsX4_readsEvent wsX4_sign := goodIn_r _ [9, 3, 10, 11, 23, 24, 25, 26, 27, 28, 29, 30, 31, 32, 33, 34] (by decide +kernel) (by decide +kernel)
set_option maxRecDepth 20000 in
theorem gX4_readsEvent_X4_sign : GoodIn wsX4_readsEvent (wsV RX4 123 RX4 yX4_sign wsX4_sign) := goodIn_app (goodIn_of _ (by decide +kernel)) ggX4_readsEvent_X4_sign
set_option maxRecDepth 20000 in
theorem ggX4_readsEvent_X4_number : GoodIn wsX4_readsEvent wsX4_number := goodIn_r _ [15, 2, 3, 16, 17, 18, 8, 19, 5, 6, 7, 9, 10, 11, 20, 21, 22, 23, 24, 25, 26, 27, 28, 29, 30, 31, 32, 33, 34] (by decide +kernel) (by decide +kernel)
set_option maxRecDepth 20000 in
theorem gX4_readsEvent_X4_number : GoodIn wsX4_readsEvent (wsV RX4 132 RX4 yX4_number wsX4_number) := goodIn_app (goodIn_of _ (by decide +kernel)) ggX4_readsEvent_X4_number
set_option maxRecDepth 20000 in
theorem ggX4_readsEvent_X4_figure : GoodIn wsX4_readsEvent wsX4_figure := goodIn_r _ [19, 2, 3, 5, 6, 7, 8, 9, 10, 11, 20, 21, 22, 23, 24, 25, 26, 27, 28, 29, 30, 31, 32, 33, 34] (by decide +kernel) (by decide +kernel)
set_option maxRecDepth 20000 in
theorem gX4_readsEvent_X4_figure : GoodIn wsX4_readsEvent (wsV RX4 126 RX4 yX4_figure wsX4_figure) := goodIn_app (goodIn_of _ (by decide +kernel)) ggX4_readsEvent_X4_figure
theorem dX4_readsEvent_0 : decode cX4_readsEvent 0 = .ok (.iconst 3, 1) := by decide +kernel
theorem dX4_readsEvent_1 : decode cX4_readsEvent 1 = .ok (.aload_n 0, 1) := by decide +kernel
theorem dX4_readsEvent_2 : decode cX4_readsEvent 2 = .ok (.getfield 129, 3) := by decide +kernel
theorem dX4_readsEvent_5 : decode cX4_readsEvent 5 = .ok (.imul, 1) := by decide +kernel
theorem dX4_readsEvent_6 : decode cX4_readsEvent 6 = .ok (.istore_n 1, 1) := by decide +kernel
theorem dX4_readsEvent_7 : decode cX4_readsEvent 7 = .ok (.aload_n 0, 1) := by decide +kernel
theorem dX4_readsEvent_8 : decode cX4_readsEvent 8 = .ok (.invokevirtual 123, 3) := by decide +kernel
theorem dX4_readsEvent_11 : decode cX4_readsEvent 11 = .ok (.istore_n 2, 1) := by decide +kernel
theorem dX4_readsEvent_12 : decode cX4_readsEvent 12 = .ok (.aload_n 0, 1) := by decide +kernel
theorem dX4_readsEvent_13 : decode cX4_readsEvent 13 = .ok (.iload_n 2, 1) := by decide +kernel
theorem dX4_readsEvent_14 : decode cX4_readsEvent 14 = .ok (.bipush 99, 2) := by decide +kernel
theorem dX4_readsEvent_16 : decode cX4_readsEvent 16 = .ok (.if_icmp .eq 33, 3) := by decide +kernel
theorem dX4_readsEvent_19 : decode cX4_readsEvent 19 = .ok (.iload_n 2, 1) := by decide +kernel
theorem dX4_readsEvent_20 : decode cX4_readsEvent 20 = .ok (.bipush 108, 2) := by decide +kernel
theorem dX4_readsEvent_22 : decode cX4_readsEvent 22 = .ok (.if_icmp .eq 27, 3) := by decide +kernel
theorem dX4_readsEvent_25 : decode cX4_readsEvent 25 = .ok (.iload_n 2, 1) := by decide +kernel
theorem dX4_readsEvent_26 : decode cX4_readsEvent 26 = .ok (.bipush 115, 2) := by decide +kernel
theorem dX4_readsEvent_28 : decode cX4_readsEvent 28 = .ok (.if_icmp .eq 21, 3) := by decide +kernel
theorem dX4_readsEvent_31 : decode cX4_readsEvent 31 = .ok (.iload_n 2, 1) := by decide +kernel
theorem dX4_readsEvent_32 : decode cX4_readsEvent 32 = .ok (.bipush 112, 2) := by decide +kernel
theorem dX4_readsEvent_34 : decode cX4_readsEvent 34 = .ok (.if_icmp .eq 15, 3) := by decide +kernel
theorem dX4_readsEvent_37 : decode cX4_readsEvent 37 = .ok (.iload_n 2, 1) := by decide +kernel
theorem dX4_readsEvent_38 : decode cX4_readsEvent 38 = .ok (.bipush 116, 2) := by decide +kernel
theorem dX4_readsEvent_40 : decode cX4_readsEvent 40 = .ok (.if_icmp .eq 9, 3) := by decide +kernel
theorem dX4_readsEvent_43 : decode cX4_readsEvent 43 = .ok (.iload_n 2, 1) := by decide +kernel
theorem dX4_readsEvent_44 : decode cX4_readsEvent 44 = .ok (.bipush 111, 2) := by decide +kernel
theorem dX4_readsEvent_46 : decode cX4_readsEvent 46 = .ok (.if_icmp .ne 7, 3) := by decide +kernel
theorem dX4_readsEvent_49 : decode cX4_readsEvent 49 = .ok (.iconst 1, 1) := by decide +kernel
theorem dX4_readsEvent_50 : decode cX4_readsEvent 50 = .ok (.goto 4, 3) := by decide +kernel
theorem dX4_readsEvent_53 : decode cX4_readsEvent 53 = .ok (.iconst 0, 1) := by decide +kernel
theorem dX4_readsEvent_54 : decode cX4_readsEvent 54 = .ok (.putfield 119, 3) := by decide +kernel
theorem dX4_readsEvent_57 : decode cX4_readsEvent 57 = .ok (.aload_n 0, 1) := by decide +kernel
theorem dX4_readsEvent_58 : decode cX4_readsEvent 58 = .ok (.dup, 1) := by decide +kernel
theorem dX4_readsEvent_59 : decode cX4_readsEvent 59 = .ok (.getfield 116, 3) := by decide +kernel
theorem dX4_readsEvent_62 : decode cX4_readsEvent 62 = .ok (.aload_n 0, 1) := by decide +kernel
theorem dX4_readsEvent_63 : decode cX4_readsEvent 63 = .ok (.getfield 119, 3) := by decide +kernel
theorem dX4_readsEvent_66 : decode cX4_readsEvent 66 = .ok (.ifCond .eq 7, 3) := by decide +kernel
theorem dX4_readsEvent_69 : decode cX4_readsEvent 69 = .ok (.iconst 1, 1) := by decide +kernel
theorem dX4_readsEvent_70 : decode cX4_readsEvent 70 = .ok (.goto 4, 3) := by decide +kernel
theorem dX4_readsEvent_73 : decode cX4_readsEvent 73 = .ok (.iconst 0, 1) := by decide +kernel
theorem dX4_readsEvent_74 : decode cX4_readsEvent 74 = .ok (.iadd, 1) := by decide +kernel
theorem dX4_readsEvent_75 : decode cX4_readsEvent 75 = .ok (.putfield 116, 3) := by decide +kernel
theorem dX4_readsEvent_78 : decode cX4_readsEvent 78 = .ok (.aload_n 0, 1) := by decide +kernel
theorem dX4_readsEvent_79 : decode cX4_readsEvent 79 = .ok (.getfield 22, 3) := by decide +kernel
theorem dX4_readsEvent_82 : decode cX4_readsEvent 82 = .ok (.iload_n 1, 1) := by decide +kernel
theorem dX4_readsEvent_83 : decode cX4_readsEvent 83 = .ok (.iload_n 2, 1) := by decide +kernel
theorem dX4_readsEvent_84 : decode cX4_readsEvent 84 = .ok (.iastore, 1) := by decide +kernel
theorem dX4_readsEvent_85 : decode cX4_readsEvent 85 = .ok (.iload_n 2, 1) := by decide +kernel
theorem dX4_readsEvent_86 : decode cX4_readsEvent 86 = .ok (.bipush 116, 2) := by decide +kernel
theorem dX4_readsEvent_88 : decode cX4_readsEvent 88 = .ok (.if_icmp .ne 18, 3) := by decide +kernel
theorem dX4_readsEvent_91 : decode cX4_readsEvent 91 = .ok (.aload_n 0, 1) := by decide +kernel
theorem dX4_readsEvent_92 : decode cX4_readsEvent 92 = .ok (.getfield 22, 3) := by decide +kernel
theorem dX4_readsEvent_95 : decode cX4_readsEvent 95 = .ok (.iload_n 1, 1) := by decide +kernel
theorem dX4_readsEvent_96 : decode cX4_readsEvent 96 = .ok (.iconst 1, 1) := by decide +kernel
theorem dX4_readsEvent_97 : decode cX4_readsEvent 97 = .ok (.iadd, 1) := by decide +kernel
theorem dX4_readsEvent_98 : decode cX4_readsEvent 98 = .ok (.aload_n 0, 1) := by decide +kernel
theorem dX4_readsEvent_99 : decode cX4_readsEvent 99 = .ok (.invokevirtual 132, 3) := by decide +kernel
theorem dX4_readsEvent_102 : decode cX4_readsEvent 102 = .ok (.iastore, 1) := by decide +kernel
theorem dX4_readsEvent_103 : decode cX4_readsEvent 103 = .ok (.goto 41, 3) := by decide +kernel
theorem dX4_readsEvent_106 : decode cX4_readsEvent 106 = .ok (.iload_n 2, 1) := by decide +kernel
theorem dX4_readsEvent_107 : decode cX4_readsEvent 107 = .ok (.bipush 112, 2) := by decide +kernel
theorem dX4_readsEvent_109 : decode cX4_readsEvent 109 = .ok (.if_icmp .ne 20, 3) := by decide +kernel
theorem dX4_readsEvent_112 : decode cX4_readsEvent 112 = .ok (.aload_n 0, 1) := by decide +kernel
theorem dX4_readsEvent_113 : decode cX4_readsEvent 113 = .ok (.getfield 22, 3) := by decide +kernel
theorem dX4_readsEvent_116 : decode cX4_readsEvent 116 = .ok (.iload_n 1, 1) := by decide +kernel
theorem dX4_readsEvent_117 : decode cX4_readsEvent 117 = .ok (.iconst 1, 1) := by decide +kernel
theorem dX4_readsEvent_118 : decode cX4_readsEvent 118 = .ok (.iadd, 1) := by decide +kernel
theorem dX4_readsEvent_119 : decode cX4_readsEvent 119 = .ok (.aload_n 0, 1) := by decide +kernel
theorem dX4_readsEvent_120 : decode cX4_readsEvent 120 = .ok (.iconst 0, 1) := by decide +kernel
theorem dX4_readsEvent_121 : decode cX4_readsEvent 121 = .ok (.iconst 5, 1) := by decide +kernel
theorem dX4_readsEvent_122 : decode cX4_readsEvent 122 = .ok (.invokevirtual 126, 3) := by decide +kernel
theorem dX4_readsEvent_125 : decode cX4_readsEvent 125 = .ok (.iastore, 1) := by decide +kernel
theorem dX4_readsEvent_126 : decode cX4_readsEvent 126 = .ok (.goto 18, 3) := by decide +kernel
theorem dX4_readsEvent_129 : decode cX4_readsEvent 129 = .ok (.aload_n 0, 1) := by decide +kernel
theorem dX4_readsEvent_130 : decode cX4_readsEvent 130 = .ok (.getfield 22, 3) := by decide +kernel
theorem dX4_readsEvent_133 : decode cX4_readsEvent 133 = .ok (.iload_n 1, 1) := by decide +kernel
theorem dX4_readsEvent_134 : decode cX4_readsEvent 134 = .ok (.iconst 1, 1) := by decide +kernel
theorem dX4_readsEvent_135 : decode cX4_readsEvent 135 = .ok (.iadd, 1) := by decide +kernel
theorem dX4_readsEvent_136 : decode cX4_readsEvent 136 = .ok (.aload_n 0, 1) := by decide +kernel
theorem dX4_readsEvent_137 : decode cX4_readsEvent 137 = .ok (.iconst 0, 1) := by decide +kernel
theorem dX4_readsEvent_138 : decode cX4_readsEvent 138 = .ok (.bipush 7, 2) := by decide +kernel
theorem dX4_readsEvent_140 : decode cX4_readsEvent 140 = .ok (.invokevirtual 126, 3) := by decide +kernel
theorem dX4_readsEvent_143 : decode cX4_readsEvent 143 = .ok (.iastore, 1) := by decide +kernel
theorem dX4_readsEvent_144 : decode cX4_readsEvent 144 = .ok (.iload_n 2, 1) := by decide +kernel
theorem dX4_readsEvent_145 : decode cX4_readsEvent 145 = .ok (.bipush 99, 2) := by decide +kernel
theorem dX4_readsEvent_147 : decode cX4_readsEvent 147 = .ok (.if_icmp .eq 15, 3) := by decide +kernel
theorem dX4_readsEvent_150 : decode cX4_readsEvent 150 = .ok (.iload_n 2, 1) := by decide +kernel
theorem dX4_readsEvent_151 : decode cX4_readsEvent 151 = .ok (.bipush 108, 2) := by decide +kernel
theorem dX4_readsEvent_153 : decode cX4_readsEvent 153 = .ok (.if_icmp .eq 9, 3) := by decide +kernel
theorem dX4_readsEvent_156 : decode cX4_readsEvent 156 = .ok (.iload_n 2, 1) := by decide +kernel
theorem dX4_readsEvent_157 : decode cX4_readsEvent 157 = .ok (.bipush 115, 2) := by decide +kernel
theorem dX4_readsEvent_159 : decode cX4_readsEvent 159 = .ok (.if_icmp .ne 17, 3) := by decide +kernel
theorem dX4_readsEvent_162 : decode cX4_readsEvent 162 = .ok (.aload_n 0, 1) := by decide +kernel
theorem dX4_readsEvent_163 : decode cX4_readsEvent 163 = .ok (.getfield 22, 3) := by decide +kernel
theorem dX4_readsEvent_166 : decode cX4_readsEvent 166 = .ok (.iload_n 1, 1) := by decide +kernel
theorem dX4_readsEvent_167 : decode cX4_readsEvent 167 = .ok (.iconst 2, 1) := by decide +kernel
theorem dX4_readsEvent_168 : decode cX4_readsEvent 168 = .ok (.iadd, 1) := by decide +kernel
theorem dX4_readsEvent_169 : decode cX4_readsEvent 169 = .ok (.aload_n 0, 1) := by decide +kernel
theorem dX4_readsEvent_170 : decode cX4_readsEvent 170 = .ok (.iconst 0, 1) := by decide +kernel
theorem dX4_readsEvent_171 : decode cX4_readsEvent 171 = .ok (.iconst 5, 1) := by decide +kernel
theorem dX4_readsEvent_172 : decode cX4_readsEvent 172 = .ok (.invokevirtual 126, 3) := by decide +kernel
theorem dX4_readsEvent_175 : decode cX4_readsEvent 175 = .ok (.iastore, 1) := by decide +kernel
theorem dX4_readsEvent_176 : decode cX4_readsEvent 176 = .ok (.aload_n 0, 1) := by decide +kernel
theorem dX4_readsEvent_177 : decode cX4_readsEvent 177 = .ok (.dup, 1) := by decide +kernel
theorem dX4_readsEvent_178 : decode cX4_readsEvent 178 = .ok (.getfield 129, 3) := by decide +kernel
theorem dX4_readsEvent_181 : decode cX4_readsEvent 181 = .ok (.aload_n 0, 1) := by decide +kernel
theorem dX4_readsEvent_182 : decode cX4_readsEvent 182 = .ok (.getfield 119, 3) := by decide +kernel
theorem dX4_readsEvent_185 : decode cX4_readsEvent 185 = .ok (.ifCond .eq 7, 3) := by decide +kernel
theorem dX4_readsEvent_188 : decode cX4_readsEvent 188 = .ok (.iconst 1, 1) := by decide +kernel
theorem dX4_readsEvent_189 : decode cX4_readsEvent 189 = .ok (.goto 4, 3) := by decide +kernel
theorem dX4_readsEvent_192 : decode cX4_readsEvent 192 = .ok (.iconst 0, 1) := by decide +kernel
theorem dX4_readsEvent_193 : decode cX4_readsEvent 193 = .ok (.iadd, 1) := by decide +kernel
theorem dX4_readsEvent_194 : decode cX4_readsEvent 194 = .ok (.putfield 129, 3) := by decide +kernel
theorem dX4_readsEvent_197 : decode cX4_readsEvent 197 = .ok (.return_, 1) := by decide +kernel
set_option maxRecDepth 20000 in
theorem ggX4_reads_X4_readsEvent : GoodIn wsX4_reads wsX4_readsEvent := goodIn_r _ [9, 2, 3, 1, 10, 11, 12, 13, 8, 14, 4, 15, 16, 17, 18, 19, 20, 21, 22, 23, 24, 25, 26, 27, 28, 29, 30, 31, 32, 33, 34, 35, 36, 37, 38] (by decide +kernel) (by decide +kernel)
set_option maxRecDepth 20000 in
theorem gX4_reads_X4_readsEvent : GoodIn wsX4_reads (wsV RX4 135 RX4 yX4_readsEvent wsX4_readsEvent) := goodIn_app (goodIn_of _ (by decide +kernel)) ggX4_reads_X4_readsEvent
set_option maxRecDepth 20000 in
theorem ggX4_reads_X4_sign : GoodIn wsX4_reads wsX4_sign := goodIn_r _ [14, 1, 4, 15, 27, 28, 29, 30, 31, 32, 33, 34, 35, 36, 37, 38] (by decide +kernel) (by decide +kernel)
set_option maxRecDepth 20000 in
theorem gX4_reads_X4_sign : GoodIn wsX4_reads (wsV RX4 123 RX4 yX4_sign wsX4_sign) := goodIn_app (goodIn_of _ (by decide +kernel)) ggX4_reads_X4_sign
theorem dX4_reads_0 : decode cX4_reads 0 = .ok (.aload_n 0, 1) := by decide +kernel
theorem dX4_reads_1 : decode cX4_reads 1 = .ok (.iconst 0, 1) := by decide +kernel
theorem dX4_reads_2 : decode cX4_reads 2 = .ok (.putfield 116, 3) := by decide +kernel
theorem dX4_reads_5 : decode cX4_reads 5 = .ok (.aload_n 0, 1) := by decide +kernel
theorem dX4_reads_6 : decode cX4_reads 6 = .ok (.iconst 0, 1) := by decide +kernel
theorem dX4_reads_7 : decode cX4_reads 7 = .ok (.putfield 129, 3) := by decide +kernel
theorem dX4_reads_10 : decode cX4_reads 10 = .ok (.aload_n 0, 1) := by decide +kernel
theorem dX4_reads_11 : decode cX4_reads 11 = .ok (.invokevirtual 135, 3) := by decide +kernel
theorem dX4_reads_14 : decode cX4_reads 14 = .ok (.aload_n 0, 1) := by decide +kernel
theorem dX4_reads_15 : decode cX4_reads 15 = .ok (.getfield 119, 3) := by decide +kernel
theorem dX4_reads_18 : decode cX4_reads 18 = .ok (.ifCond .eq 67, 3) := by decide +kernel
theorem dX4_reads_21 : decode cX4_reads 21 = .ok (.aload_n 0, 1) := by decide +kernel
theorem dX4_reads_22 : decode cX4_reads 22 = .ok (.getfield 116, 3) := by decide +kernel
theorem dX4_reads_25 : decode cX4_reads 25 = .ok (.aload_n 0, 1) := by decide +kernel
theorem dX4_reads_26 : decode cX4_reads 26 = .ok (.getfield 113, 3) := by decide +kernel
theorem dX4_reads_29 : decode cX4_reads 29 = .ok (.if_icmp .ge 56, 3) := by decide +kernel
theorem dX4_reads_32 : decode cX4_reads 32 = .ok (.aload_n 0, 1) := by decide +kernel
theorem dX4_reads_33 : decode cX4_reads 33 = .ok (.aload_n 0, 1) := by decide +kernel
theorem dX4_reads_34 : decode cX4_reads 34 = .ok (.invokevirtual 123, 3) := by decide +kernel
theorem dX4_reads_37 : decode cX4_reads 37 = .ok (.bipush 59, 2) := by decide +kernel
theorem dX4_reads_39 : decode cX4_reads 39 = .ok (.if_icmp .ne 7, 3) := by decide +kernel
theorem dX4_reads_42 : decode cX4_reads 42 = .ok (.iconst 1, 1) := by decide +kernel
theorem dX4_reads_43 : decode cX4_reads 43 = .ok (.goto 4, 3) := by decide +kernel
theorem dX4_reads_46 : decode cX4_reads 46 = .ok (.iconst 0, 1) := by decide +kernel
theorem dX4_reads_47 : decode cX4_reads 47 = .ok (.putfield 119, 3) := by decide +kernel
theorem dX4_reads_50 : decode cX4_reads 50 = .ok (.aload_n 0, 1) := by decide +kernel
theorem dX4_reads_51 : decode cX4_reads 51 = .ok (.dup, 1) := by decide +kernel
theorem dX4_reads_52 : decode cX4_reads 52 = .ok (.getfield 116, 3) := by decide +kernel
theorem dX4_reads_55 : decode cX4_reads 55 = .ok (.aload_n 0, 1) := by decide +kernel
theorem dX4_reads_56 : decode cX4_reads 56 = .ok (.getfield 119, 3) := by decide +kernel
theorem dX4_reads_59 : decode cX4_reads 59 = .ok (.ifCond .eq 7, 3) := by decide +kernel
theorem dX4_reads_62 : decode cX4_reads 62 = .ok (.iconst 1, 1) := by decide +kernel
theorem dX4_reads_63 : decode cX4_reads 63 = .ok (.goto 4, 3) := by decide +kernel
theorem dX4_reads_66 : decode cX4_reads 66 = .ok (.iconst 0, 1) := by decide +kernel
theorem dX4_reads_67 : decode cX4_reads 67 = .ok (.iadd, 1) := by decide +kernel
theorem dX4_reads_68 : decode cX4_reads 68 = .ok (.putfield 116, 3) := by decide +kernel
theorem dX4_reads_71 : decode cX4_reads 71 = .ok (.aload_n 0, 1) := by decide +kernel
theorem dX4_reads_72 : decode cX4_reads 72 = .ok (.getfield 119, 3) := by decide +kernel
theorem dX4_reads_75 : decode cX4_reads 75 = .ok (.ifCond .eq (-61), 3) := by decide +kernel
theorem dX4_reads_78 : decode cX4_reads 78 = .ok (.aload_n 0, 1) := by decide +kernel
theorem dX4_reads_79 : decode cX4_reads 79 = .ok (.invokevirtual 135, 3) := by decide +kernel
theorem dX4_reads_82 : decode cX4_reads 82 = .ok (.goto (-68), 3) := by decide +kernel
theorem dX4_reads_85 : decode cX4_reads 85 = .ok (.aload_n 0, 1) := by decide +kernel
theorem dX4_reads_86 : decode cX4_reads 86 = .ok (.getfield 119, 3) := by decide +kernel
theorem dX4_reads_89 : decode cX4_reads 89 = .ok (.ireturn, 1) := by decide +kernel
set_option maxRecDepth 20000 in
theorem ggX4_firstError_X4_reads : GoodIn wsX4_firstError wsX4_reads := goodIn_r _ [8, 3, 9, 10, 2, 11, 12, 13, 7, 14, 15, 16, 17, 18, 19, 20, 21, 22, 23, 24, 25, 26, 27, 28, 29, 30, 31, 32, 33, 34, 35, 36, 37, 38, 39, 40, 41, 42, 43] (by decide +kernel) (by decide +kernel)
set_option maxRecDepth 20000 in
theorem gX4_firstError_X4_reads : GoodIn wsX4_firstError (wsV RX4 138 RX4 yX4_reads wsX4_reads) := goodIn_app (goodIn_of _ (by decide +kernel)) ggX4_firstError_X4_reads
theorem dX4_firstError_0 : decode cX4_firstError 0 = .ok (.aload_n 0, 1) := by decide +kernel
theorem dX4_firstError_1 : decode cX4_firstError 1 = .ok (.iconst 0, 1) := by decide +kernel
theorem dX4_firstError_2 : decode cX4_firstError 2 = .ok (.putfield 25, 3) := by decide +kernel
theorem dX4_firstError_5 : decode cX4_firstError 5 = .ok (.aload_n 0, 1) := by decide +kernel
theorem dX4_firstError_6 : decode cX4_firstError 6 = .ok (.invokevirtual 138, 3) := by decide +kernel
theorem dX4_firstError_9 : decode cX4_firstError 9 = .ok (.ifCond .eq 10, 3) := by decide +kernel
theorem dX4_firstError_12 : decode cX4_firstError 12 = .ok (.aload_n 0, 1) := by decide +kernel
theorem dX4_firstError_13 : decode cX4_firstError 13 = .ok (.getfield 113, 3) := by decide +kernel
theorem dX4_firstError_16 : decode cX4_firstError 16 = .ok (.goto 7, 3) := by decide +kernel
theorem dX4_firstError_19 : decode cX4_firstError 19 = .ok (.aload_n 0, 1) := by decide +kernel
theorem dX4_firstError_20 : decode cX4_firstError 20 = .ok (.getfield 116, 3) := by decide +kernel
theorem dX4_firstError_23 : decode cX4_firstError 23 = .ok (.ireturn, 1) := by decide +kernel
set_option maxRecDepth 20000 in
theorem ggX4_does_X4_cellOf : GoodIn wsX4_does wsX4_cellOf := goodIn_r _ [6] (by decide +kernel) (by decide +kernel)
set_option maxRecDepth 20000 in
theorem gX4_does_X4_cellOf : GoodIn wsX4_does (va_wsS RX4 48 yX4_cellOf wsX4_cellOf) := goodIn_app (goodIn_of _ (by decide +kernel)) ggX4_does_X4_cellOf
set_option maxRecDepth 20000 in
theorem ggX4_does_X4_comes : GoodIn wsX4_does wsX4_comes := goodIn_r _ [10, 2, 11, 12, 13, 5, 14, 51, 52, 53, 54, 55, 56, 57, 58, 59, 60, 61, 62] (by decide +kernel) (by decide +kernel)
set_option maxRecDepth 20000 in
theorem gX4_does_X4_comes : GoodIn wsX4_does (wsV RX4 55 RX4 yX4_comes wsX4_comes) := goodIn_app (goodIn_of _ (by decide +kernel)) ggX4_does_X4_comes
set_option maxRecDepth 20000 in
theorem ggX4_does_X4_leaves : GoodIn wsX4_does wsX4_leaves := goodIn_r _ [18, 2, 19, 20, 21, 5, 22, 11, 12, 13, 14, 51, 52, 53, 54, 55, 56, 57, 58, 59, 60, 61, 62] (by decide +kernel) (by decide +kernel)
set_option maxRecDepth 20000 in
theorem gX4_does_X4_leaves : GoodIn wsX4_does (wsV RX4 61 RX4 yX4_leaves wsX4_leaves) := goodIn_app (goodIn_of _ (by decide +kernel)) ggX4_does_X4_leaves
set_option maxRecDepth 20000 in
theorem ggX4_does_X4_plays : GoodIn wsX4_does wsX4_plays := goodIn_r _ [26, 2, 27, 28, 29, 5, 30, 3, 4, 6, 31, 32, 33, 34, 51, 52, 53, 54, 55, 56, 57, 58, 59, 60, 61, 62] (by decide +kernel) (by decide +kernel)
set_option maxRecDepth 20000 in
theorem gX4_does_X4_plays : GoodIn wsX4_does (wsV RX4 98 RX4 yX4_plays wsX4_plays) := goodIn_app (goodIn_of _ (by decide +kernel)) ggX4_does_X4_plays
set_option maxRecDepth 20000 in
theorem ggX4_does_X4_passes : GoodIn wsX4_does wsX4_passes := goodIn_r _ [38, 39, 40, 41, 5, 42, 2, 43, 44, 45, 46, 47, 48, 49, 50, 11, 12, 13, 14, 51, 52, 53, 54, 55, 56, 57, 58, 59, 60, 61, 62] (by decide +kernel) (by decide +kernel)
set_option maxRecDepth 20000 in
theorem gX4_does_X4_passes : GoodIn wsX4_does (wsV RX4 95 RX4 yX4_passes wsX4_passes) := goodIn_app (goodIn_of _ (by decide +kernel)) ggX4_does_X4_passes
theorem dX4_does_0 : decode cX4_does 0 = .ok (.aload_n 0, 1) := by decide +kernel
theorem dX4_does_1 : decode cX4_does 1 = .ok (.getfield 22, 3) := by decide +kernel
theorem dX4_does_4 : decode cX4_does 4 = .ok (.iload_n 1, 1) := by decide +kernel
theorem dX4_does_5 : decode cX4_does 5 = .ok (.iconst 1, 1) := by decide +kernel
theorem dX4_does_6 : decode cX4_does 6 = .ok (.iadd, 1) := by decide +kernel
theorem dX4_does_7 : decode cX4_does 7 = .ok (.iaload, 1) := by decide +kernel
theorem dX4_does_8 : decode cX4_does 8 = .ok (.istore_n 2, 1) := by decide +kernel
theorem dX4_does_9 : decode cX4_does 9 = .ok (.iload_n 2, 1) := by decide +kernel
theorem dX4_does_10 : decode cX4_does 10 = .ok (.aload_n 0, 1) := by decide +kernel
theorem dX4_does_11 : decode cX4_does 11 = .ok (.getfield 22, 3) := by decide +kernel
theorem dX4_does_14 : decode cX4_does 14 = .ok (.iload_n 1, 1) := by decide +kernel
theorem dX4_does_15 : decode cX4_does 15 = .ok (.iconst 2, 1) := by decide +kernel
theorem dX4_does_16 : decode cX4_does 16 = .ok (.iadd, 1) := by decide +kernel
theorem dX4_does_17 : decode cX4_does 17 = .ok (.iaload, 1) := by decide +kernel
theorem dX4_does_18 : decode cX4_does 18 = .ok (.invokestatic 48, 3) := by decide +kernel
theorem dX4_does_21 : decode cX4_does 21 = .ok (.istore_n 3, 1) := by decide +kernel
theorem dX4_does_22 : decode cX4_does 22 = .ok (.aload_n 0, 1) := by decide +kernel
theorem dX4_does_23 : decode cX4_does 23 = .ok (.getfield 22, 3) := by decide +kernel
theorem dX4_does_26 : decode cX4_does 26 = .ok (.iload_n 1, 1) := by decide +kernel
theorem dX4_does_27 : decode cX4_does 27 = .ok (.iaload, 1) := by decide +kernel
theorem dX4_does_28 : decode cX4_does 28 = .ok (.lookupswitch 150 #[(99, 52), (108, 80), (112, 122), (115, 80), (116, 136)], 52) := by decide +kernel
theorem dX4_does_80 : decode cX4_does 80 = .ok (.aload_n 0, 1) := by decide +kernel
theorem dX4_does_81 : decode cX4_does 81 = .ok (.getfield 7, 3) := by decide +kernel
theorem dX4_does_84 : decode cX4_does 84 = .ok (.bipush 21, 2) := by decide +kernel
theorem dX4_does_86 : decode cX4_does 86 = .ok (.iload_n 3, 1) := by decide +kernel
theorem dX4_does_87 : decode cX4_does 87 = .ok (.iadd, 1) := by decide +kernel
theorem dX4_does_88 : decode cX4_does 88 = .ok (.iaload, 1) := by decide +kernel
theorem dX4_does_89 : decode cX4_does 89 = .ok (.bipush 9, 2) := by decide +kernel
theorem dX4_does_91 : decode cX4_does 91 = .ok (.if_icmp .ge 15, 3) := by decide +kernel
theorem dX4_does_94 : decode cX4_does 94 = .ok (.aload_n 0, 1) := by decide +kernel
theorem dX4_does_95 : decode cX4_does 95 = .ok (.iload_n 3, 1) := by decide +kernel
theorem dX4_does_96 : decode cX4_does 96 = .ok (.invokevirtual 55, 3) := by decide +kernel
theorem dX4_does_99 : decode cX4_does 99 = .ok (.ifCond .le 7, 3) := by decide +kernel
theorem dX4_does_102 : decode cX4_does 102 = .ok (.iconst 1, 1) := by decide +kernel
theorem dX4_does_103 : decode cX4_does 103 = .ok (.goto 4, 3) := by decide +kernel
theorem dX4_does_106 : decode cX4_does 106 = .ok (.iconst 0, 1) := by decide +kernel
theorem dX4_does_107 : decode cX4_does 107 = .ok (.ireturn, 1) := by decide +kernel
theorem dX4_does_108 : decode cX4_does 108 = .ok (.aload_n 0, 1) := by decide +kernel
theorem dX4_does_109 : decode cX4_does 109 = .ok (.getfield 7, 3) := by decide +kernel
theorem dX4_does_112 : decode cX4_does 112 = .ok (.bipush 21, 2) := by decide +kernel
theorem dX4_does_114 : decode cX4_does 114 = .ok (.iload_n 3, 1) := by decide +kernel
theorem dX4_does_115 : decode cX4_does 115 = .ok (.iadd, 1) := by decide +kernel
theorem dX4_does_116 : decode cX4_does 116 = .ok (.iaload, 1) := by decide +kernel
theorem dX4_does_117 : decode cX4_does 117 = .ok (.ifCond .le 31, 3) := by decide +kernel
theorem dX4_does_120 : decode cX4_does 120 = .ok (.aload_n 0, 1) := by decide +kernel
theorem dX4_does_121 : decode cX4_does 121 = .ok (.iload_n 3, 1) := by decide +kernel
theorem dX4_does_122 : decode cX4_does 122 = .ok (.aload_n 0, 1) := by decide +kernel
theorem dX4_does_123 : decode cX4_does 123 = .ok (.getfield 22, 3) := by decide +kernel
theorem dX4_does_126 : decode cX4_does 126 = .ok (.iload_n 1, 1) := by decide +kernel
theorem dX4_does_127 : decode cX4_does 127 = .ok (.iaload, 1) := by decide +kernel
theorem dX4_does_128 : decode cX4_does 128 = .ok (.bipush 108, 2) := by decide +kernel
theorem dX4_does_130 : decode cX4_does 130 = .ok (.if_icmp .ne 7, 3) := by decide +kernel
theorem dX4_does_133 : decode cX4_does 133 = .ok (.iconst 1, 1) := by decide +kernel
theorem dX4_does_134 : decode cX4_does 134 = .ok (.goto 4, 3) := by decide +kernel
theorem dX4_does_137 : decode cX4_does 137 = .ok (.iconst 0, 1) := by decide +kernel
theorem dX4_does_138 : decode cX4_does 138 = .ok (.invokevirtual 61, 3) := by decide +kernel
theorem dX4_does_141 : decode cX4_does 141 = .ok (.ifCond .lt 7, 3) := by decide +kernel
theorem dX4_does_144 : decode cX4_does 144 = .ok (.iconst 1, 1) := by decide +kernel
theorem dX4_does_145 : decode cX4_does 145 = .ok (.goto 4, 3) := by decide +kernel
theorem dX4_does_148 : decode cX4_does 148 = .ok (.iconst 0, 1) := by decide +kernel
theorem dX4_does_149 : decode cX4_does 149 = .ok (.ireturn, 1) := by decide +kernel
theorem dX4_does_150 : decode cX4_does 150 = .ok (.aload_n 0, 1) := by decide +kernel
theorem dX4_does_151 : decode cX4_does 151 = .ok (.iload_n 2, 1) := by decide +kernel
theorem dX4_does_152 : decode cX4_does 152 = .ok (.invokevirtual 98, 3) := by decide +kernel
theorem dX4_does_155 : decode cX4_does 155 = .ok (.ifCond .lt 7, 3) := by decide +kernel
theorem dX4_does_158 : decode cX4_does 158 = .ok (.iconst 1, 1) := by decide +kernel
theorem dX4_does_159 : decode cX4_does 159 = .ok (.goto 4, 3) := by decide +kernel
theorem dX4_does_162 : decode cX4_does 162 = .ok (.iconst 0, 1) := by decide +kernel
theorem dX4_does_163 : decode cX4_does 163 = .ok (.ireturn, 1) := by decide +kernel
theorem dX4_does_164 : decode cX4_does 164 = .ok (.aload_n 0, 1) := by decide +kernel
theorem dX4_does_165 : decode cX4_does 165 = .ok (.iload_n 2, 1) := by decide +kernel
theorem dX4_does_166 : decode cX4_does 166 = .ok (.invokevirtual 95, 3) := by decide +kernel
theorem dX4_does_169 : decode cX4_does 169 = .ok (.ifCond .lt 7, 3) := by decide +kernel
theorem dX4_does_172 : decode cX4_does 172 = .ok (.iconst 1, 1) := by decide +kernel
theorem dX4_does_173 : decode cX4_does 173 = .ok (.goto 4, 3) := by decide +kernel
theorem dX4_does_176 : decode cX4_does 176 = .ok (.iconst 0, 1) := by decide +kernel
theorem dX4_does_177 : decode cX4_does 177 = .ok (.ireturn, 1) := by decide +kernel
theorem dX4_does_178 : decode cX4_does 178 = .ok (.aload_n 0, 1) := by decide +kernel
theorem dX4_does_179 : decode cX4_does 179 = .ok (.getfield 7, 3) := by decide +kernel
theorem dX4_does_182 : decode cX4_does 182 = .ok (.bipush 13, 2) := by decide +kernel
theorem dX4_does_184 : decode cX4_does 184 = .ok (.iload_n 2, 1) := by decide +kernel
theorem dX4_does_185 : decode cX4_does 185 = .ok (.iadd, 1) := by decide +kernel
theorem dX4_does_186 : decode cX4_does 186 = .ok (.iconst 1, 1) := by decide +kernel
theorem dX4_does_187 : decode cX4_does 187 = .ok (.aload_n 0, 1) := by decide +kernel
theorem dX4_does_188 : decode cX4_does 188 = .ok (.getfield 7, 3) := by decide +kernel
theorem dX4_does_191 : decode cX4_does 191 = .ok (.bipush 13, 2) := by decide +kernel
theorem dX4_does_193 : decode cX4_does 193 = .ok (.iload_n 2, 1) := by decide +kernel
theorem dX4_does_194 : decode cX4_does 194 = .ok (.iadd, 1) := by decide +kernel
theorem dX4_does_195 : decode cX4_does 195 = .ok (.iaload, 1) := by decide +kernel
theorem dX4_does_196 : decode cX4_does 196 = .ok (.isub, 1) := by decide +kernel
theorem dX4_does_197 : decode cX4_does 197 = .ok (.iastore, 1) := by decide +kernel
theorem dX4_does_198 : decode cX4_does 198 = .ok (.iconst 1, 1) := by decide +kernel
theorem dX4_does_199 : decode cX4_does 199 = .ok (.ireturn, 1) := by decide +kernel
set_option maxRecDepth 20000 in
theorem ggX4_run_X4_reads : GoodIn wsX4_run wsX4_reads := goodIn_r _ [8, 9, 3, 10, 2, 11, 12, 13, 7, 14, 15, 16, 17, 18, 19, 20, 21, 22, 23, 24, 25, 26, 27, 28, 29, 30, 31, 94, 95, 96, 97, 98, 99, 100, 101, 102, 103, 104, 105] (by decide +kernel) (by decide +kernel)
set_option maxRecDepth 20000 in
theorem gX4_run_X4_reads : GoodIn wsX4_run (wsV RX4 138 RX4 yX4_reads wsX4_reads) := goodIn_app (goodIn_of _ (by decide +kernel)) ggX4_run_X4_reads
set_option maxRecDepth 20000 in
theorem ggX4_run_X4_fails : GoodIn wsX4_run wsX4_fails := goodIn_r _ [35, 1, 94, 95, 96, 97, 98, 99, 100, 101, 102, 103, 104, 105] (by decide +kernel) (by decide +kernel)
set_option maxRecDepth 20000 in
theorem gX4_run_X4_fails : GoodIn wsX4_run (wsV RX4 44 RX4 yX4_fails wsX4_fails) := goodIn_app (goodIn_of _ (by decide +kernel)) ggX4_run_X4_fails
set_option maxRecDepth 20000 in
theorem ggX4_run_X4_saves : GoodIn wsX4_run wsX4_saves := goodIn_r _ [39, 40, 41, 42, 94, 95, 96, 97, 98, 99, 100, 101, 102, 103, 104, 105] (by decide +kernel) (by decide +kernel)
set_option maxRecDepth 20000 in
theorem gX4_run_X4_saves : GoodIn wsX4_run (wsV RX4 52 RX4 yX4_saves wsX4_saves) := goodIn_app (goodIn_of _ (by decide +kernel)) ggX4_run_X4_saves
set_option maxRecDepth 20000 in
theorem ggX4_run_X4_does : GoodIn wsX4_run wsX4_does := goodIn_r _ [46, 15, 42, 47, 48, 7, 49, 50, 51, 52, 53, 54, 55, 56, 57, 58, 59, 60, 61, 62, 63, 64, 65, 66, 67, 68, 69, 70, 71, 72, 73, 74, 75, 76, 77, 78, 79, 80, 81, 82, 83, 84, 85, 86, 87, 88, 89, 90, 91, 92, 93, 94, 95, 96, 97, 98, 99, 100, 101, 102, 103, 104, 105] (by decide +kernel) (by decide +kernel)
set_option maxRecDepth 20000 in
theorem gX4_run_X4_does : GoodIn wsX4_run (wsV RX4 141 RX4 yX4_does wsX4_does) := goodIn_app (goodIn_of _ (by decide +kernel)) ggX4_run_X4_does
theorem dX4_run_0 : decode cX4_run 0 = .ok (.aload_n 0, 1) := by decide +kernel
theorem dX4_run_1 : decode cX4_run 1 = .ok (.iconst 0, 1) := by decide +kernel
theorem dX4_run_2 : decode cX4_run 2 = .ok (.putfield 25, 3) := by decide +kernel
theorem dX4_run_5 : decode cX4_run 5 = .ok (.aload_n 0, 1) := by decide +kernel
theorem dX4_run_6 : decode cX4_run 6 = .ok (.invokevirtual 138, 3) := by decide +kernel
theorem dX4_run_9 : decode cX4_run 9 = .ok (.ifCond .ne 9, 3) := by decide +kernel
theorem dX4_run_12 : decode cX4_run 12 = .ok (.aload_n 0, 1) := by decide +kernel
theorem dX4_run_13 : decode cX4_run 13 = .ok (.iconst 1, 1) := by decide +kernel
theorem dX4_run_14 : decode cX4_run 14 = .ok (.invokevirtual 44, 3) := by decide +kernel
theorem dX4_run_17 : decode cX4_run 17 = .ok (.ireturn, 1) := by decide +kernel
theorem dX4_run_18 : decode cX4_run 18 = .ok (.aload_n 0, 1) := by decide +kernel
theorem dX4_run_19 : decode cX4_run 19 = .ok (.invokevirtual 52, 3) := by decide +kernel
theorem dX4_run_22 : decode cX4_run 22 = .ok (.aload_n 0, 1) := by decide +kernel
theorem dX4_run_23 : decode cX4_run 23 = .ok (.iconst 0, 1) := by decide +kernel
theorem dX4_run_24 : decode cX4_run 24 = .ok (.putfield 113, 3) := by decide +kernel
theorem dX4_run_27 : decode cX4_run 27 = .ok (.iconst 0, 1) := by decide +kernel
theorem dX4_run_28 : decode cX4_run 28 = .ok (.istore_n 1, 1) := by decide +kernel
theorem dX4_run_29 : decode cX4_run 29 = .ok (.iload_n 1, 1) := by decide +kernel
theorem dX4_run_30 : decode cX4_run 30 = .ok (.aload_n 0, 1) := by decide +kernel
theorem dX4_run_31 : decode cX4_run 31 = .ok (.getfield 129, 3) := by decide +kernel
theorem dX4_run_34 : decode cX4_run 34 = .ok (.if_icmp .ge 19, 3) := by decide +kernel
theorem dX4_run_37 : decode cX4_run 37 = .ok (.aload_n 0, 1) := by decide +kernel
theorem dX4_run_38 : decode cX4_run 38 = .ok (.iconst 3, 1) := by decide +kernel
theorem dX4_run_39 : decode cX4_run 39 = .ok (.iload_n 1, 1) := by decide +kernel
theorem dX4_run_40 : decode cX4_run 40 = .ok (.imul, 1) := by decide +kernel
theorem dX4_run_41 : decode cX4_run 41 = .ok (.invokevirtual 141, 3) := by decide +kernel
theorem dX4_run_44 : decode cX4_run 44 = .ok (.ifCond .eq 9, 3) := by decide +kernel
theorem dX4_run_47 : decode cX4_run 47 = .ok (.iinc 1 1, 3) := by decide +kernel
theorem dX4_run_50 : decode cX4_run 50 = .ok (.goto (-21), 3) := by decide +kernel
theorem dX4_run_53 : decode cX4_run 53 = .ok (.iload_n 1, 1) := by decide +kernel
theorem dX4_run_54 : decode cX4_run 54 = .ok (.ireturn, 1) := by decide +kernel
set_option maxRecDepth 20000 in
theorem ggX4_undo_X4_fails : GoodIn wsX4_undo wsX4_fails := goodIn_r _ [9, 1, 10, 11, 12, 13, 14, 15, 16, 17, 18, 19, 20, 21] (by decide +kernel) (by decide +kernel)
set_option maxRecDepth 20000 in
theorem gX4_undo_X4_fails : GoodIn wsX4_undo (wsV RX4 44 RX4 yX4_fails wsX4_fails) := goodIn_app (goodIn_of _ (by decide +kernel)) ggX4_undo_X4_fails
theorem dX4_undo_0 : decode cX4_undo 0 = .ok (.aload_n 0, 1) := by decide +kernel
theorem dX4_undo_1 : decode cX4_undo 1 = .ok (.iconst 0, 1) := by decide +kernel
theorem dX4_undo_2 : decode cX4_undo 2 = .ok (.putfield 25, 3) := by decide +kernel
theorem dX4_undo_5 : decode cX4_undo 5 = .ok (.aload_n 0, 1) := by decide +kernel
theorem dX4_undo_6 : decode cX4_undo 6 = .ok (.getfield 33, 3) := by decide +kernel
theorem dX4_undo_9 : decode cX4_undo 9 = .ok (.ifCond .ne 9, 3) := by decide +kernel
theorem dX4_undo_12 : decode cX4_undo 12 = .ok (.aload_n 0, 1) := by decide +kernel
theorem dX4_undo_13 : decode cX4_undo 13 = .ok (.iconst 1, 1) := by decide +kernel
theorem dX4_undo_14 : decode cX4_undo 14 = .ok (.invokevirtual 44, 3) := by decide +kernel
theorem dX4_undo_17 : decode cX4_undo 17 = .ok (.ireturn, 1) := by decide +kernel
theorem dX4_undo_18 : decode cX4_undo 18 = .ok (.aload_n 0, 1) := by decide +kernel
theorem dX4_undo_19 : decode cX4_undo 19 = .ok (.dup, 1) := by decide +kernel
theorem dX4_undo_20 : decode cX4_undo 20 = .ok (.getfield 33, 3) := by decide +kernel
theorem dX4_undo_23 : decode cX4_undo 23 = .ok (.iconst 1, 1) := by decide +kernel
theorem dX4_undo_24 : decode cX4_undo 24 = .ok (.isub, 1) := by decide +kernel
theorem dX4_undo_25 : decode cX4_undo 25 = .ok (.putfield 33, 3) := by decide +kernel
theorem dX4_undo_28 : decode cX4_undo 28 = .ok (.iconst 0, 1) := by decide +kernel
theorem dX4_undo_29 : decode cX4_undo 29 = .ok (.istore_n 1, 1) := by decide +kernel
theorem dX4_undo_30 : decode cX4_undo 30 = .ok (.iload_n 1, 1) := by decide +kernel
theorem dX4_undo_31 : decode cX4_undo 31 = .ok (.bipush 120, 2) := by decide +kernel
theorem dX4_undo_33 : decode cX4_undo 33 = .ok (.if_icmp .ge 29, 3) := by decide +kernel
theorem dX4_undo_36 : decode cX4_undo 36 = .ok (.aload_n 0, 1) := by decide +kernel
theorem dX4_undo_37 : decode cX4_undo 37 = .ok (.getfield 7, 3) := by decide +kernel
theorem dX4_undo_40 : decode cX4_undo 40 = .ok (.iload_n 1, 1) := by decide +kernel
theorem dX4_undo_41 : decode cX4_undo 41 = .ok (.aload_n 0, 1) := by decide +kernel
theorem dX4_undo_42 : decode cX4_undo 42 = .ok (.getfield 16, 3) := by decide +kernel
theorem dX4_undo_45 : decode cX4_undo 45 = .ok (.bipush 120, 2) := by decide +kernel
theorem dX4_undo_47 : decode cX4_undo 47 = .ok (.aload_n 0, 1) := by decide +kernel
theorem dX4_undo_48 : decode cX4_undo 48 = .ok (.getfield 33, 3) := by decide +kernel
theorem dX4_undo_51 : decode cX4_undo 51 = .ok (.imul, 1) := by decide +kernel
theorem dX4_undo_52 : decode cX4_undo 52 = .ok (.iload_n 1, 1) := by decide +kernel
theorem dX4_undo_53 : decode cX4_undo 53 = .ok (.iadd, 1) := by decide +kernel
theorem dX4_undo_54 : decode cX4_undo 54 = .ok (.iaload, 1) := by decide +kernel
theorem dX4_undo_55 : decode cX4_undo 55 = .ok (.iastore, 1) := by decide +kernel
theorem dX4_undo_56 : decode cX4_undo 56 = .ok (.iinc 1 1, 3) := by decide +kernel
theorem dX4_undo_59 : decode cX4_undo 59 = .ok (.goto (-29), 3) := by decide +kernel
theorem dX4_undo_62 : decode cX4_undo 62 = .ok (.aload_n 0, 1) := by decide +kernel
theorem dX4_undo_63 : decode cX4_undo 63 = .ok (.getfield 33, 3) := by decide +kernel
theorem dX4_undo_66 : decode cX4_undo 66 = .ok (.ireturn, 1) := by decide +kernel
theorem dX4_savedStates_0 : decode cX4_savedStates 0 = .ok (.aload_n 0, 1) := by decide +kernel
theorem dX4_savedStates_1 : decode cX4_savedStates 1 = .ok (.iconst 0, 1) := by decide +kernel
theorem dX4_savedStates_2 : decode cX4_savedStates 2 = .ok (.putfield 25, 3) := by decide +kernel
theorem dX4_savedStates_5 : decode cX4_savedStates 5 = .ok (.aload_n 0, 1) := by decide +kernel
theorem dX4_savedStates_6 : decode cX4_savedStates 6 = .ok (.getfield 33, 3) := by decide +kernel
theorem dX4_savedStates_9 : decode cX4_savedStates 9 = .ok (.ireturn, 1) := by decide +kernel
theorem dX4_hashes_0 : decode cX4_hashes 0 = .ok (.aload_n 0, 1) := by decide +kernel
theorem dX4_hashes_1 : decode cX4_hashes 1 = .ok (.ldc2_w 144, 3) := by decide +kernel
theorem dX4_hashes_4 : decode cX4_hashes 4 = .ok (.aload_n 0, 1) := by decide +kernel
theorem dX4_hashes_5 : decode cX4_hashes 5 = .ok (.getfield 146, 3) := by decide +kernel
theorem dX4_hashes_8 : decode cX4_hashes 8 = .ok (.lmul, 1) := by decide +kernel
theorem dX4_hashes_9 : decode cX4_hashes 9 = .ok (.iload_n 1, 1) := by decide +kernel
theorem dX4_hashes_10 : decode cX4_hashes 10 = .ok (.i2l, 1) := by decide +kernel
theorem dX4_hashes_11 : decode cX4_hashes 11 = .ok (.ladd, 1) := by decide +kernel
theorem dX4_hashes_12 : decode cX4_hashes 12 = .ok (.putfield 146, 3) := by decide +kernel
theorem dX4_hashes_15 : decode cX4_hashes 15 = .ok (.return_, 1) := by decide +kernel
set_option maxRecDepth 20000 in
theorem ggX4_digest_X4_hashes : GoodIn wsX4_digest wsX4_hashes := goodIn_r _ [9, 10, 3, 67, 68, 69, 70, 71, 72, 73, 74, 75, 76, 77, 78] (by decide +kernel) (by decide +kernel)
set_option maxRecDepth 20000 in
theorem gX4_digest_X4_hashes : GoodIn wsX4_digest (wsV RX4 152 RX4 yX4_hashes wsX4_hashes) := goodIn_app (goodIn_of _ (by decide +kernel)) ggX4_digest_X4_hashes
set_option maxRecDepth 20000 in
theorem ggX4_digest_X4_chiefNow : GoodIn wsX4_digest wsX4_chiefNow := goodIn_r _ [14, 4, 67, 68, 69, 70, 71, 72, 73, 74, 75, 76, 77, 78] (by decide +kernel) (by decide +kernel)
set_option maxRecDepth 20000 in
theorem gX4_digest_X4_chiefNow : GoodIn wsX4_digest (wsV RX4 65 RX4 yX4_chiefNow wsX4_chiefNow) := goodIn_app (goodIn_of _ (by decide +kernel)) ggX4_digest_X4_chiefNow
set_option maxRecDepth 20000 in
theorem ggX4_digest_X4_entriesNow : GoodIn wsX4_digest wsX4_entriesNow := goodIn_r _ [18, 4, 67, 68, 69, 70, 71, 72, 73, 74, 75, 76, 77, 78] (by decide +kernel) (by decide +kernel)
set_option maxRecDepth 20000 in
theorem gX4_digest_X4_entriesNow : GoodIn wsX4_digest (wsV RX4 69 RX4 yX4_entriesNow wsX4_entriesNow) := goodIn_app (goodIn_of _ (by decide +kernel)) ggX4_digest_X4_entriesNow
set_option maxRecDepth 20000 in
theorem ggX4_digest_X4_asksIn : GoodIn wsX4_digest wsX4_asksIn := goodIn_r _ [22, 4, 23, 24, 25, 8, 26, 11, 12, 13, 14, 67, 68, 69, 70, 71, 72, 73, 74, 75, 76, 77, 78] (by decide +kernel) (by decide +kernel)
set_option maxRecDepth 20000 in
theorem gX4_digest_X4_asksIn : GoodIn wsX4_digest (wsV RX4 110 RX4 yX4_asksIn wsX4_asksIn) := goodIn_app (goodIn_of _ (by decide +kernel)) ggX4_digest_X4_asksIn
set_option maxRecDepth 20000 in
theorem ggX4_digest_X4_rowsOf : GoodIn wsX4_digest wsX4_rowsOf := goodIn_r _ [30, 31, 32, 33, 8, 34, 4, 35, 36, 37, 67, 68, 69, 70, 71, 72, 73, 74, 75, 76, 77, 78] (by decide +kernel) (by decide +kernel)
set_option maxRecDepth 20000 in
theorem gX4_digest_X4_rowsOf : GoodIn wsX4_digest (wsV RX4 82 RX4 yX4_rowsOf wsX4_rowsOf) := goodIn_app (goodIn_of _ (by decide +kernel)) ggX4_digest_X4_rowsOf
set_option maxRecDepth 20000 in
theorem ggX4_digest_X4_wantedOf : GoodIn wsX4_digest wsX4_wantedOf := goodIn_r _ [41, 42, 43, 44, 8, 45, 4, 35, 36, 37, 67, 68, 69, 70, 71, 72, 73, 74, 75, 76, 77, 78] (by decide +kernel) (by decide +kernel)
set_option maxRecDepth 20000 in
theorem gX4_digest_X4_wantedOf : GoodIn wsX4_digest (wsV RX4 85 RX4 yX4_wantedOf wsX4_wantedOf) := goodIn_app (goodIn_of _ (by decide +kernel)) ggX4_digest_X4_wantedOf
set_option maxRecDepth 20000 in
theorem ggX4_digest_X4_fadesIn : GoodIn wsX4_digest wsX4_fadesIn := goodIn_r _ [49, 4, 50, 51, 52, 8, 53, 54, 55, 56, 57, 58, 23, 24, 25, 26, 11, 12, 13, 14, 59, 60, 61, 62, 63, 64, 65, 66, 67, 68, 69, 70, 71, 72, 73, 74, 75, 76, 77, 78] (by decide +kernel) (by decide +kernel)
set_option maxRecDepth 20000 in
theorem gX4_digest_X4_fadesIn : GoodIn wsX4_digest (wsV RX4 107 RX4 yX4_fadesIn wsX4_fadesIn) := goodIn_app (goodIn_of _ (by decide +kernel)) ggX4_digest_X4_fadesIn
theorem dX4_digest_0 : decode cX4_digest 0 = .ok (.aload_n 0, 1) := by decide +kernel
theorem dX4_digest_1 : decode cX4_digest 1 = .ok (.iconst 0, 1) := by decide +kernel
theorem dX4_digest_2 : decode cX4_digest 2 = .ok (.putfield 25, 3) := by decide +kernel
theorem dX4_digest_5 : decode cX4_digest 5 = .ok (.aload_n 0, 1) := by decide +kernel
theorem dX4_digest_6 : decode cX4_digest 6 = .ok (.ldc2_w 150, 3) := by decide +kernel
theorem dX4_digest_9 : decode cX4_digest 9 = .ok (.putfield 146, 3) := by decide +kernel
theorem dX4_digest_12 : decode cX4_digest 12 = .ok (.aload_n 0, 1) := by decide +kernel
theorem dX4_digest_13 : decode cX4_digest 13 = .ok (.aload_n 0, 1) := by decide +kernel
theorem dX4_digest_14 : decode cX4_digest 14 = .ok (.getfield 7, 3) := by decide +kernel
theorem dX4_digest_17 : decode cX4_digest 17 = .ok (.iconst 5, 1) := by decide +kernel
theorem dX4_digest_18 : decode cX4_digest 18 = .ok (.iaload, 1) := by decide +kernel
theorem dX4_digest_19 : decode cX4_digest 19 = .ok (.invokevirtual 152, 3) := by decide +kernel
theorem dX4_digest_22 : decode cX4_digest 22 = .ok (.aload_n 0, 1) := by decide +kernel
theorem dX4_digest_23 : decode cX4_digest 23 = .ok (.aload_n 0, 1) := by decide +kernel
theorem dX4_digest_24 : decode cX4_digest 24 = .ok (.getfield 7, 3) := by decide +kernel
theorem dX4_digest_27 : decode cX4_digest 27 = .ok (.bipush 6, 2) := by decide +kernel
theorem dX4_digest_29 : decode cX4_digest 29 = .ok (.iaload, 1) := by decide +kernel
theorem dX4_digest_30 : decode cX4_digest 30 = .ok (.invokevirtual 152, 3) := by decide +kernel
theorem dX4_digest_33 : decode cX4_digest 33 = .ok (.aload_n 0, 1) := by decide +kernel
theorem dX4_digest_34 : decode cX4_digest 34 = .ok (.aload_n 0, 1) := by decide +kernel
theorem dX4_digest_35 : decode cX4_digest 35 = .ok (.invokevirtual 65, 3) := by decide +kernel
theorem dX4_digest_38 : decode cX4_digest 38 = .ok (.invokevirtual 152, 3) := by decide +kernel
theorem dX4_digest_41 : decode cX4_digest 41 = .ok (.aload_n 0, 1) := by decide +kernel
theorem dX4_digest_42 : decode cX4_digest 42 = .ok (.aload_n 0, 1) := by decide +kernel
theorem dX4_digest_43 : decode cX4_digest 43 = .ok (.invokevirtual 69, 3) := by decide +kernel
theorem dX4_digest_46 : decode cX4_digest 46 = .ok (.invokevirtual 152, 3) := by decide +kernel
theorem dX4_digest_49 : decode cX4_digest 49 = .ok (.aload_n 0, 1) := by decide +kernel
theorem dX4_digest_50 : decode cX4_digest 50 = .ok (.aload_n 0, 1) := by decide +kernel
theorem dX4_digest_51 : decode cX4_digest 51 = .ok (.invokevirtual 110, 3) := by decide +kernel
theorem dX4_digest_54 : decode cX4_digest 54 = .ok (.invokevirtual 152, 3) := by decide +kernel
theorem dX4_digest_57 : decode cX4_digest 57 = .ok (.iconst 0, 1) := by decide +kernel
theorem dX4_digest_58 : decode cX4_digest 58 = .ok (.istore_n 1, 1) := by decide +kernel
theorem dX4_digest_59 : decode cX4_digest 59 = .ok (.iload_n 1, 1) := by decide +kernel
theorem dX4_digest_60 : decode cX4_digest 60 = .ok (.bipush 6, 2) := by decide +kernel
theorem dX4_digest_62 : decode cX4_digest 62 = .ok (.if_icmp .ge 22, 3) := by decide +kernel
theorem dX4_digest_65 : decode cX4_digest 65 = .ok (.aload_n 0, 1) := by decide +kernel
theorem dX4_digest_66 : decode cX4_digest 66 = .ok (.aload_n 0, 1) := by decide +kernel
theorem dX4_digest_67 : decode cX4_digest 67 = .ok (.getfield 7, 3) := by decide +kernel
theorem dX4_digest_70 : decode cX4_digest 70 = .ok (.bipush 7, 2) := by decide +kernel
theorem dX4_digest_72 : decode cX4_digest 72 = .ok (.iload_n 1, 1) := by decide +kernel
theorem dX4_digest_73 : decode cX4_digest 73 = .ok (.iadd, 1) := by decide +kernel
theorem dX4_digest_74 : decode cX4_digest 74 = .ok (.iaload, 1) := by decide +kernel
theorem dX4_digest_75 : decode cX4_digest 75 = .ok (.invokevirtual 152, 3) := by decide +kernel
theorem dX4_digest_78 : decode cX4_digest 78 = .ok (.iinc 1 1, 3) := by decide +kernel
theorem dX4_digest_81 : decode cX4_digest 81 = .ok (.goto (-22), 3) := by decide +kernel
theorem dX4_digest_84 : decode cX4_digest 84 = .ok (.iconst 0, 1) := by decide +kernel
theorem dX4_digest_85 : decode cX4_digest 85 = .ok (.istore_n 1, 1) := by decide +kernel
theorem dX4_digest_86 : decode cX4_digest 86 = .ok (.iload_n 1, 1) := by decide +kernel
theorem dX4_digest_87 : decode cX4_digest 87 = .ok (.bipush 6, 2) := by decide +kernel
theorem dX4_digest_89 : decode cX4_digest 89 = .ok (.if_icmp .ge 27, 3) := by decide +kernel
theorem dX4_digest_92 : decode cX4_digest 92 = .ok (.aload_n 0, 1) := by decide +kernel
theorem dX4_digest_93 : decode cX4_digest 93 = .ok (.aload_n 0, 1) := by decide +kernel
theorem dX4_digest_94 : decode cX4_digest 94 = .ok (.iload_n 1, 1) := by decide +kernel
theorem dX4_digest_95 : decode cX4_digest 95 = .ok (.invokevirtual 82, 3) := by decide +kernel
theorem dX4_digest_98 : decode cX4_digest 98 = .ok (.invokevirtual 152, 3) := by decide +kernel
theorem dX4_digest_101 : decode cX4_digest 101 = .ok (.aload_n 0, 1) := by decide +kernel
theorem dX4_digest_102 : decode cX4_digest 102 = .ok (.aload_n 0, 1) := by decide +kernel
theorem dX4_digest_103 : decode cX4_digest 103 = .ok (.iload_n 1, 1) := by decide +kernel
theorem dX4_digest_104 : decode cX4_digest 104 = .ok (.invokevirtual 85, 3) := by decide +kernel
theorem dX4_digest_107 : decode cX4_digest 107 = .ok (.invokevirtual 152, 3) := by decide +kernel
theorem dX4_digest_110 : decode cX4_digest 110 = .ok (.iinc 1 1, 3) := by decide +kernel
theorem dX4_digest_113 : decode cX4_digest 113 = .ok (.goto (-27), 3) := by decide +kernel
theorem dX4_digest_116 : decode cX4_digest 116 = .ok (.iconst 0, 1) := by decide +kernel
theorem dX4_digest_117 : decode cX4_digest 117 = .ok (.istore_n 1, 1) := by decide +kernel
theorem dX4_digest_118 : decode cX4_digest 118 = .ok (.iload_n 1, 1) := by decide +kernel
theorem dX4_digest_119 : decode cX4_digest 119 = .ok (.bipush 48, 2) := by decide +kernel
theorem dX4_digest_121 : decode cX4_digest 121 = .ok (.if_icmp .ge 67, 3) := by decide +kernel
theorem dX4_digest_124 : decode cX4_digest 124 = .ok (.iload_n 1, 1) := by decide +kernel
theorem dX4_digest_125 : decode cX4_digest 125 = .ok (.bipush 6, 2) := by decide +kernel
theorem dX4_digest_127 : decode cX4_digest 127 = .ok (.irem, 1) := by decide +kernel
theorem dX4_digest_128 : decode cX4_digest 128 = .ok (.ifCond .ne 19, 3) := by decide +kernel
theorem dX4_digest_131 : decode cX4_digest 131 = .ok (.aload_n 0, 1) := by decide +kernel
theorem dX4_digest_132 : decode cX4_digest 132 = .ok (.aload_n 0, 1) := by decide +kernel
theorem dX4_digest_133 : decode cX4_digest 133 = .ok (.getfield 7, 3) := by decide +kernel
theorem dX4_digest_136 : decode cX4_digest 136 = .ok (.bipush 13, 2) := by decide +kernel
theorem dX4_digest_138 : decode cX4_digest 138 = .ok (.iload_n 1, 1) := by decide +kernel
theorem dX4_digest_139 : decode cX4_digest 139 = .ok (.bipush 6, 2) := by decide +kernel
theorem dX4_digest_141 : decode cX4_digest 141 = .ok (.idiv, 1) := by decide +kernel
theorem dX4_digest_142 : decode cX4_digest 142 = .ok (.iadd, 1) := by decide +kernel
theorem dX4_digest_143 : decode cX4_digest 143 = .ok (.iaload, 1) := by decide +kernel
theorem dX4_digest_144 : decode cX4_digest 144 = .ok (.invokevirtual 152, 3) := by decide +kernel
theorem dX4_digest_147 : decode cX4_digest 147 = .ok (.aload_n 0, 1) := by decide +kernel
theorem dX4_digest_148 : decode cX4_digest 148 = .ok (.aload_n 0, 1) := by decide +kernel
theorem dX4_digest_149 : decode cX4_digest 149 = .ok (.getfield 7, 3) := by decide +kernel
theorem dX4_digest_152 : decode cX4_digest 152 = .ok (.bipush 21, 2) := by decide +kernel
theorem dX4_digest_154 : decode cX4_digest 154 = .ok (.iload_n 1, 1) := by decide +kernel
theorem dX4_digest_155 : decode cX4_digest 155 = .ok (.iadd, 1) := by decide +kernel
theorem dX4_digest_156 : decode cX4_digest 156 = .ok (.iaload, 1) := by decide +kernel
theorem dX4_digest_157 : decode cX4_digest 157 = .ok (.invokevirtual 152, 3) := by decide +kernel
theorem dX4_digest_160 : decode cX4_digest 160 = .ok (.aload_n 0, 1) := by decide +kernel
theorem dX4_digest_161 : decode cX4_digest 161 = .ok (.aload_n 0, 1) := by decide +kernel
theorem dX4_digest_162 : decode cX4_digest 162 = .ok (.getfield 7, 3) := by decide +kernel
theorem dX4_digest_165 : decode cX4_digest 165 = .ok (.bipush 69, 2) := by decide +kernel
theorem dX4_digest_167 : decode cX4_digest 167 = .ok (.iload_n 1, 1) := by decide +kernel
theorem dX4_digest_168 : decode cX4_digest 168 = .ok (.iadd, 1) := by decide +kernel
theorem dX4_digest_169 : decode cX4_digest 169 = .ok (.iaload, 1) := by decide +kernel
theorem dX4_digest_170 : decode cX4_digest 170 = .ok (.invokevirtual 152, 3) := by decide +kernel
theorem dX4_digest_173 : decode cX4_digest 173 = .ok (.aload_n 0, 1) := by decide +kernel
theorem dX4_digest_174 : decode cX4_digest 174 = .ok (.aload_n 0, 1) := by decide +kernel
theorem dX4_digest_175 : decode cX4_digest 175 = .ok (.iload_n 1, 1) := by decide +kernel
theorem dX4_digest_176 : decode cX4_digest 176 = .ok (.invokevirtual 107, 3) := by decide +kernel
theorem dX4_digest_179 : decode cX4_digest 179 = .ok (.invokevirtual 152, 3) := by decide +kernel
theorem dX4_digest_182 : decode cX4_digest 182 = .ok (.iinc 1 1, 3) := by decide +kernel
theorem dX4_digest_185 : decode cX4_digest 185 = .ok (.goto (-67), 3) := by decide +kernel
theorem dX4_digest_188 : decode cX4_digest 188 = .ok (.aload_n 0, 1) := by decide +kernel
theorem dX4_digest_189 : decode cX4_digest 189 = .ok (.getfield 146, 3) := by decide +kernel
theorem dX4_digest_192 : decode cX4_digest 192 = .ok (.lreturn, 1) := by decide +kernel
theorem dJ6_bitCount_0f7a4_0 : decode cJ6_bitCount_0f7a4 0 = .ok (.iload_n 0, 1) := by decide +kernel
theorem dJ6_bitCount_0f7a4_1 : decode cJ6_bitCount_0f7a4 1 = .ok (.iload_n 0, 1) := by decide +kernel
theorem dJ6_bitCount_0f7a4_2 : decode cJ6_bitCount_0f7a4 2 = .ok (.iconst 1, 1) := by decide +kernel
theorem dJ6_bitCount_0f7a4_3 : decode cJ6_bitCount_0f7a4 3 = .ok (.iushr, 1) := by decide +kernel
theorem dJ6_bitCount_0f7a4_4 : decode cJ6_bitCount_0f7a4 4 = .ok (.ldc_w 265, 3) := by decide +kernel
theorem dJ6_bitCount_0f7a4_7 : decode cJ6_bitCount_0f7a4 7 = .ok (.iand, 1) := by decide +kernel
theorem dJ6_bitCount_0f7a4_8 : decode cJ6_bitCount_0f7a4 8 = .ok (.isub, 1) := by decide +kernel
theorem dJ6_bitCount_0f7a4_9 : decode cJ6_bitCount_0f7a4 9 = .ok (.istore_n 0, 1) := by decide +kernel
theorem dJ6_bitCount_0f7a4_10 : decode cJ6_bitCount_0f7a4 10 = .ok (.iload_n 0, 1) := by decide +kernel
theorem dJ6_bitCount_0f7a4_11 : decode cJ6_bitCount_0f7a4 11 = .ok (.ldc_w 266, 3) := by decide +kernel
theorem dJ6_bitCount_0f7a4_14 : decode cJ6_bitCount_0f7a4 14 = .ok (.iand, 1) := by decide +kernel
theorem dJ6_bitCount_0f7a4_15 : decode cJ6_bitCount_0f7a4 15 = .ok (.iload_n 0, 1) := by decide +kernel
theorem dJ6_bitCount_0f7a4_16 : decode cJ6_bitCount_0f7a4 16 = .ok (.iconst 2, 1) := by decide +kernel
theorem dJ6_bitCount_0f7a4_17 : decode cJ6_bitCount_0f7a4 17 = .ok (.iushr, 1) := by decide +kernel
theorem dJ6_bitCount_0f7a4_18 : decode cJ6_bitCount_0f7a4 18 = .ok (.ldc_w 266, 3) := by decide +kernel
theorem dJ6_bitCount_0f7a4_21 : decode cJ6_bitCount_0f7a4 21 = .ok (.iand, 1) := by decide +kernel
theorem dJ6_bitCount_0f7a4_22 : decode cJ6_bitCount_0f7a4 22 = .ok (.iadd, 1) := by decide +kernel
theorem dJ6_bitCount_0f7a4_23 : decode cJ6_bitCount_0f7a4 23 = .ok (.istore_n 0, 1) := by decide +kernel
theorem dJ6_bitCount_0f7a4_24 : decode cJ6_bitCount_0f7a4 24 = .ok (.iload_n 0, 1) := by decide +kernel
theorem dJ6_bitCount_0f7a4_25 : decode cJ6_bitCount_0f7a4 25 = .ok (.iload_n 0, 1) := by decide +kernel
theorem dJ6_bitCount_0f7a4_26 : decode cJ6_bitCount_0f7a4 26 = .ok (.iconst 4, 1) := by decide +kernel
theorem dJ6_bitCount_0f7a4_27 : decode cJ6_bitCount_0f7a4 27 = .ok (.iushr, 1) := by decide +kernel
theorem dJ6_bitCount_0f7a4_28 : decode cJ6_bitCount_0f7a4 28 = .ok (.iadd, 1) := by decide +kernel
theorem dJ6_bitCount_0f7a4_29 : decode cJ6_bitCount_0f7a4 29 = .ok (.ldc_w 267, 3) := by decide +kernel
theorem dJ6_bitCount_0f7a4_32 : decode cJ6_bitCount_0f7a4 32 = .ok (.iand, 1) := by decide +kernel
theorem dJ6_bitCount_0f7a4_33 : decode cJ6_bitCount_0f7a4 33 = .ok (.istore_n 0, 1) := by decide +kernel
theorem dJ6_bitCount_0f7a4_34 : decode cJ6_bitCount_0f7a4 34 = .ok (.iload_n 0, 1) := by decide +kernel
theorem dJ6_bitCount_0f7a4_35 : decode cJ6_bitCount_0f7a4 35 = .ok (.iload_n 0, 1) := by decide +kernel
theorem dJ6_bitCount_0f7a4_36 : decode cJ6_bitCount_0f7a4 36 = .ok (.bipush 8, 2) := by decide +kernel
theorem dJ6_bitCount_0f7a4_38 : decode cJ6_bitCount_0f7a4 38 = .ok (.iushr, 1) := by decide +kernel
theorem dJ6_bitCount_0f7a4_39 : decode cJ6_bitCount_0f7a4 39 = .ok (.iadd, 1) := by decide +kernel
theorem dJ6_bitCount_0f7a4_40 : decode cJ6_bitCount_0f7a4 40 = .ok (.istore_n 0, 1) := by decide +kernel
theorem dJ6_bitCount_0f7a4_41 : decode cJ6_bitCount_0f7a4 41 = .ok (.iload_n 0, 1) := by decide +kernel
theorem dJ6_bitCount_0f7a4_42 : decode cJ6_bitCount_0f7a4 42 = .ok (.iload_n 0, 1) := by decide +kernel
theorem dJ6_bitCount_0f7a4_43 : decode cJ6_bitCount_0f7a4 43 = .ok (.bipush 16, 2) := by decide +kernel
theorem dJ6_bitCount_0f7a4_45 : decode cJ6_bitCount_0f7a4 45 = .ok (.iushr, 1) := by decide +kernel
theorem dJ6_bitCount_0f7a4_46 : decode cJ6_bitCount_0f7a4 46 = .ok (.iadd, 1) := by decide +kernel
theorem dJ6_bitCount_0f7a4_47 : decode cJ6_bitCount_0f7a4 47 = .ok (.istore_n 0, 1) := by decide +kernel
theorem dJ6_bitCount_0f7a4_48 : decode cJ6_bitCount_0f7a4 48 = .ok (.iload_n 0, 1) := by decide +kernel
theorem dJ6_bitCount_0f7a4_49 : decode cJ6_bitCount_0f7a4 49 = .ok (.bipush 63, 2) := by decide +kernel
theorem dJ6_bitCount_0f7a4_51 : decode cJ6_bitCount_0f7a4 51 = .ok (.iand, 1) := by decide +kernel
theorem dJ6_bitCount_0f7a4_52 : decode cJ6_bitCount_0f7a4 52 = .ok (.ireturn, 1) := by decide +kernel
theorem dJ9_max_7cf53_0 : decode cJ9_max_7cf53 0 = .ok (.iload_n 0, 1) := by decide +kernel
theorem dJ9_max_7cf53_1 : decode cJ9_max_7cf53 1 = .ok (.iload_n 1, 1) := by decide +kernel
theorem dJ9_max_7cf53_2 : decode cJ9_max_7cf53 2 = .ok (.if_icmp .lt 7, 3) := by decide +kernel
theorem dJ9_max_7cf53_5 : decode cJ9_max_7cf53 5 = .ok (.iload_n 0, 1) := by decide +kernel
theorem dJ9_max_7cf53_6 : decode cJ9_max_7cf53 6 = .ok (.goto 4, 3) := by decide +kernel
theorem dJ9_max_7cf53_9 : decode cJ9_max_7cf53 9 = .ok (.iload_n 1, 1) := by decide +kernel
theorem dJ9_max_7cf53_10 : decode cJ9_max_7cf53 10 = .ok (.ireturn, 1) := by decide +kernel
end
section
set_option maxRecDepth 20000 in
theorem ggL_come_X3_come : GoodIn wsL_come wsX3_come := goodIn_ca (goodIn_ca (goodIn_r _ [7, 8, 9, 10, 11, 12, 13, 14, 6, 15, 16, 17, 18, 19, 20, 21, 22, 23, 24, 25, 26, 27, 28, 29, 30, 31, 32, 33, 34, 35, 36, 37, 38, 39, 40, 41, 42, 43, 44, 45, 46, 47, 48, 49, 50, 51, 52, 53, 54, 55, 56, 57, 58, 59, 60, 61, 62, 63, 64, 65, 66, 67, 68, 69, 70, 71, 72, 73, 74, 75, 76, 77, 78, 79, 80, 81, 82] (by decide +kernel) (by decide +kernel)) (goodIn_sub (fun _ h => List.mem_cons_of_mem _ (List.mem_append_left _ (List.mem_append_right _ h))) (by decide +kernel))) (goodIn_sub (fun _ h => List.mem_cons_of_mem _ (List.mem_append_right _ h)) (by decide +kernel))
set_option maxRecDepth 20000 in
theorem gL_come_X3_come : GoodIn wsL_come (wsV RL 7 RX3 yX3_come wsX3_come) := goodIn_app (goodIn_of _ (by decide +kernel)) ggL_come_X3_come
theorem dL_come_0 : decode cL_come 0 = .ok (.aload_n 3, 1) := by decide +kernel
theorem dL_come_1 : decode cL_come 1 = .ok (.iconst 0, 1) := by decide +kernel
theorem dL_come_2 : decode cL_come 2 = .ok (.aload_n 0, 1) := by decide +kernel
theorem dL_come_3 : decode cL_come 3 = .ok (.iload_n 1, 1) := by decide +kernel
theorem dL_come_4 : decode cL_come 4 = .ok (.iload_n 2, 1) := by decide +kernel
theorem dL_come_5 : decode cL_come 5 = .ok (.invokevirtual 7, 3) := by decide +kernel
theorem dL_come_8 : decode cL_come 8 = .ok (.i2l, 1) := by decide +kernel
theorem dL_come_9 : decode cL_come 9 = .ok (.lastore, 1) := by decide +kernel
theorem dL_come_10 : decode cL_come 10 = .ok (.goto 11, 3) := by decide +kernel
theorem dL_come_13 : decode cL_come 13 = .ok (.astore 4, 2) := by decide +kernel
theorem dL_come_15 : decode cL_come 15 = .ok (.iconst 1, 1) := by decide +kernel
theorem dL_come_16 : decode cL_come 16 = .ok (.ireturn, 1) := by decide +kernel
theorem dL_come_17 : decode cL_come 17 = .ok (.astore 4, 2) := by decide +kernel
theorem dL_come_19 : decode cL_come 19 = .ok (.iconst 2, 1) := by decide +kernel
theorem dL_come_20 : decode cL_come 20 = .ok (.ireturn, 1) := by decide +kernel
theorem dL_come_21 : decode cL_come 21 = .ok (.iconst 0, 1) := by decide +kernel
theorem dL_come_22 : decode cL_come 22 = .ok (.ireturn, 1) := by decide +kernel
set_option maxRecDepth 20000 in
theorem ggL_leave_X3_leave : GoodIn wsL_leave wsX3_leave := goodIn_ca (goodIn_ca (goodIn_r _ [7, 8, 9, 10, 11, 12, 13, 14, 6, 15, 16, 17, 18, 19, 20, 21, 22, 23, 24, 25, 26, 27, 28, 29, 30, 31, 32, 33, 34, 35, 36, 37, 38, 39, 40, 41, 42, 43, 44, 45, 46, 47, 48, 49, 50, 51, 52, 53, 54, 55, 56, 57, 58, 59, 60, 61, 62, 63, 64, 65, 66, 67, 68, 69, 70, 71, 72, 73, 74, 75, 76, 77, 78, 79, 80, 81, 82, 83, 84, 85, 86, 87, 88, 89, 90, 91] (by decide +kernel) (by decide +kernel)) (goodIn_sub (fun _ h => List.mem_cons_of_mem _ (List.mem_append_left _ (List.mem_append_right _ h))) (by decide +kernel))) (goodIn_sub (fun _ h => List.mem_cons_of_mem _ (List.mem_append_right _ h)) (by decide +kernel))
set_option maxRecDepth 20000 in
theorem gL_leave_X3_leave : GoodIn wsL_leave (wsV RL 17 RX3 yX3_leave wsX3_leave) := goodIn_app (goodIn_of _ (by decide +kernel)) ggL_leave_X3_leave
theorem dL_leave_0 : decode cL_leave 0 = .ok (.aload 4, 2) := by decide +kernel
theorem dL_leave_2 : decode cL_leave 2 = .ok (.iconst 0, 1) := by decide +kernel
theorem dL_leave_3 : decode cL_leave 3 = .ok (.aload_n 0, 1) := by decide +kernel
theorem dL_leave_4 : decode cL_leave 4 = .ok (.iload_n 1, 1) := by decide +kernel
theorem dL_leave_5 : decode cL_leave 5 = .ok (.iload_n 2, 1) := by decide +kernel
theorem dL_leave_6 : decode cL_leave 6 = .ok (.iload_n 3, 1) := by decide +kernel
theorem dL_leave_7 : decode cL_leave 7 = .ok (.invokevirtual 17, 3) := by decide +kernel
theorem dL_leave_10 : decode cL_leave 10 = .ok (.i2l, 1) := by decide +kernel
theorem dL_leave_11 : decode cL_leave 11 = .ok (.lastore, 1) := by decide +kernel
theorem dL_leave_12 : decode cL_leave 12 = .ok (.goto 11, 3) := by decide +kernel
theorem dL_leave_15 : decode cL_leave 15 = .ok (.astore 5, 2) := by decide +kernel
theorem dL_leave_17 : decode cL_leave 17 = .ok (.iconst 1, 1) := by decide +kernel
theorem dL_leave_18 : decode cL_leave 18 = .ok (.ireturn, 1) := by decide +kernel
theorem dL_leave_19 : decode cL_leave 19 = .ok (.astore 5, 2) := by decide +kernel
theorem dL_leave_21 : decode cL_leave 21 = .ok (.iconst 2, 1) := by decide +kernel
theorem dL_leave_22 : decode cL_leave 22 = .ok (.ireturn, 1) := by decide +kernel
theorem dL_leave_23 : decode cL_leave 23 = .ok (.iconst 0, 1) := by decide +kernel
theorem dL_leave_24 : decode cL_leave 24 = .ok (.ireturn, 1) := by decide +kernel
set_option maxRecDepth 20000 in
theorem ggL_listeners_X3_listeners : GoodIn wsL_listeners wsX3_listeners := goodIn_ca (goodIn_r _ [6, 7, 8, 9, 10, 5, 11, 12, 13, 14, 15, 16, 17, 18, 19, 20, 21, 22, 23, 24, 25, 26, 27, 28, 29, 30, 31, 32, 33, 34] (by decide +kernel) (by decide +kernel)) (goodIn_sub (fun _ h => List.mem_cons_of_mem _ (List.mem_append_right _ h)) (by decide +kernel))
set_option maxRecDepth 20000 in
theorem gL_listeners_X3_listeners : GoodIn wsL_listeners (wsV RL 21 RX3 yX3_listeners wsX3_listeners) := goodIn_app (goodIn_of _ (by decide +kernel)) ggL_listeners_X3_listeners
theorem dL_listeners_0 : decode cL_listeners 0 = .ok (.aload_n 3, 1) := by decide +kernel
theorem dL_listeners_1 : decode cL_listeners 1 = .ok (.iconst 0, 1) := by decide +kernel
theorem dL_listeners_2 : decode cL_listeners 2 = .ok (.aload_n 0, 1) := by decide +kernel
theorem dL_listeners_3 : decode cL_listeners 3 = .ok (.iload_n 1, 1) := by decide +kernel
theorem dL_listeners_4 : decode cL_listeners 4 = .ok (.iload_n 2, 1) := by decide +kernel
theorem dL_listeners_5 : decode cL_listeners 5 = .ok (.invokevirtual 21, 3) := by decide +kernel
theorem dL_listeners_8 : decode cL_listeners 8 = .ok (.i2l, 1) := by decide +kernel
theorem dL_listeners_9 : decode cL_listeners 9 = .ok (.lastore, 1) := by decide +kernel
theorem dL_listeners_10 : decode cL_listeners 10 = .ok (.goto 7, 3) := by decide +kernel
theorem dL_listeners_13 : decode cL_listeners 13 = .ok (.astore 4, 2) := by decide +kernel
theorem dL_listeners_15 : decode cL_listeners 15 = .ok (.iconst 1, 1) := by decide +kernel
theorem dL_listeners_16 : decode cL_listeners 16 = .ok (.ireturn, 1) := by decide +kernel
theorem dL_listeners_17 : decode cL_listeners 17 = .ok (.iconst 0, 1) := by decide +kernel
theorem dL_listeners_18 : decode cL_listeners 18 = .ok (.ireturn, 1) := by decide +kernel
set_option maxRecDepth 20000 in
theorem ggL_setOpen_X3_setOpen : GoodIn wsL_setOpen wsX3_setOpen := goodIn_ca (goodIn_r _ [6, 7, 8, 9, 10, 5, 11, 12, 13, 14, 15, 16, 17, 18, 19, 20, 21, 22, 23, 24, 25, 26, 27, 28, 29, 30, 31, 32, 33, 34, 35, 36, 37, 38, 39, 40, 41, 42, 43, 44, 45, 46, 47, 48, 49, 50, 51, 52, 53, 54, 55, 56, 57, 58, 59, 60, 61, 62, 63, 64, 65, 66, 67, 68] (by decide +kernel) (by decide +kernel)) (goodIn_sub (fun _ h => List.mem_cons_of_mem _ (List.mem_append_right _ h)) (by decide +kernel))
set_option maxRecDepth 20000 in
theorem gL_setOpen_X3_setOpen : GoodIn wsL_setOpen (wsV RL 24 RX3 yX3_setOpen wsX3_setOpen) := goodIn_app (goodIn_of _ (by decide +kernel)) ggL_setOpen_X3_setOpen
theorem dL_setOpen_0 : decode cL_setOpen 0 = .ok (.aload_n 3, 1) := by decide +kernel
theorem dL_setOpen_1 : decode cL_setOpen 1 = .ok (.iconst 0, 1) := by decide +kernel
theorem dL_setOpen_2 : decode cL_setOpen 2 = .ok (.aload_n 0, 1) := by decide +kernel
theorem dL_setOpen_3 : decode cL_setOpen 3 = .ok (.iload_n 1, 1) := by decide +kernel
theorem dL_setOpen_4 : decode cL_setOpen 4 = .ok (.iload_n 2, 1) := by decide +kernel
theorem dL_setOpen_5 : decode cL_setOpen 5 = .ok (.invokevirtual 24, 3) := by decide +kernel
theorem dL_setOpen_8 : decode cL_setOpen 8 = .ok (.ifCond .eq 7, 3) := by decide +kernel
theorem dL_setOpen_11 : decode cL_setOpen 11 = .ok (.lconst 1, 1) := by decide +kernel
theorem dL_setOpen_12 : decode cL_setOpen 12 = .ok (.goto 4, 3) := by decide +kernel
theorem dL_setOpen_15 : decode cL_setOpen 15 = .ok (.lconst 0, 1) := by decide +kernel
theorem dL_setOpen_16 : decode cL_setOpen 16 = .ok (.lastore, 1) := by decide +kernel
theorem dL_setOpen_17 : decode cL_setOpen 17 = .ok (.goto 7, 3) := by decide +kernel
theorem dL_setOpen_20 : decode cL_setOpen 20 = .ok (.astore 4, 2) := by decide +kernel
theorem dL_setOpen_22 : decode cL_setOpen 22 = .ok (.iconst 1, 1) := by decide +kernel
theorem dL_setOpen_23 : decode cL_setOpen 23 = .ok (.ireturn, 1) := by decide +kernel
theorem dL_setOpen_24 : decode cL_setOpen 24 = .ok (.iconst 0, 1) := by decide +kernel
theorem dL_setOpen_25 : decode cL_setOpen 25 = .ok (.ireturn, 1) := by decide +kernel
set_option maxRecDepth 20000 in
theorem ggL_setTimes_X3_setTimes : GoodIn wsL_setTimes wsX3_setTimes := goodIn_ca (goodIn_r _ [6, 7, 8, 9, 10, 11, 12, 13, 14, 15, 16, 17, 18, 19, 20, 21, 22, 23, 24, 25, 26, 27, 28, 29, 30, 31, 32, 33, 34, 35, 36, 37, 38, 39, 40, 41, 42, 43, 44, 45, 46, 47, 48, 49, 50, 51, 52, 53, 54, 55, 56, 57, 58, 59, 60] (by decide +kernel) (by decide +kernel)) (goodIn_sub (fun _ h => List.mem_cons_of_mem _ (List.mem_append_right _ h)) (by decide +kernel))
set_option maxRecDepth 20000 in
theorem gL_setTimes_X3_setTimes : GoodIn wsL_setTimes (wsV RL 28 RX3 yX3_setTimes wsX3_setTimes) := goodIn_app (goodIn_of _ (by decide +kernel)) ggL_setTimes_X3_setTimes
theorem dL_setTimes_0 : decode cL_setTimes 0 = .ok (.aload 4, 2) := by decide +kernel
theorem dL_setTimes_2 : decode cL_setTimes 2 = .ok (.iconst 0, 1) := by decide +kernel
theorem dL_setTimes_3 : decode cL_setTimes 3 = .ok (.aload_n 0, 1) := by decide +kernel
theorem dL_setTimes_4 : decode cL_setTimes 4 = .ok (.iload_n 1, 1) := by decide +kernel
theorem dL_setTimes_5 : decode cL_setTimes 5 = .ok (.iload_n 2, 1) := by decide +kernel
theorem dL_setTimes_6 : decode cL_setTimes 6 = .ok (.iload_n 3, 1) := by decide +kernel
theorem dL_setTimes_7 : decode cL_setTimes 7 = .ok (.invokevirtual 28, 3) := by decide +kernel
theorem dL_setTimes_10 : decode cL_setTimes 10 = .ok (.i2l, 1) := by decide +kernel
theorem dL_setTimes_11 : decode cL_setTimes 11 = .ok (.lastore, 1) := by decide +kernel
theorem dL_setTimes_12 : decode cL_setTimes 12 = .ok (.goto 7, 3) := by decide +kernel
theorem dL_setTimes_15 : decode cL_setTimes 15 = .ok (.astore 5, 2) := by decide +kernel
theorem dL_setTimes_17 : decode cL_setTimes 17 = .ok (.iconst 1, 1) := by decide +kernel
theorem dL_setTimes_18 : decode cL_setTimes 18 = .ok (.ireturn, 1) := by decide +kernel
theorem dL_setTimes_19 : decode cL_setTimes 19 = .ok (.iconst 0, 1) := by decide +kernel
theorem dL_setTimes_20 : decode cL_setTimes 20 = .ok (.ireturn, 1) := by decide +kernel
set_option maxRecDepth 20000 in
theorem ggL_setPresent_X3_setPresent : GoodIn wsL_setPresent wsX3_setPresent := goodIn_ca (goodIn_r _ [6, 7, 8, 9, 10, 11, 12, 13, 14, 15, 16, 17, 18, 19, 20, 21, 22, 23, 24, 25, 26, 27, 28, 29, 30, 31, 32, 33, 34, 35, 36, 37, 38, 39, 40, 41, 42, 43, 44, 45, 46, 47, 48, 49, 50, 51, 52, 53, 54, 55, 56, 57, 58, 59, 60, 61, 62, 63] (by decide +kernel) (by decide +kernel)) (goodIn_sub (fun _ h => List.mem_cons_of_mem _ (List.mem_append_right _ h)) (by decide +kernel))
set_option maxRecDepth 20000 in
theorem gL_setPresent_X3_setPresent : GoodIn wsL_setPresent (wsV RL 34 RX3 yX3_setPresent wsX3_setPresent) := goodIn_app (goodIn_of _ (by decide +kernel)) ggL_setPresent_X3_setPresent
theorem dL_setPresent_0 : decode cL_setPresent 0 = .ok (.aload_n 3, 1) := by decide +kernel
theorem dL_setPresent_1 : decode cL_setPresent 1 = .ok (.iconst 0, 1) := by decide +kernel
theorem dL_setPresent_2 : decode cL_setPresent 2 = .ok (.aload_n 0, 1) := by decide +kernel
theorem dL_setPresent_3 : decode cL_setPresent 3 = .ok (.iload_n 1, 1) := by decide +kernel
theorem dL_setPresent_4 : decode cL_setPresent 4 = .ok (.iload_n 2, 1) := by decide +kernel
theorem dL_setPresent_5 : decode cL_setPresent 5 = .ok (.invokevirtual 34, 3) := by decide +kernel
theorem dL_setPresent_8 : decode cL_setPresent 8 = .ok (.i2l, 1) := by decide +kernel
theorem dL_setPresent_9 : decode cL_setPresent 9 = .ok (.lastore, 1) := by decide +kernel
theorem dL_setPresent_10 : decode cL_setPresent 10 = .ok (.goto 7, 3) := by decide +kernel
theorem dL_setPresent_13 : decode cL_setPresent 13 = .ok (.astore 4, 2) := by decide +kernel
theorem dL_setPresent_15 : decode cL_setPresent 15 = .ok (.iconst 1, 1) := by decide +kernel
theorem dL_setPresent_16 : decode cL_setPresent 16 = .ok (.ireturn, 1) := by decide +kernel
theorem dL_setPresent_17 : decode cL_setPresent 17 = .ok (.iconst 0, 1) := by decide +kernel
theorem dL_setPresent_18 : decode cL_setPresent 18 = .ok (.ireturn, 1) := by decide +kernel
set_option maxRecDepth 20000 in
theorem ggL_rest_X3_rest : GoodIn wsL_rest wsX3_rest := goodIn_ca (goodIn_r _ [6, 7, 8, 9, 10, 5, 11, 12, 13, 14, 15, 16, 17, 18, 19, 20, 21, 22, 23, 24, 25, 26, 27, 28, 29, 30, 31, 32, 33, 34] (by decide +kernel) (by decide +kernel)) (goodIn_sub (fun _ h => List.mem_cons_of_mem _ (List.mem_append_right _ h)) (by decide +kernel))
set_option maxRecDepth 20000 in
theorem gL_rest_X3_rest : GoodIn wsL_rest (wsV RL 38 RX3 yX3_rest wsX3_rest) := goodIn_app (goodIn_of _ (by decide +kernel)) ggL_rest_X3_rest
theorem dL_rest_0 : decode cL_rest 0 = .ok (.aload_n 3, 1) := by decide +kernel
theorem dL_rest_1 : decode cL_rest 1 = .ok (.iconst 0, 1) := by decide +kernel
theorem dL_rest_2 : decode cL_rest 2 = .ok (.aload_n 0, 1) := by decide +kernel
theorem dL_rest_3 : decode cL_rest 3 = .ok (.iload_n 1, 1) := by decide +kernel
theorem dL_rest_4 : decode cL_rest 4 = .ok (.iload_n 2, 1) := by decide +kernel
theorem dL_rest_5 : decode cL_rest 5 = .ok (.invokevirtual 38, 3) := by decide +kernel
theorem dL_rest_8 : decode cL_rest 8 = .ok (.i2l, 1) := by decide +kernel
theorem dL_rest_9 : decode cL_rest 9 = .ok (.lastore, 1) := by decide +kernel
theorem dL_rest_10 : decode cL_rest 10 = .ok (.goto 7, 3) := by decide +kernel
theorem dL_rest_13 : decode cL_rest 13 = .ok (.astore 4, 2) := by decide +kernel
theorem dL_rest_15 : decode cL_rest 15 = .ok (.iconst 1, 1) := by decide +kernel
theorem dL_rest_16 : decode cL_rest 16 = .ok (.ireturn, 1) := by decide +kernel
theorem dL_rest_17 : decode cL_rest 17 = .ok (.iconst 0, 1) := by decide +kernel
theorem dL_rest_18 : decode cL_rest 18 = .ok (.ireturn, 1) := by decide +kernel
set_option maxRecDepth 20000 in
theorem ggL_isOpen_X3_isOpen : GoodIn wsL_isOpen wsX3_isOpen := goodIn_ca (goodIn_r _ [6, 7, 8, 9, 5, 10, 11, 12, 13, 14, 15, 16, 17, 18, 19, 20, 21, 22, 23, 24, 25, 26, 27, 28, 29, 30, 31, 32, 33] (by decide +kernel) (by decide +kernel)) (goodIn_sub (fun _ h => List.mem_cons_of_mem _ (List.mem_append_right _ h)) (by decide +kernel))
set_option maxRecDepth 20000 in
theorem gL_isOpen_X3_isOpen : GoodIn wsL_isOpen (wsV RL 41 RX3 yX3_isOpen wsX3_isOpen) := goodIn_app (goodIn_of _ (by decide +kernel)) ggL_isOpen_X3_isOpen
theorem dL_isOpen_0 : decode cL_isOpen 0 = .ok (.aload_n 2, 1) := by decide +kernel
theorem dL_isOpen_1 : decode cL_isOpen 1 = .ok (.iconst 0, 1) := by decide +kernel
theorem dL_isOpen_2 : decode cL_isOpen 2 = .ok (.aload_n 0, 1) := by decide +kernel
theorem dL_isOpen_3 : decode cL_isOpen 3 = .ok (.iload_n 1, 1) := by decide +kernel
theorem dL_isOpen_4 : decode cL_isOpen 4 = .ok (.invokevirtual 41, 3) := by decide +kernel
theorem dL_isOpen_7 : decode cL_isOpen 7 = .ok (.ifCond .eq 7, 3) := by decide +kernel
theorem dL_isOpen_10 : decode cL_isOpen 10 = .ok (.lconst 1, 1) := by decide +kernel
theorem dL_isOpen_11 : decode cL_isOpen 11 = .ok (.goto 4, 3) := by decide +kernel
theorem dL_isOpen_14 : decode cL_isOpen 14 = .ok (.lconst 0, 1) := by decide +kernel
theorem dL_isOpen_15 : decode cL_isOpen 15 = .ok (.lastore, 1) := by decide +kernel
theorem dL_isOpen_16 : decode cL_isOpen 16 = .ok (.goto 6, 3) := by decide +kernel
theorem dL_isOpen_19 : decode cL_isOpen 19 = .ok (.astore_n 3, 1) := by decide +kernel
theorem dL_isOpen_20 : decode cL_isOpen 20 = .ok (.iconst 1, 1) := by decide +kernel
theorem dL_isOpen_21 : decode cL_isOpen 21 = .ok (.ireturn, 1) := by decide +kernel
theorem dL_isOpen_22 : decode cL_isOpen 22 = .ok (.iconst 0, 1) := by decide +kernel
theorem dL_isOpen_23 : decode cL_isOpen 23 = .ok (.ireturn, 1) := by decide +kernel
set_option maxRecDepth 20000 in
theorem ggL_rows_X3_rows : GoodIn wsL_rows wsX3_rows := goodIn_ca (goodIn_r _ [6, 7, 8, 9, 5, 10, 11, 12, 13, 14, 15, 16, 17, 18, 19, 20, 21, 22, 23, 24, 25, 26, 27, 28, 29, 30, 31, 32, 33, 34, 35, 36] (by decide +kernel) (by decide +kernel)) (goodIn_sub (fun _ h => List.mem_cons_of_mem _ (List.mem_append_right _ h)) (by decide +kernel))
set_option maxRecDepth 20000 in
theorem gL_rows_X3_rows : GoodIn wsL_rows (wsV RL 45 RX3 yX3_rows wsX3_rows) := goodIn_app (goodIn_of _ (by decide +kernel)) ggL_rows_X3_rows
theorem dL_rows_0 : decode cL_rows 0 = .ok (.aload_n 2, 1) := by decide +kernel
theorem dL_rows_1 : decode cL_rows 1 = .ok (.iconst 0, 1) := by decide +kernel
theorem dL_rows_2 : decode cL_rows 2 = .ok (.aload_n 0, 1) := by decide +kernel
theorem dL_rows_3 : decode cL_rows 3 = .ok (.iload_n 1, 1) := by decide +kernel
theorem dL_rows_4 : decode cL_rows 4 = .ok (.invokevirtual 45, 3) := by decide +kernel
theorem dL_rows_7 : decode cL_rows 7 = .ok (.i2l, 1) := by decide +kernel
theorem dL_rows_8 : decode cL_rows 8 = .ok (.lastore, 1) := by decide +kernel
theorem dL_rows_9 : decode cL_rows 9 = .ok (.goto 6, 3) := by decide +kernel
theorem dL_rows_12 : decode cL_rows 12 = .ok (.astore_n 3, 1) := by decide +kernel
theorem dL_rows_13 : decode cL_rows 13 = .ok (.iconst 1, 1) := by decide +kernel
theorem dL_rows_14 : decode cL_rows 14 = .ok (.ireturn, 1) := by decide +kernel
theorem dL_rows_15 : decode cL_rows 15 = .ok (.iconst 0, 1) := by decide +kernel
theorem dL_rows_16 : decode cL_rows 16 = .ok (.ireturn, 1) := by decide +kernel
set_option maxRecDepth 20000 in
theorem ggL_wanted_X3_wanted : GoodIn wsL_wanted wsX3_wanted := goodIn_ca (goodIn_r _ [6, 7, 8, 9, 5, 10, 11, 12, 13, 14, 15, 16, 17, 18, 19, 20, 21, 22, 23, 24, 25, 26, 27, 28, 29, 30, 31, 32, 33, 34, 35, 36, 37, 38, 39] (by decide +kernel) (by decide +kernel)) (goodIn_sub (fun _ h => List.mem_cons_of_mem _ (List.mem_append_right _ h)) (by decide +kernel))
set_option maxRecDepth 20000 in
theorem gL_wanted_X3_wanted : GoodIn wsL_wanted (wsV RL 49 RX3 yX3_wanted wsX3_wanted) := goodIn_app (goodIn_of _ (by decide +kernel)) ggL_wanted_X3_wanted
theorem dL_wanted_0 : decode cL_wanted 0 = .ok (.aload_n 2, 1) := by decide +kernel
theorem dL_wanted_1 : decode cL_wanted 1 = .ok (.iconst 0, 1) := by decide +kernel
theorem dL_wanted_2 : decode cL_wanted 2 = .ok (.aload_n 0, 1) := by decide +kernel
theorem dL_wanted_3 : decode cL_wanted 3 = .ok (.iload_n 1, 1) := by decide +kernel
theorem dL_wanted_4 : decode cL_wanted 4 = .ok (.invokevirtual 49, 3) := by decide +kernel
theorem dL_wanted_7 : decode cL_wanted 7 = .ok (.i2l, 1) := by decide +kernel
theorem dL_wanted_8 : decode cL_wanted 8 = .ok (.lastore, 1) := by decide +kernel
theorem dL_wanted_9 : decode cL_wanted 9 = .ok (.goto 6, 3) := by decide +kernel
theorem dL_wanted_12 : decode cL_wanted 12 = .ok (.astore_n 3, 1) := by decide +kernel
theorem dL_wanted_13 : decode cL_wanted 13 = .ok (.iconst 1, 1) := by decide +kernel
theorem dL_wanted_14 : decode cL_wanted 14 = .ok (.ireturn, 1) := by decide +kernel
theorem dL_wanted_15 : decode cL_wanted 15 = .ok (.iconst 0, 1) := by decide +kernel
theorem dL_wanted_16 : decode cL_wanted 16 = .ok (.ireturn, 1) := by decide +kernel
set_option maxRecDepth 20000 in
theorem ggL_pass_X3_pass : GoodIn wsL_pass wsX3_pass := goodIn_ca (goodIn_r _ [6, 7, 8, 9, 10, 5, 11, 12, 13, 14, 15, 16, 17, 18, 19, 20, 21, 22, 23, 24, 25, 26, 27, 28, 29, 30, 31, 32, 33, 34, 35, 36, 37, 38, 39, 40, 41, 42, 43, 44, 45, 46, 47, 48, 49, 50, 51, 52, 53, 54, 55, 56, 57, 58, 59, 60, 61, 62, 63, 64, 65, 66, 67, 68, 69, 70, 71, 72, 73, 74, 75, 76, 77, 78, 79, 80, 81, 82, 83, 84, 85, 86, 87, 88] (by decide +kernel) (by decide +kernel)) (goodIn_sub (fun _ h => List.mem_cons_of_mem _ (List.mem_append_right _ h)) (by decide +kernel))
set_option maxRecDepth 20000 in
theorem gL_pass_X3_pass : GoodIn wsL_pass (wsV RL 52 RX3 yX3_pass wsX3_pass) := goodIn_app (goodIn_of _ (by decide +kernel)) ggL_pass_X3_pass
theorem dL_pass_0 : decode cL_pass 0 = .ok (.aload_n 2, 1) := by decide +kernel
theorem dL_pass_1 : decode cL_pass 1 = .ok (.iconst 0, 1) := by decide +kernel
theorem dL_pass_2 : decode cL_pass 2 = .ok (.aload_n 0, 1) := by decide +kernel
theorem dL_pass_3 : decode cL_pass 3 = .ok (.iload_n 1, 1) := by decide +kernel
theorem dL_pass_4 : decode cL_pass 4 = .ok (.invokevirtual 52, 3) := by decide +kernel
theorem dL_pass_7 : decode cL_pass 7 = .ok (.i2l, 1) := by decide +kernel
theorem dL_pass_8 : decode cL_pass 8 = .ok (.lastore, 1) := by decide +kernel
theorem dL_pass_9 : decode cL_pass 9 = .ok (.goto 6, 3) := by decide +kernel
theorem dL_pass_12 : decode cL_pass 12 = .ok (.astore_n 3, 1) := by decide +kernel
theorem dL_pass_13 : decode cL_pass 13 = .ok (.iconst 1, 1) := by decide +kernel
theorem dL_pass_14 : decode cL_pass 14 = .ok (.ireturn, 1) := by decide +kernel
theorem dL_pass_15 : decode cL_pass 15 = .ok (.iconst 0, 1) := by decide +kernel
theorem dL_pass_16 : decode cL_pass 16 = .ok (.ireturn, 1) := by decide +kernel
set_option maxRecDepth 20000 in
theorem ggL_play_X3_play : GoodIn wsL_play wsX3_play := goodIn_ca (goodIn_r _ [6, 7, 8, 9, 10, 5, 11, 12, 13, 14, 15, 16, 17, 18, 19, 20, 21, 22, 23, 24, 25, 26, 27, 28, 29, 30, 31, 32, 33, 34, 35, 36, 37, 38, 39, 40, 41, 42, 43, 44, 45, 46, 47, 48, 49, 50, 51, 52, 53, 54, 55, 56, 57, 58, 59, 60, 61, 62, 63, 64, 65, 66, 67, 68, 69, 70, 71, 72, 73, 74, 75, 76, 77, 78, 79, 80, 81, 82, 83, 84, 85] (by decide +kernel) (by decide +kernel)) (goodIn_sub (fun _ h => List.mem_cons_of_mem _ (List.mem_append_right _ h)) (by decide +kernel))
set_option maxRecDepth 20000 in
theorem gL_play_X3_play : GoodIn wsL_play (wsV RL 55 RX3 yX3_play wsX3_play) := goodIn_app (goodIn_of _ (by decide +kernel)) ggL_play_X3_play
theorem dL_play_0 : decode cL_play 0 = .ok (.aload_n 2, 1) := by decide +kernel
theorem dL_play_1 : decode cL_play 1 = .ok (.iconst 0, 1) := by decide +kernel
theorem dL_play_2 : decode cL_play 2 = .ok (.aload_n 0, 1) := by decide +kernel
theorem dL_play_3 : decode cL_play 3 = .ok (.iload_n 1, 1) := by decide +kernel
theorem dL_play_4 : decode cL_play 4 = .ok (.invokevirtual 55, 3) := by decide +kernel
theorem dL_play_7 : decode cL_play 7 = .ok (.i2l, 1) := by decide +kernel
theorem dL_play_8 : decode cL_play 8 = .ok (.lastore, 1) := by decide +kernel
theorem dL_play_9 : decode cL_play 9 = .ok (.goto 6, 3) := by decide +kernel
theorem dL_play_12 : decode cL_play 12 = .ok (.astore_n 3, 1) := by decide +kernel
theorem dL_play_13 : decode cL_play 13 = .ok (.iconst 1, 1) := by decide +kernel
theorem dL_play_14 : decode cL_play 14 = .ok (.ireturn, 1) := by decide +kernel
theorem dL_play_15 : decode cL_play 15 = .ok (.iconst 0, 1) := by decide +kernel
theorem dL_play_16 : decode cL_play 16 = .ok (.ireturn, 1) := by decide +kernel
set_option maxRecDepth 20000 in
theorem ggL_count_X3_count : GoodIn wsL_count wsX3_count := goodIn_ca (goodIn_r _ [6, 7, 8, 9, 10, 11, 12, 13, 14, 15, 16, 17, 18, 19, 20, 21, 22, 23, 24, 25] (by decide +kernel) (by decide +kernel)) (goodIn_sub (fun _ h => List.mem_cons_of_mem _ (List.mem_append_right _ h)) (by decide +kernel))
set_option maxRecDepth 20000 in
theorem gL_count_X3_count : GoodIn wsL_count (wsV RL 58 RX3 yX3_count wsX3_count) := goodIn_app (goodIn_of _ (by decide +kernel)) ggL_count_X3_count
theorem dL_count_0 : decode cL_count 0 = .ok (.aload_n 2, 1) := by decide +kernel
theorem dL_count_1 : decode cL_count 1 = .ok (.iconst 0, 1) := by decide +kernel
theorem dL_count_2 : decode cL_count 2 = .ok (.aload_n 0, 1) := by decide +kernel
theorem dL_count_3 : decode cL_count 3 = .ok (.iload_n 1, 1) := by decide +kernel
theorem dL_count_4 : decode cL_count 4 = .ok (.invokevirtual 58, 3) := by decide +kernel
theorem dL_count_7 : decode cL_count 7 = .ok (.i2l, 1) := by decide +kernel
theorem dL_count_8 : decode cL_count 8 = .ok (.lastore, 1) := by decide +kernel
theorem dL_count_9 : decode cL_count 9 = .ok (.goto 6, 3) := by decide +kernel
theorem dL_count_12 : decode cL_count 12 = .ok (.astore_n 3, 1) := by decide +kernel
theorem dL_count_13 : decode cL_count 13 = .ok (.iconst 1, 1) := by decide +kernel
theorem dL_count_14 : decode cL_count 14 = .ok (.ireturn, 1) := by decide +kernel
theorem dL_count_15 : decode cL_count 15 = .ok (.iconst 0, 1) := by decide +kernel
theorem dL_count_16 : decode cL_count 16 = .ok (.ireturn, 1) := by decide +kernel
set_option maxRecDepth 20000 in
theorem ggL_minutesToFade_X3_minutesToFade : GoodIn wsL_minutesToFade wsX3_minutesToFade := goodIn_ca (goodIn_r _ [6, 7, 8, 9, 5, 10, 11, 12, 13, 14, 15, 16, 17, 18, 19, 20, 21, 22, 23, 24, 25, 26, 27, 28, 29, 30, 31, 32, 33, 34, 35, 36, 37, 38, 39, 40, 41, 42, 43, 44, 45, 46, 47, 48, 49, 50, 51, 52, 53, 54, 55, 56, 57, 58, 59, 60, 61, 62, 63, 64, 65] (by decide +kernel) (by decide +kernel)) (goodIn_sub (fun _ h => List.mem_cons_of_mem _ (List.mem_append_right _ h)) (by decide +kernel))
set_option maxRecDepth 20000 in
theorem gL_minutesToFade_X3_minutesToFade : GoodIn wsL_minutesToFade (wsV RL 61 RX3 yX3_minutesToFade wsX3_minutesToFade) := goodIn_app (goodIn_of _ (by decide +kernel)) ggL_minutesToFade_X3_minutesToFade
theorem dL_minutesToFade_0 : decode cL_minutesToFade 0 = .ok (.aload_n 3, 1) := by decide +kernel
theorem dL_minutesToFade_1 : decode cL_minutesToFade 1 = .ok (.iconst 0, 1) := by decide +kernel
theorem dL_minutesToFade_2 : decode cL_minutesToFade 2 = .ok (.aload_n 0, 1) := by decide +kernel
theorem dL_minutesToFade_3 : decode cL_minutesToFade 3 = .ok (.iload_n 1, 1) := by decide +kernel
theorem dL_minutesToFade_4 : decode cL_minutesToFade 4 = .ok (.iload_n 2, 1) := by decide +kernel
theorem dL_minutesToFade_5 : decode cL_minutesToFade 5 = .ok (.invokevirtual 61, 3) := by decide +kernel
theorem dL_minutesToFade_8 : decode cL_minutesToFade 8 = .ok (.i2l, 1) := by decide +kernel
theorem dL_minutesToFade_9 : decode cL_minutesToFade 9 = .ok (.lastore, 1) := by decide +kernel
theorem dL_minutesToFade_10 : decode cL_minutesToFade 10 = .ok (.goto 7, 3) := by decide +kernel
theorem dL_minutesToFade_13 : decode cL_minutesToFade 13 = .ok (.astore 4, 2) := by decide +kernel
theorem dL_minutesToFade_15 : decode cL_minutesToFade 15 = .ok (.iconst 1, 1) := by decide +kernel
theorem dL_minutesToFade_16 : decode cL_minutesToFade 16 = .ok (.ireturn, 1) := by decide +kernel
theorem dL_minutesToFade_17 : decode cL_minutesToFade 17 = .ok (.iconst 0, 1) := by decide +kernel
theorem dL_minutesToFade_18 : decode cL_minutesToFade 18 = .ok (.ireturn, 1) := by decide +kernel
set_option maxRecDepth 20000 in
theorem ggL_disturbedAfter_X3_disturbedAfter : GoodIn wsL_disturbedAfter wsX3_disturbedAfter := goodIn_ca (goodIn_ca (goodIn_r _ [7, 8, 9, 10, 6, 11, 12, 13, 14, 15, 16, 17, 18, 19, 20, 21, 22, 23, 24, 25, 26, 27, 28, 29, 30, 31, 32, 33, 34, 35, 36, 37, 38, 39, 40, 41, 42, 43, 44, 45, 46, 47, 48, 49, 50, 51] (by decide +kernel) (by decide +kernel)) (goodIn_sub (fun _ h => List.mem_cons_of_mem _ (List.mem_append_left _ (List.mem_append_right _ h))) (by decide +kernel))) (goodIn_sub (fun _ h => List.mem_cons_of_mem _ (List.mem_append_right _ h)) (by decide +kernel))
set_option maxRecDepth 20000 in
theorem gL_disturbedAfter_X3_disturbedAfter : GoodIn wsL_disturbedAfter (wsV RL 64 RX3 yX3_disturbedAfter wsX3_disturbedAfter) := goodIn_app (goodIn_of _ (by decide +kernel)) ggL_disturbedAfter_X3_disturbedAfter
theorem dL_disturbedAfter_0 : decode cL_disturbedAfter 0 = .ok (.aload_n 3, 1) := by decide +kernel
theorem dL_disturbedAfter_1 : decode cL_disturbedAfter 1 = .ok (.iconst 0, 1) := by decide +kernel
theorem dL_disturbedAfter_2 : decode cL_disturbedAfter 2 = .ok (.aload_n 0, 1) := by decide +kernel
theorem dL_disturbedAfter_3 : decode cL_disturbedAfter 3 = .ok (.iload_n 1, 1) := by decide +kernel
theorem dL_disturbedAfter_4 : decode cL_disturbedAfter 4 = .ok (.iload_n 2, 1) := by decide +kernel
theorem dL_disturbedAfter_5 : decode cL_disturbedAfter 5 = .ok (.invokevirtual 64, 3) := by decide +kernel
theorem dL_disturbedAfter_8 : decode cL_disturbedAfter 8 = .ok (.i2l, 1) := by decide +kernel
theorem dL_disturbedAfter_9 : decode cL_disturbedAfter 9 = .ok (.lastore, 1) := by decide +kernel
theorem dL_disturbedAfter_10 : decode cL_disturbedAfter 10 = .ok (.goto 11, 3) := by decide +kernel
theorem dL_disturbedAfter_13 : decode cL_disturbedAfter 13 = .ok (.astore 4, 2) := by decide +kernel
theorem dL_disturbedAfter_15 : decode cL_disturbedAfter 15 = .ok (.iconst 1, 1) := by decide +kernel
theorem dL_disturbedAfter_16 : decode cL_disturbedAfter 16 = .ok (.ireturn, 1) := by decide +kernel
theorem dL_disturbedAfter_17 : decode cL_disturbedAfter 17 = .ok (.astore 4, 2) := by decide +kernel
theorem dL_disturbedAfter_19 : decode cL_disturbedAfter 19 = .ok (.iconst 2, 1) := by decide +kernel
theorem dL_disturbedAfter_20 : decode cL_disturbedAfter 20 = .ok (.ireturn, 1) := by decide +kernel
theorem dL_disturbedAfter_21 : decode cL_disturbedAfter 21 = .ok (.iconst 0, 1) := by decide +kernel
theorem dL_disturbedAfter_22 : decode cL_disturbedAfter 22 = .ok (.ireturn, 1) := by decide +kernel
set_option maxRecDepth 20000 in
theorem ggL_append_X3_append : GoodIn wsL_append wsX3_append := goodIn_ca (goodIn_ca (goodIn_r _ [7, 8, 9, 10, 11, 12, 13, 14, 15, 16, 17, 18, 19, 20, 21, 22, 23, 24, 25] (by decide +kernel) (by decide +kernel)) (goodIn_sub (fun _ h => List.mem_cons_of_mem _ (List.mem_append_left _ (List.mem_append_right _ h))) (by decide +kernel))) (goodIn_sub (fun _ h => List.mem_cons_of_mem _ (List.mem_append_right _ h)) (by decide +kernel))
set_option maxRecDepth 20000 in
theorem gL_append_X3_append : GoodIn wsL_append (wsV RL 67 RX3 yX3_append wsX3_append) := goodIn_app (goodIn_of _ (by decide +kernel)) ggL_append_X3_append
theorem dL_append_0 : decode cL_append 0 = .ok (.aload_n 2, 1) := by decide +kernel
theorem dL_append_1 : decode cL_append 1 = .ok (.iconst 0, 1) := by decide +kernel
theorem dL_append_2 : decode cL_append 2 = .ok (.aload_n 0, 1) := by decide +kernel
theorem dL_append_3 : decode cL_append 3 = .ok (.iload_n 1, 1) := by decide +kernel
theorem dL_append_4 : decode cL_append 4 = .ok (.invokevirtual 67, 3) := by decide +kernel
theorem dL_append_7 : decode cL_append 7 = .ok (.i2l, 1) := by decide +kernel
theorem dL_append_8 : decode cL_append 8 = .ok (.lastore, 1) := by decide +kernel
theorem dL_append_9 : decode cL_append 9 = .ok (.goto 9, 3) := by decide +kernel
theorem dL_append_12 : decode cL_append 12 = .ok (.astore_n 3, 1) := by decide +kernel
theorem dL_append_13 : decode cL_append 13 = .ok (.iconst 1, 1) := by decide +kernel
theorem dL_append_14 : decode cL_append 14 = .ok (.ireturn, 1) := by decide +kernel
theorem dL_append_15 : decode cL_append 15 = .ok (.astore_n 3, 1) := by decide +kernel
theorem dL_append_16 : decode cL_append 16 = .ok (.iconst 2, 1) := by decide +kernel
theorem dL_append_17 : decode cL_append 17 = .ok (.ireturn, 1) := by decide +kernel
theorem dL_append_18 : decode cL_append 18 = .ok (.iconst 0, 1) := by decide +kernel
theorem dL_append_19 : decode cL_append 19 = .ok (.ireturn, 1) := by decide +kernel
set_option maxRecDepth 20000 in
theorem ggL_run_X3_run : GoodIn wsL_run wsX3_run := goodIn_ca (goodIn_r _ [6, 7, 8, 9, 10, 11, 12, 13, 14, 15, 16, 17, 18, 19, 20, 21, 22, 23, 24, 25, 26, 27, 28, 29, 30, 31, 32, 33, 34, 35, 36, 37, 38, 39, 40, 41, 42, 43, 44, 45, 46, 47, 48, 49, 50, 51, 52, 53, 54, 55, 56, 57, 58, 59, 60, 61, 62, 63, 64, 65, 66, 67, 68, 69, 70, 5, 71, 72, 73, 74, 75, 76, 77, 78, 79, 80, 81, 82, 83, 84, 85, 86, 87, 88, 89, 90, 91, 92, 93, 94, 95, 96, 97, 98, 99, 100, 101, 102, 103, 104, 105, 106, 107, 108, 109, 110, 111, 112, 113, 114, 115, 116, 117, 118, 119, 120, 121, 122, 123, 124, 125, 126, 127, 128, 129, 130, 131, 132, 133, 134, 135, 136, 137, 138, 139, 140, 141, 142, 143, 144, 145, 146, 147, 148, 149, 150, 151, 152, 153, 154, 155, 156, 157, 158, 159, 160, 161, 162, 163, 164, 165, 166, 167, 168, 169, 170, 171, 172, 173, 174, 175, 176, 177, 178, 179, 180, 181, 182, 183, 184, 185, 186, 187, 188, 189, 190, 191, 192] (by decide +kernel) (by decide +kernel)) (goodIn_sub (fun _ h => List.mem_cons_of_mem _ (List.mem_append_right _ h)) (by decide +kernel))
set_option maxRecDepth 20000 in
theorem gL_run_X3_run : GoodIn wsL_run (wsV RL 70 RX3 yX3_run wsX3_run) := goodIn_app (goodIn_of _ (by decide +kernel)) ggL_run_X3_run
theorem dL_run_0 : decode cL_run 0 = .ok (.aload_n 1, 1) := by decide +kernel
theorem dL_run_1 : decode cL_run 1 = .ok (.iconst 0, 1) := by decide +kernel
theorem dL_run_2 : decode cL_run 2 = .ok (.aload_n 0, 1) := by decide +kernel
theorem dL_run_3 : decode cL_run 3 = .ok (.invokevirtual 70, 3) := by decide +kernel
theorem dL_run_6 : decode cL_run 6 = .ok (.i2l, 1) := by decide +kernel
theorem dL_run_7 : decode cL_run 7 = .ok (.lastore, 1) := by decide +kernel
theorem dL_run_8 : decode cL_run 8 = .ok (.goto 6, 3) := by decide +kernel
theorem dL_run_11 : decode cL_run 11 = .ok (.astore_n 2, 1) := by decide +kernel
theorem dL_run_12 : decode cL_run 12 = .ok (.iconst 1, 1) := by decide +kernel
theorem dL_run_13 : decode cL_run 13 = .ok (.ireturn, 1) := by decide +kernel
theorem dL_run_14 : decode cL_run 14 = .ok (.iconst 0, 1) := by decide +kernel
theorem dL_run_15 : decode cL_run 15 = .ok (.ireturn, 1) := by decide +kernel
set_option maxRecDepth 20000 in
theorem ggL_undo_X3_undo : GoodIn wsL_undo wsX3_undo := goodIn_ca (goodIn_r _ [6, 7, 8, 9, 10, 11, 12, 13, 14, 15, 16, 17, 18, 19, 20, 21, 22, 23, 24, 25, 26, 27, 28, 29, 30, 31, 32, 33, 34, 35, 36, 37, 38, 39, 40, 41, 42, 43, 44, 45, 46, 47, 48, 49, 50, 51, 52, 53, 54, 55, 56, 57, 58] (by decide +kernel) (by decide +kernel)) (goodIn_sub (fun _ h => List.mem_cons_of_mem _ (List.mem_append_right _ h)) (by decide +kernel))
set_option maxRecDepth 20000 in
theorem gL_undo_X3_undo : GoodIn wsL_undo (wsV RL 74 RX3 yX3_undo wsX3_undo) := goodIn_app (goodIn_of _ (by decide +kernel)) ggL_undo_X3_undo
theorem dL_undo_0 : decode cL_undo 0 = .ok (.aload_n 1, 1) := by decide +kernel
theorem dL_undo_1 : decode cL_undo 1 = .ok (.iconst 0, 1) := by decide +kernel
theorem dL_undo_2 : decode cL_undo 2 = .ok (.aload_n 0, 1) := by decide +kernel
theorem dL_undo_3 : decode cL_undo 3 = .ok (.invokevirtual 74, 3) := by decide +kernel
theorem dL_undo_6 : decode cL_undo 6 = .ok (.i2l, 1) := by decide +kernel
theorem dL_undo_7 : decode cL_undo 7 = .ok (.lastore, 1) := by decide +kernel
theorem dL_undo_8 : decode cL_undo 8 = .ok (.goto 6, 3) := by decide +kernel
theorem dL_undo_11 : decode cL_undo 11 = .ok (.astore_n 2, 1) := by decide +kernel
theorem dL_undo_12 : decode cL_undo 12 = .ok (.iconst 1, 1) := by decide +kernel
theorem dL_undo_13 : decode cL_undo 13 = .ok (.ireturn, 1) := by decide +kernel
theorem dL_undo_14 : decode cL_undo 14 = .ok (.iconst 0, 1) := by decide +kernel
theorem dL_undo_15 : decode cL_undo 15 = .ok (.ireturn, 1) := by decide +kernel
set_option maxRecDepth 20000 in
theorem ggL_law_X3_init : GoodIn wsL_law wsX3_init := goodIn_r _ [9, 10, 11, 12, 13, 14, 15, 16, 17, 18, 19, 20, 21, 22, 23, 24, 25, 26, 27, 28, 29, 30, 31, 32, 33, 34, 35, 36, 37, 38, 39, 40, 41, 42, 43, 44, 45, 46, 47, 48, 49, 50, 51, 52, 53, 54, 720, 721, 722, 723, 724, 725, 726, 727, 728, 729, 730, 731, 705, 706, 707, 732, 733, 734, 735, 736] (by decide +kernel) (by decide +kernel)
set_option maxRecDepth 20000 in
theorem gL_law_X3_init : GoodIn wsL_law (wsX3_init) := ggL_law_X3_init
set_option maxRecDepth 20000 in
theorem ggL_law_X4_init : GoodIn wsL_law wsX4_init := goodIn_r _ [57, 58, 11, 12, 28, 59, 60, 61, 62, 63, 64, 708, 709, 710, 711, 712, 713, 714, 715, 716, 717, 718, 719] (by decide +kernel) (by decide +kernel)
set_option maxRecDepth 20000 in
theorem gL_law_X4_init : GoodIn wsL_law (wsX4_init) := ggL_law_X4_init
set_option maxRecDepth 20000 in
theorem ggL_law_L_come : GoodIn wsL_law wsL_come := goodIn_ca (goodIn_ca (goodIn_r _ [68, 69, 70, 71, 72, 73, 2, 74, 75, 76, 16, 20, 77, 78, 79, 80, 81, 82, 83, 84, 85, 86, 87, 88, 89, 90, 91, 15, 92, 29, 93, 94, 95, 19, 96, 48, 47, 46, 97, 98, 99, 100, 101, 102, 103, 104, 30, 31, 32, 33, 34, 35, 36, 37, 38, 39, 40, 105, 106, 107, 108, 109, 110, 111, 112, 705, 706, 707, 720, 721, 722, 723, 724, 725, 726, 727, 728, 729, 730, 731, 732, 733, 734] (by decide +kernel) (by decide +kernel)) (goodIn_sub (fun _ h => List.mem_append_left _ (List.mem_append_left _ (List.mem_append_right _ h))) (by decide +kernel))) (goodIn_sub (fun _ h => List.mem_append_left _ (List.mem_append_right _ h)) (by decide +kernel))
set_option maxRecDepth 20000 in
theorem gL_law_L_come : GoodIn wsL_law (va_wsS RL 81 yL_come wsL_come) := goodIn_app (goodIn_of _ (by decide +kernel)) ggL_law_L_come
set_option maxRecDepth 20000 in
theorem ggL_law_X4_come : GoodIn wsL_law wsX4_come := goodIn_r _ [116, 64, 59, 117, 118, 5, 119, 120, 121, 122, 123, 124, 125, 126, 127, 128, 129, 130, 131, 132, 133, 134, 61, 135, 136, 137, 138, 139, 140, 141, 142, 708, 709, 710, 711, 712, 713, 714, 715, 716, 717, 718, 719] (by decide +kernel) (by decide +kernel)
set_option maxRecDepth 20000 in
theorem gL_law_X4_come : GoodIn wsL_law (wsV RL 86 RX4 yX4_come wsX4_come) := goodIn_app (goodIn_of _ (by decide +kernel)) ggL_law_X4_come
set_option maxRecDepth 20000 in
theorem ggL_law_X4_thrown : GoodIn wsL_law wsX4_thrown := goodIn_r _ [146, 64, 708, 709, 710, 711, 712, 713, 714, 715, 716, 717, 718, 719] (by decide +kernel) (by decide +kernel)
set_option maxRecDepth 20000 in
theorem gL_law_X4_thrown : GoodIn wsL_law (wsV RL 87 RX4 yX4_thrown wsX4_thrown) := goodIn_app (goodIn_of _ (by decide +kernel)) ggL_law_X4_thrown
set_option maxRecDepth 20000 in
theorem ggL_law_L_leave : GoodIn wsL_law wsL_leave := goodIn_ca (goodIn_ca (goodIn_r _ [149, 69, 70, 150, 151, 152, 2, 153, 75, 76, 16, 20, 77, 78, 79, 80, 81, 82, 83, 84, 85, 86, 87, 88, 154, 155, 156, 15, 157, 29, 93, 94, 95, 19, 96, 48, 47, 46, 97, 98, 99, 100, 101, 102, 103, 104, 30, 31, 32, 33, 34, 35, 36, 37, 38, 39, 40, 158, 159, 160, 161, 162, 163, 164, 165, 166, 167, 168, 169, 170, 109, 110, 111, 112, 705, 706, 707, 720, 721, 722, 723, 724, 725, 726, 727, 728, 729, 730, 731, 732, 733, 734] (by decide +kernel) (by decide +kernel)) (goodIn_sub (fun _ h => List.mem_append_left _ (List.mem_append_left _ (List.mem_append_right _ h))) (by decide +kernel))) (goodIn_sub (fun _ h => List.mem_append_left _ (List.mem_append_right _ h)) (by decide +kernel))
set_option maxRecDepth 20000 in
theorem gL_law_L_leave : GoodIn wsL_law (va_wsS RL 90 yL_leave wsL_leave) := goodIn_app (goodIn_of _ (by decide +kernel)) ggL_law_L_leave
set_option maxRecDepth 20000 in
theorem ggL_law_X4_leave : GoodIn wsL_law wsX4_leave := goodIn_r _ [174, 64, 59, 117, 118, 5, 119, 120, 121, 122, 123, 124, 125, 126, 127, 128, 129, 130, 131, 132, 133, 134, 61, 175, 176, 177, 178, 179, 180, 181, 182, 139, 140, 141, 142, 708, 709, 710, 711, 712, 713, 714, 715, 716, 717, 718, 719] (by decide +kernel) (by decide +kernel)
set_option maxRecDepth 20000 in
theorem gL_law_X4_leave : GoodIn wsL_law (wsV RL 93 RX4 yX4_leave wsX4_leave) := goodIn_app (goodIn_of _ (by decide +kernel)) ggL_law_X4_leave
set_option maxRecDepth 20000 in
theorem ggL_law_L_listeners : GoodIn wsL_law wsL_listeners := goodIn_ca (goodIn_r _ [185, 69, 186, 187, 188, 2, 189, 16, 77, 78, 79, 80, 81, 82, 83, 84, 85, 86, 87, 88, 705, 706, 707, 720, 721, 722, 723, 724, 725, 726, 727, 728, 729, 730, 731] (by decide +kernel) (by decide +kernel)) (goodIn_sub (fun _ h => List.mem_append_left _ (List.mem_append_right _ h)) (by decide +kernel))
set_option maxRecDepth 20000 in
theorem gL_law_L_listeners : GoodIn wsL_law (va_wsS RL 94 yL_listeners wsL_listeners) := goodIn_app (goodIn_of _ (by decide +kernel)) ggL_law_L_listeners
set_option maxRecDepth 20000 in
theorem ggL_law_X4_listeners : GoodIn wsL_law wsX4_listeners := goodIn_r _ [193, 64, 59, 117, 118, 5, 119, 120, 121, 122, 127, 128, 129, 123, 124, 125, 126, 708, 709, 710, 711, 712, 713, 714, 715, 716, 717, 718, 719] (by decide +kernel) (by decide +kernel)
set_option maxRecDepth 20000 in
theorem gL_law_X4_listeners : GoodIn wsL_law (wsV RL 96 RX4 yX4_listeners wsX4_listeners) := goodIn_app (goodIn_of _ (by decide +kernel)) ggL_law_X4_listeners
set_option maxRecDepth 20000 in
theorem ggL_law_L_setOpen : GoodIn wsL_law wsL_setOpen := goodIn_ca (goodIn_r _ [196, 69, 197, 198, 199, 2, 200, 20, 16, 78, 79, 80, 81, 82, 93, 94, 95, 19, 96, 48, 47, 46, 97, 98, 99, 15, 100, 29, 101, 102, 103, 104, 30, 31, 32, 33, 34, 35, 36, 37, 38, 39, 40, 201, 202, 203, 204, 205, 206, 207, 208, 705, 706, 707, 732, 733, 734, 720, 721, 722, 723, 724, 725, 726, 727, 728, 729, 730, 731] (by decide +kernel) (by decide +kernel)) (goodIn_sub (fun _ h => List.mem_append_left _ (List.mem_append_right _ h)) (by decide +kernel))
set_option maxRecDepth 20000 in
theorem gL_law_L_setOpen : GoodIn wsL_law (va_wsS RL 97 yL_setOpen wsL_setOpen) := goodIn_app (goodIn_of _ (by decide +kernel)) ggL_law_L_setOpen
set_option maxRecDepth 20000 in
theorem ggL_law_X4_setOpen : GoodIn wsL_law wsX4_setOpen := goodIn_r _ [212, 64, 59, 120, 121, 5, 122, 123, 124, 125, 126, 130, 131, 132, 133, 134, 61, 708, 709, 710, 711, 712, 713, 714, 715, 716, 717, 718, 719] (by decide +kernel) (by decide +kernel)
set_option maxRecDepth 20000 in
theorem gL_law_X4_setOpen : GoodIn wsL_law (wsV RL 100 RX4 yX4_setOpen wsX4_setOpen) := goodIn_app (goodIn_of _ (by decide +kernel)) ggL_law_X4_setOpen
set_option maxRecDepth 20000 in
theorem ggL_law_X3_setQuick : GoodIn wsL_law wsX3_setQuick := goodIn_r _ [216, 20, 16, 217, 93, 94, 95, 19, 96, 48, 47, 46, 97, 98, 99, 15, 100, 29, 101, 102, 103, 104, 30, 31, 32, 33, 34, 35, 36, 37, 38, 39, 40, 705, 706, 707, 720, 721, 722, 723, 724, 725, 726, 727, 728, 729, 730, 731, 732, 733, 734] (by decide +kernel) (by decide +kernel)
set_option maxRecDepth 20000 in
theorem gL_law_X3_setQuick : GoodIn wsL_law (wsV RL 101 RX3 yX3_setQuick wsX3_setQuick) := goodIn_app (goodIn_of _ (by decide +kernel)) ggL_law_X3_setQuick
set_option maxRecDepth 20000 in
theorem ggL_law_X4_setQuick : GoodIn wsL_law wsX4_setQuick := goodIn_r _ [221, 64, 59, 130, 131, 132, 5, 133, 134, 61, 708, 709, 710, 711, 712, 713, 714, 715, 716, 717, 718, 719] (by decide +kernel) (by decide +kernel)
set_option maxRecDepth 20000 in
theorem gL_law_X4_setQuick : GoodIn wsL_law (wsV RL 105 RX4 yX4_setQuick wsX4_setQuick) := goodIn_app (goodIn_of _ (by decide +kernel)) ggL_law_X4_setQuick
set_option maxRecDepth 20000 in
theorem ggL_law_L_setTimes : GoodIn wsL_law wsL_setTimes := goodIn_ca (goodIn_r _ [224, 225, 226, 227, 228, 2, 229, 230, 231, 20, 16, 232, 233, 234, 93, 94, 95, 19, 96, 48, 47, 46, 97, 98, 99, 15, 100, 29, 101, 102, 103, 104, 30, 31, 32, 33, 34, 35, 36, 37, 38, 39, 40, 705, 706, 707, 720, 721, 722, 723, 724, 725, 726, 727, 728, 729, 730, 731, 732, 733, 734] (by decide +kernel) (by decide +kernel)) (goodIn_sub (fun _ h => List.mem_append_right _ h) (by decide +kernel))
set_option maxRecDepth 20000 in
theorem gL_law_L_setTimes : GoodIn wsL_law (va_wsS RL 106 yL_setTimes wsL_setTimes) := goodIn_app (goodIn_of _ (by decide +kernel)) ggL_law_L_setTimes
set_option maxRecDepth 20000 in
theorem ggL_law_X4_setTimes : GoodIn wsL_law wsX4_setTimes := goodIn_r _ [238, 64, 59, 120, 121, 5, 122, 123, 124, 125, 126, 130, 131, 132, 133, 134, 61, 708, 709, 710, 711, 712, 713, 714, 715, 716, 717, 718, 719] (by decide +kernel) (by decide +kernel)
set_option maxRecDepth 20000 in
theorem gL_law_X4_setTimes : GoodIn wsL_law (wsV RL 109 RX4 yX4_setTimes wsX4_setTimes) := goodIn_app (goodIn_of _ (by decide +kernel)) ggL_law_X4_setTimes
set_option maxRecDepth 20000 in
theorem ggL_law_L_setPresent : GoodIn wsL_law wsL_setPresent := goodIn_ca (goodIn_r _ [241, 69, 242, 243, 244, 2, 245, 81, 82, 20, 16, 246, 247, 93, 94, 95, 19, 96, 48, 47, 46, 97, 98, 99, 15, 100, 29, 101, 102, 103, 104, 30, 31, 32, 33, 34, 35, 36, 37, 38, 39, 40, 248, 249, 250, 251, 705, 706, 707, 720, 721, 722, 723, 724, 725, 726, 727, 728, 729, 730, 731, 732, 733, 734] (by decide +kernel) (by decide +kernel)) (goodIn_sub (fun _ h => List.mem_append_left _ (List.mem_append_right _ h)) (by decide +kernel))
set_option maxRecDepth 20000 in
theorem gL_law_L_setPresent : GoodIn wsL_law (va_wsS RL 110 yL_setPresent wsL_setPresent) := goodIn_app (goodIn_of _ (by decide +kernel)) ggL_law_L_setPresent
set_option maxRecDepth 20000 in
theorem ggL_law_X4_setPresent : GoodIn wsL_law wsX4_setPresent := goodIn_r _ [255, 64, 59, 120, 121, 5, 122, 123, 124, 125, 126, 130, 131, 132, 133, 134, 61, 256, 257, 258, 259, 708, 709, 710, 711, 712, 713, 714, 715, 716, 717, 718, 719] (by decide +kernel) (by decide +kernel)
set_option maxRecDepth 20000 in
theorem gL_law_X4_setPresent : GoodIn wsL_law (wsV RL 112 RX4 yX4_setPresent wsX4_setPresent) := goodIn_app (goodIn_of _ (by decide +kernel)) ggL_law_X4_setPresent
set_option maxRecDepth 20000 in
theorem ggL_law_X3_chief : GoodIn wsL_law wsX3_chief := goodIn_r _ [263, 16, 248, 249, 250, 15, 251, 35, 34, 705, 706, 707, 720, 721, 722, 723, 724, 725, 726, 727, 728, 729, 730, 731] (by decide +kernel) (by decide +kernel)
set_option maxRecDepth 20000 in
theorem gL_law_X3_chief : GoodIn wsL_law (wsV RL 113 RX3 yX3_chief wsX3_chief) := goodIn_app (goodIn_of _ (by decide +kernel)) ggL_law_X3_chief
set_option maxRecDepth 20000 in
theorem ggL_law_X4_chief : GoodIn wsL_law wsX4_chief := goodIn_r _ [267, 64, 256, 257, 258, 5, 259, 59, 708, 709, 710, 711, 712, 713, 714, 715, 716, 717, 718, 719] (by decide +kernel) (by decide +kernel)
set_option maxRecDepth 20000 in
theorem gL_law_X4_chief : GoodIn wsL_law (wsV RL 116 RX4 yX4_chief wsX4_chief) := goodIn_app (goodIn_of _ (by decide +kernel)) ggL_law_X4_chief
set_option maxRecDepth 20000 in
theorem ggL_law_L_rest : GoodIn wsL_law wsL_rest := goodIn_ca (goodIn_r _ [270, 69, 271, 272, 273, 2, 274, 16, 275, 78, 79, 80, 81, 82, 83, 84, 85, 86, 87, 88, 705, 706, 707, 720, 721, 722, 723, 724, 725, 726, 727, 728, 729, 730, 731] (by decide +kernel) (by decide +kernel)) (goodIn_sub (fun _ h => List.mem_append_left _ (List.mem_append_right _ h)) (by decide +kernel))
set_option maxRecDepth 20000 in
theorem gL_law_L_rest : GoodIn wsL_law (va_wsS RL 117 yL_rest wsL_rest) := goodIn_app (goodIn_of _ (by decide +kernel)) ggL_law_L_rest
set_option maxRecDepth 20000 in
theorem ggL_law_X4_rest : GoodIn wsL_law wsX4_rest := goodIn_r _ [279, 64, 59, 117, 118, 5, 119, 120, 121, 122, 127, 128, 129, 123, 124, 125, 126, 708, 709, 710, 711, 712, 713, 714, 715, 716, 717, 718, 719] (by decide +kernel) (by decide +kernel)
set_option maxRecDepth 20000 in
theorem gL_law_X4_rest : GoodIn wsL_law (wsV RL 119 RX4 yX4_rest wsX4_rest) := goodIn_app (goodIn_of _ (by decide +kernel)) ggL_law_X4_rest
set_option maxRecDepth 20000 in
theorem ggL_law_X3_entries : GoodIn wsL_law wsX3_entries := goodIn_r _ [283, 16, 284, 285, 286, 15, 287, 30, 705, 706, 707, 720, 721, 722, 723, 724, 725, 726, 727, 728, 729, 730, 731] (by decide +kernel) (by decide +kernel)
set_option maxRecDepth 20000 in
theorem gL_law_X3_entries : GoodIn wsL_law (wsV RL 120 RX3 yX3_entries wsX3_entries) := goodIn_app (goodIn_of _ (by decide +kernel)) ggL_law_X3_entries
set_option maxRecDepth 20000 in
theorem ggL_law_X4_entries : GoodIn wsL_law wsX4_entries := goodIn_r _ [291, 64, 292, 293, 294, 5, 295, 59, 708, 709, 710, 711, 712, 713, 714, 715, 716, 717, 718, 719] (by decide +kernel) (by decide +kernel)
set_option maxRecDepth 20000 in
theorem gL_law_X4_entries : GoodIn wsL_law (wsV RL 123 RX4 yX4_entries wsX4_entries) := goodIn_app (goodIn_of _ (by decide +kernel)) ggL_law_X4_entries
set_option maxRecDepth 20000 in
theorem ggL_law_L_isOpen : GoodIn wsL_law wsL_isOpen := goodIn_ca (goodIn_r _ [298, 69, 299, 300, 301, 2, 302, 16, 78, 79, 80, 81, 82, 201, 202, 203, 15, 204, 32, 705, 706, 707, 720, 721, 722, 723, 724, 725, 726, 727, 728, 729, 730, 731] (by decide +kernel) (by decide +kernel)) (goodIn_sub (fun _ h => List.mem_append_left _ (List.mem_append_right _ h)) (by decide +kernel))
set_option maxRecDepth 20000 in
theorem gL_law_L_isOpen : GoodIn wsL_law (va_wsS RL 124 yL_isOpen wsL_isOpen) := goodIn_app (goodIn_of _ (by decide +kernel)) ggL_law_L_isOpen
set_option maxRecDepth 20000 in
theorem ggL_law_X4_isOpen : GoodIn wsL_law wsX4_isOpen := goodIn_r _ [306, 64, 59, 120, 121, 5, 122, 123, 124, 125, 126, 708, 709, 710, 711, 712, 713, 714, 715, 716, 717, 718, 719] (by decide +kernel) (by decide +kernel)
set_option maxRecDepth 20000 in
theorem gL_law_X4_isOpen : GoodIn wsL_law (wsV RL 127 RX4 yX4_isOpen wsX4_isOpen) := goodIn_app (goodIn_of _ (by decide +kernel)) ggL_law_X4_isOpen
set_option maxRecDepth 20000 in
theorem ggL_law_L_rows : GoodIn wsL_law wsL_rows := goodIn_ca (goodIn_r _ [309, 69, 310, 311, 312, 2, 313, 16, 83, 84, 85, 81, 82, 314, 315, 316, 15, 317, 32, 30, 87, 88, 705, 706, 707, 720, 721, 722, 723, 724, 725, 726, 727, 728, 729, 730, 731] (by decide +kernel) (by decide +kernel)) (goodIn_sub (fun _ h => List.mem_append_left _ (List.mem_append_right _ h)) (by decide +kernel))
set_option maxRecDepth 20000 in
theorem gL_law_L_rows : GoodIn wsL_law (va_wsS RL 128 yL_rows wsL_rows) := goodIn_app (goodIn_of _ (by decide +kernel)) ggL_law_L_rows
set_option maxRecDepth 20000 in
theorem ggL_law_X4_rows : GoodIn wsL_law wsX4_rows := goodIn_r _ [321, 64, 322, 323, 5, 324, 120, 121, 122, 325, 326, 327, 328, 329, 330, 331, 332, 59, 127, 128, 129, 123, 124, 125, 126, 708, 709, 710, 711, 712, 713, 714, 715, 716, 717, 718, 719] (by decide +kernel) (by decide +kernel)
set_option maxRecDepth 20000 in
theorem gL_law_X4_rows : GoodIn wsL_law (wsV RL 130 RX4 yX4_rows wsX4_rows) := goodIn_app (goodIn_of _ (by decide +kernel)) ggL_law_X4_rows
set_option maxRecDepth 20000 in
theorem ggL_law_L_wanted : GoodIn wsL_law wsL_wanted := goodIn_ca (goodIn_r _ [335, 69, 336, 337, 338, 2, 339, 16, 83, 84, 85, 81, 82, 340, 341, 342, 15, 343, 87, 88, 166, 155, 156, 157, 29, 705, 706, 707, 720, 721, 722, 723, 724, 725, 726, 727, 728, 729, 730, 731] (by decide +kernel) (by decide +kernel)) (goodIn_sub (fun _ h => List.mem_append_left _ (List.mem_append_right _ h)) (by decide +kernel))
set_option maxRecDepth 20000 in
theorem gL_law_L_wanted : GoodIn wsL_law (va_wsS RL 131 yL_wanted wsL_wanted) := goodIn_app (goodIn_of _ (by decide +kernel)) ggL_law_L_wanted
set_option maxRecDepth 20000 in
theorem ggL_law_X4_wanted : GoodIn wsL_law wsX4_wanted := goodIn_r _ [347, 64, 322, 323, 5, 324, 120, 121, 122, 348, 349, 350, 351, 352, 353, 354, 355, 59, 127, 128, 129, 123, 124, 125, 126, 708, 709, 710, 711, 712, 713, 714, 715, 716, 717, 718, 719] (by decide +kernel) (by decide +kernel)
set_option maxRecDepth 20000 in
theorem gL_law_X4_wanted : GoodIn wsL_law (wsV RL 133 RX4 yX4_wanted wsX4_wanted) := goodIn_app (goodIn_of _ (by decide +kernel)) ggL_law_X4_wanted
set_option maxRecDepth 20000 in
theorem ggL_law_L_pass : GoodIn wsL_law wsL_pass := goodIn_ca (goodIn_r _ [358, 225, 359, 360, 361, 2, 362, 20, 16, 363, 364, 365, 230, 231, 93, 94, 95, 19, 96, 48, 47, 46, 97, 98, 99, 15, 100, 29, 101, 102, 103, 104, 30, 31, 32, 33, 34, 35, 36, 37, 38, 39, 40, 366, 367, 368, 369, 370, 371, 372, 373, 374, 375, 376, 377, 378, 249, 250, 251, 379, 380, 381, 382, 166, 155, 156, 157, 109, 110, 111, 112, 705, 706, 707, 732, 733, 734, 720, 721, 722, 723, 724, 725, 726, 727, 728, 729, 730, 731] (by decide +kernel) (by decide +kernel)) (goodIn_sub (fun _ h => List.mem_append_right _ h) (by decide +kernel))
set_option maxRecDepth 20000 in
theorem gL_law_L_pass : GoodIn wsL_law (va_wsS RL 134 yL_pass wsL_pass) := goodIn_app (goodIn_of _ (by decide +kernel)) ggL_law_L_pass
set_option maxRecDepth 20000 in
theorem ggL_law_X4_pass : GoodIn wsL_law wsX4_pass := goodIn_r _ [386, 64, 120, 121, 5, 122, 123, 124, 125, 126, 130, 131, 132, 133, 134, 61, 59, 387, 388, 389, 390, 391, 392, 393, 394, 395, 396, 397, 398, 256, 257, 258, 259, 139, 140, 141, 142, 708, 709, 710, 711, 712, 713, 714, 715, 716, 717, 718, 719] (by decide +kernel) (by decide +kernel)
set_option maxRecDepth 20000 in
theorem gL_law_X4_pass : GoodIn wsL_law (wsV RL 136 RX4 yX4_pass wsX4_pass) := goodIn_app (goodIn_of _ (by decide +kernel)) ggL_law_X4_pass
set_option maxRecDepth 20000 in
theorem ggL_law_L_play : GoodIn wsL_law wsL_play := goodIn_ca (goodIn_r _ [401, 69, 402, 403, 404, 2, 405, 20, 16, 83, 84, 85, 81, 82, 93, 94, 95, 19, 96, 48, 47, 46, 97, 98, 99, 15, 100, 29, 101, 102, 103, 104, 30, 31, 32, 33, 34, 35, 36, 37, 38, 39, 40, 406, 407, 408, 409, 410, 315, 316, 317, 87, 88, 411, 341, 342, 343, 166, 155, 156, 157, 412, 413, 414, 415, 416, 417, 418, 705, 706, 707, 732, 733, 734, 720, 721, 722, 723, 724, 725, 726, 727, 728, 729, 730, 731] (by decide +kernel) (by decide +kernel)) (goodIn_sub (fun _ h => List.mem_append_left _ (List.mem_append_right _ h)) (by decide +kernel))
set_option maxRecDepth 20000 in
theorem gL_law_L_play : GoodIn wsL_law (va_wsS RL 137 yL_play wsL_play) := goodIn_app (goodIn_of _ (by decide +kernel)) ggL_law_L_play
set_option maxRecDepth 20000 in
theorem ggL_law_X4_play : GoodIn wsL_law wsX4_play := goodIn_r _ [422, 64, 322, 323, 5, 324, 120, 121, 122, 123, 124, 125, 126, 130, 131, 132, 133, 134, 61, 59, 423, 424, 425, 426, 329, 330, 331, 332, 127, 128, 129, 352, 353, 354, 355, 708, 709, 710, 711, 712, 713, 714, 715, 716, 717, 718, 719] (by decide +kernel) (by decide +kernel)
set_option maxRecDepth 20000 in
theorem gL_law_X4_play : GoodIn wsL_law (wsV RL 139 RX4 yX4_play wsX4_play) := goodIn_app (goodIn_of _ (by decide +kernel)) ggL_law_X4_play
set_option maxRecDepth 20000 in
theorem ggL_law_X3_minutes : GoodIn wsL_law wsX3_minutes := goodIn_r _ [430, 16, 431, 705, 706, 707, 720, 721, 722, 723, 724, 725, 726, 727, 728, 729, 730, 731] (by decide +kernel) (by decide +kernel)
set_option maxRecDepth 20000 in
theorem gL_law_X3_minutes : GoodIn wsL_law (wsV RL 140 RX3 yX3_minutes wsX3_minutes) := goodIn_app (goodIn_of _ (by decide +kernel)) ggL_law_X3_minutes
set_option maxRecDepth 20000 in
theorem ggL_law_X4_minutes : GoodIn wsL_law wsX4_minutes := goodIn_r _ [435, 64, 59, 708, 709, 710, 711, 712, 713, 714, 715, 716, 717, 718, 719] (by decide +kernel) (by decide +kernel)
set_option maxRecDepth 20000 in
theorem gL_law_X4_minutes : GoodIn wsL_law (wsV RL 143 RX4 yX4_minutes wsX4_minutes) := goodIn_app (goodIn_of _ (by decide +kernel)) ggL_law_X4_minutes
set_option maxRecDepth 20000 in
theorem ggL_law_X3_sinceQuestion : GoodIn wsL_law wsX3_sinceQuestion := goodIn_r _ [439, 16, 440, 705, 706, 707, 720, 721, 722, 723, 724, 725, 726, 727, 728, 729, 730, 731] (by decide +kernel) (by decide +kernel)
set_option maxRecDepth 20000 in
theorem gL_law_X3_sinceQuestion : GoodIn wsL_law (wsV RL 144 RX3 yX3_sinceQuestion wsX3_sinceQuestion) := goodIn_app (goodIn_of _ (by decide +kernel)) ggL_law_X3_sinceQuestion
set_option maxRecDepth 20000 in
theorem ggL_law_X4_sinceQuestion : GoodIn wsL_law wsX4_sinceQuestion := goodIn_r _ [444, 64, 59, 708, 709, 710, 711, 712, 713, 714, 715, 716, 717, 718, 719] (by decide +kernel) (by decide +kernel)
set_option maxRecDepth 20000 in
theorem gL_law_X4_sinceQuestion : GoodIn wsL_law (wsV RL 147 RX4 yX4_sinceQuestion wsX4_sinceQuestion) := goodIn_app (goodIn_of _ (by decide +kernel)) ggL_law_X4_sinceQuestion
set_option maxRecDepth 20000 in
theorem ggL_law_L_count : GoodIn wsL_law wsL_count := goodIn_ca (goodIn_r _ [447, 69, 448, 449, 450, 2, 451, 81, 82, 16, 452, 705, 706, 707, 720, 721, 722, 723, 724, 725, 726, 727, 728, 729, 730, 731] (by decide +kernel) (by decide +kernel)) (goodIn_sub (fun _ h => List.mem_append_left _ (List.mem_append_right _ h)) (by decide +kernel))
set_option maxRecDepth 20000 in
theorem gL_law_L_count : GoodIn wsL_law (va_wsS RL 148 yL_count wsL_count) := goodIn_app (goodIn_of _ (by decide +kernel)) ggL_law_L_count
set_option maxRecDepth 20000 in
theorem ggL_law_X4_count : GoodIn wsL_law wsX4_count := goodIn_r _ [456, 64, 59, 120, 121, 5, 122, 123, 124, 125, 126, 708, 709, 710, 711, 712, 713, 714, 715, 716, 717, 718, 719] (by decide +kernel) (by decide +kernel)
set_option maxRecDepth 20000 in
theorem gL_law_X4_count : GoodIn wsL_law (wsV RL 150 RX4 yX4_count wsX4_count) := goodIn_app (goodIn_of _ (by decide +kernel)) ggL_law_X4_count
set_option maxRecDepth 20000 in
theorem ggL_law_X3_usefulShare : GoodIn wsL_law wsX3_usefulShare := goodIn_r _ [460, 16, 452, 705, 706, 707, 720, 721, 722, 723, 724, 725, 726, 727, 728, 729, 730, 731] (by decide +kernel) (by decide +kernel)
set_option maxRecDepth 20000 in
theorem gL_law_X3_usefulShare : GoodIn wsL_law (wsV RL 151 RX3 yX3_usefulShare wsX3_usefulShare) := goodIn_app (goodIn_of _ (by decide +kernel)) ggL_law_X3_usefulShare
set_option maxRecDepth 20000 in
theorem ggL_law_X4_usefulShare : GoodIn wsL_law wsX4_usefulShare := goodIn_r _ [464, 64, 59, 708, 709, 710, 711, 712, 713, 714, 715, 716, 717, 718, 719] (by decide +kernel) (by decide +kernel)
set_option maxRecDepth 20000 in
theorem gL_law_X4_usefulShare : GoodIn wsL_law (wsV RL 155 RX4 yX4_usefulShare wsX4_usefulShare) := goodIn_app (goodIn_of _ (by decide +kernel)) ggL_law_X4_usefulShare
set_option maxRecDepth 20000 in
theorem ggL_law_L_minutesToFade : GoodIn wsL_law wsL_minutesToFade := goodIn_ca (goodIn_r _ [467, 69, 468, 469, 470, 2, 471, 16, 78, 79, 80, 81, 82, 83, 84, 85, 86, 87, 88, 472, 473, 474, 15, 475, 30, 36, 476, 477, 478, 479, 40, 480, 481, 482, 483, 374, 375, 376, 377, 38, 378, 249, 250, 251, 35, 34, 166, 155, 156, 157, 29, 705, 706, 707, 720, 721, 722, 723, 724, 725, 726, 727, 728, 729, 730, 731] (by decide +kernel) (by decide +kernel)) (goodIn_sub (fun _ h => List.mem_append_left _ (List.mem_append_right _ h)) (by decide +kernel))
set_option maxRecDepth 20000 in
theorem gL_law_L_minutesToFade : GoodIn wsL_law (va_wsS RL 156 yL_minutesToFade wsL_minutesToFade) := goodIn_app (goodIn_of _ (by decide +kernel)) ggL_law_L_minutesToFade
set_option maxRecDepth 20000 in
theorem ggL_law_X4_minutesToFade : GoodIn wsL_law wsX4_minutesToFade := goodIn_r _ [487, 64, 117, 118, 5, 119, 120, 121, 122, 127, 128, 129, 488, 489, 490, 491, 59, 492, 493, 494, 495, 60, 391, 392, 393, 394, 395, 396, 397, 398, 256, 257, 258, 259, 139, 140, 141, 142, 496, 497, 498, 499, 123, 124, 125, 126, 708, 709, 710, 711, 712, 713, 714, 715, 716, 717, 718, 719] (by decide +kernel) (by decide +kernel)
set_option maxRecDepth 20000 in
theorem gL_law_X4_minutesToFade : GoodIn wsL_law (wsV RL 158 RX4 yX4_minutesToFade wsX4_minutesToFade) := goodIn_app (goodIn_of _ (by decide +kernel)) ggL_law_X4_minutesToFade
set_option maxRecDepth 20000 in
theorem ggL_law_X3_minutesToQuestion : GoodIn wsL_law wsX3_minutesToQuestion := goodIn_r _ [503, 16, 504, 477, 478, 15, 479, 40, 480, 481, 482, 483, 374, 375, 376, 377, 38, 378, 249, 250, 251, 35, 34, 705, 706, 707, 720, 721, 722, 723, 724, 725, 726, 727, 728, 729, 730, 731] (by decide +kernel) (by decide +kernel)
set_option maxRecDepth 20000 in
theorem gL_law_X3_minutesToQuestion : GoodIn wsL_law (wsV RL 159 RX3 yX3_minutesToQuestion wsX3_minutesToQuestion) := goodIn_app (goodIn_of _ (by decide +kernel)) ggL_law_X3_minutesToQuestion
set_option maxRecDepth 20000 in
theorem ggL_law_X4_minutesToQuestion : GoodIn wsL_law wsX4_minutesToQuestion := goodIn_r _ [508, 64, 509, 510, 511, 5, 512, 59, 395, 396, 397, 398, 256, 257, 258, 259, 708, 709, 710, 711, 712, 713, 714, 715, 716, 717, 718, 719] (by decide +kernel) (by decide +kernel)
set_option maxRecDepth 20000 in
theorem gL_law_X4_minutesToQuestion : GoodIn wsL_law (wsV RL 162 RX4 yX4_minutesToQuestion wsX4_minutesToQuestion) := goodIn_app (goodIn_of _ (by decide +kernel)) ggL_law_X4_minutesToQuestion
set_option maxRecDepth 20000 in
theorem ggL_law_L_disturbedAfter : GoodIn wsL_law wsL_disturbedAfter := goodIn_ca (goodIn_ca (goodIn_r _ [515, 69, 225, 516, 517, 518, 2, 519, 16, 83, 84, 85, 81, 82, 363, 364, 365, 230, 231, 520, 521, 522, 15, 523, 30, 87, 88, 166, 155, 156, 157, 29, 524, 202, 203, 204, 32, 705, 706, 707, 720, 721, 722, 723, 724, 725, 726, 727, 728, 729, 730, 731] (by decide +kernel) (by decide +kernel)) (goodIn_sub (fun _ h => List.mem_append_left _ (List.mem_append_right _ h)) (by decide +kernel))) (goodIn_sub (fun _ h => List.mem_append_right _ h) (by decide +kernel))
set_option maxRecDepth 20000 in
theorem gL_law_L_disturbedAfter : GoodIn wsL_law (va_wsS RL 163 yL_disturbedAfter wsL_disturbedAfter) := goodIn_app (goodIn_of _ (by decide +kernel)) ggL_law_L_disturbedAfter
set_option maxRecDepth 20000 in
theorem ggL_law_X4_disturbedAfter : GoodIn wsL_law wsX4_disturbedAfter := goodIn_r _ [528, 64, 322, 323, 5, 324, 120, 121, 122, 123, 124, 125, 126, 492, 493, 494, 495, 60, 59, 387, 388, 389, 390, 391, 392, 393, 394, 395, 396, 397, 398, 256, 257, 258, 259, 139, 140, 141, 142, 329, 330, 331, 332, 127, 128, 129, 352, 353, 354, 355, 496, 497, 498, 499, 708, 709, 710, 711, 712, 713, 714, 715, 716, 717, 718, 719] (by decide +kernel) (by decide +kernel)
set_option maxRecDepth 20000 in
theorem gL_law_X4_disturbedAfter : GoodIn wsL_law (wsV RL 165 RX4 yX4_disturbedAfter wsX4_disturbedAfter) := goodIn_app (goodIn_of _ (by decide +kernel)) ggL_law_X4_disturbedAfter
set_option maxRecDepth 20000 in
theorem ggL_law_L_append : GoodIn wsL_law wsL_append := goodIn_ca (goodIn_ca (goodIn_r _ [531, 225, 70, 532, 533, 534, 2, 535, 230, 231, 75, 76, 24, 536, 537, 538, 539, 23, 540, 54, 53, 705, 706, 707, 735, 736] (by decide +kernel) (by decide +kernel)) (goodIn_sub (fun _ h => List.mem_append_right _ h) (by decide +kernel))) (goodIn_sub (fun _ h => List.mem_append_left _ (List.mem_append_left _ (List.mem_append_right _ h))) (by decide +kernel))
set_option maxRecDepth 20000 in
theorem gL_law_L_append : GoodIn wsL_law (va_wsS RL 166 yL_append wsL_append) := goodIn_app (goodIn_of _ (by decide +kernel)) ggL_law_L_append
set_option maxRecDepth 20000 in
theorem ggL_law_X4_append : GoodIn wsL_law wsX4_append := goodIn_r _ [544, 64, 545, 62, 120, 121, 5, 122, 123, 124, 125, 126, 708, 709, 710, 711, 712, 713, 714, 715, 716, 717, 718, 719] (by decide +kernel) (by decide +kernel)
set_option maxRecDepth 20000 in
theorem gL_law_X4_append : GoodIn wsL_law (wsV RL 168 RX4 yX4_append wsX4_append) := goodIn_app (goodIn_of _ (by decide +kernel)) ggL_law_X4_append
set_option maxRecDepth 20000 in
theorem ggL_law_X3_clearText : GoodIn wsL_law wsX3_clearText := goodIn_r _ [549, 24, 536, 705, 706, 707, 735, 736] (by decide +kernel) (by decide +kernel)
set_option maxRecDepth 20000 in
theorem gL_law_X3_clearText : GoodIn wsL_law (wsV RL 169 RX3 yX3_clearText wsX3_clearText) := goodIn_app (goodIn_of _ (by decide +kernel)) ggL_law_X3_clearText
set_option maxRecDepth 20000 in
theorem ggL_law_X4_clearText : GoodIn wsL_law wsX4_clearText := goodIn_r _ [553, 64, 545, 708, 709, 710, 711, 712, 713, 714, 715, 716, 717, 718, 719] (by decide +kernel) (by decide +kernel)
set_option maxRecDepth 20000 in
theorem gL_law_X4_clearText : GoodIn wsL_law (wsV RL 172 RX4 yX4_clearText wsX4_clearText) := goodIn_app (goodIn_of _ (by decide +kernel)) ggL_law_X4_clearText
set_option maxRecDepth 20000 in
theorem ggL_law_X3_firstError : GoodIn wsL_law wsX3_firstError := goodIn_r _ [557, 24, 558, 559, 560, 23, 561, 54, 562, 563, 564, 565, 53, 566, 567, 568, 569, 570, 571, 572, 573, 574, 575, 576, 577, 578, 579, 580, 705, 706, 707, 735, 736] (by decide +kernel) (by decide +kernel)
set_option maxRecDepth 20000 in
theorem gL_law_X3_firstError : GoodIn wsL_law (wsV RL 173 RX3 yX3_firstError wsX3_firstError) := goodIn_app (goodIn_of _ (by decide +kernel)) ggL_law_X3_firstError
set_option maxRecDepth 20000 in
theorem ggL_law_X4_firstError : GoodIn wsL_law wsX4_firstError := goodIn_r _ [584, 64, 545, 585, 586, 587, 588, 5, 589, 590, 591, 592, 593, 594, 595, 63, 596, 597, 598, 599, 62, 600, 601, 602, 603, 604, 605, 606, 607, 120, 121, 122, 708, 709, 710, 711, 712, 713, 714, 715, 716, 717, 718, 719] (by decide +kernel) (by decide +kernel)
set_option maxRecDepth 20000 in
theorem gL_law_X4_firstError : GoodIn wsL_law (wsV RL 176 RX4 yX4_firstError wsX4_firstError) := goodIn_app (goodIn_of _ (by decide +kernel)) ggL_law_X4_firstError
set_option maxRecDepth 20000 in
theorem ggL_law_L_run : GoodIn wsL_law wsL_run := goodIn_ca (goodIn_r _ [610, 225, 611, 612, 613, 2, 614, 230, 231, 24, 20, 16, 536, 615, 616, 617, 23, 618, 54, 562, 563, 564, 565, 53, 566, 567, 568, 569, 570, 571, 572, 573, 574, 575, 576, 577, 578, 579, 580, 93, 94, 95, 19, 96, 48, 47, 46, 97, 98, 99, 15, 100, 29, 101, 102, 103, 104, 30, 31, 32, 33, 34, 35, 36, 37, 38, 39, 40, 619, 620, 621, 622, 623, 624, 625, 626, 627, 628, 629, 630, 631, 632, 633, 634, 635, 86, 87, 88, 636, 637, 638, 639, 89, 90, 91, 92, 105, 106, 107, 108, 109, 110, 111, 112, 640, 641, 642, 643, 154, 155, 156, 157, 158, 159, 160, 161, 162, 163, 164, 165, 166, 167, 168, 169, 170, 406, 407, 408, 409, 410, 315, 316, 317, 411, 341, 342, 343, 412, 413, 414, 415, 416, 417, 418, 644, 645, 646, 647, 648, 366, 367, 368, 369, 370, 371, 372, 373, 374, 375, 376, 377, 378, 249, 250, 251, 379, 380, 381, 382, 205, 206, 207, 208, 705, 706, 707, 735, 736, 732, 733, 734, 720, 721, 722, 723, 724, 725, 726, 727, 728, 729, 730, 731] (by decide +kernel) (by decide +kernel)) (goodIn_sub (fun _ h => List.mem_append_right _ h) (by decide +kernel))
set_option maxRecDepth 20000 in
theorem gL_law_L_run : GoodIn wsL_law (va_wsS RL 177 yL_run wsL_run) := goodIn_app (goodIn_of _ (by decide +kernel)) ggL_law_L_run
set_option maxRecDepth 20000 in
theorem ggL_law_X4_run : GoodIn wsL_law wsX4_run := goodIn_r _ [652, 64, 545, 590, 586, 587, 588, 5, 589, 585, 591, 592, 593, 594, 595, 63, 596, 597, 598, 599, 62, 600, 601, 602, 603, 604, 605, 606, 607, 120, 121, 122, 123, 124, 125, 126, 130, 131, 132, 133, 134, 61, 59, 653, 654, 655, 656, 127, 128, 129, 135, 136, 137, 138, 139, 140, 141, 142, 175, 176, 177, 178, 179, 180, 181, 182, 423, 424, 425, 426, 329, 330, 331, 332, 352, 353, 354, 355, 387, 388, 389, 390, 391, 392, 393, 394, 395, 396, 397, 398, 256, 257, 258, 259, 708, 709, 710, 711, 712, 713, 714, 715, 716, 717, 718, 719] (by decide +kernel) (by decide +kernel)
set_option maxRecDepth 20000 in
theorem gL_law_X4_run : GoodIn wsL_law (wsV RL 180 RX4 yX4_run wsX4_run) := goodIn_app (goodIn_of _ (by decide +kernel)) ggL_law_X4_run
set_option maxRecDepth 20000 in
theorem ggL_law_L_undo : GoodIn wsL_law wsL_undo := goodIn_ca (goodIn_r _ [659, 70, 660, 661, 662, 2, 663, 75, 76, 20, 664, 16, 665, 666, 667, 19, 668, 48, 46, 47, 97, 98, 99, 15, 100, 29, 101, 102, 103, 104, 30, 31, 32, 33, 34, 35, 36, 37, 38, 39, 40, 705, 706, 707, 732, 733, 734, 720, 721, 722, 723, 724, 725, 726, 727, 728, 729, 730, 731] (by decide +kernel) (by decide +kernel)) (goodIn_sub (fun _ h => List.mem_append_left _ (List.mem_append_left _ (List.mem_append_right _ h))) (by decide +kernel))
set_option maxRecDepth 20000 in
theorem gL_law_L_undo : GoodIn wsL_law (va_wsS RL 181 yL_undo wsL_undo) := goodIn_app (goodIn_of _ (by decide +kernel)) ggL_law_L_undo
set_option maxRecDepth 20000 in
theorem ggL_law_X4_undo : GoodIn wsL_law wsX4_undo := goodIn_r _ [672, 64, 134, 59, 61, 123, 124, 125, 5, 126, 708, 709, 710, 711, 712, 713, 714, 715, 716, 717, 718, 719] (by decide +kernel) (by decide +kernel)
set_option maxRecDepth 20000 in
theorem gL_law_X4_undo : GoodIn wsL_law (wsV RL 183 RX4 yX4_undo wsX4_undo) := goodIn_app (goodIn_of _ (by decide +kernel)) ggL_law_X4_undo
set_option maxRecDepth 20000 in
theorem ggL_law_X3_savedStates : GoodIn wsL_law wsX3_savedStates := goodIn_r _ [676, 20, 664, 705, 706, 707, 732, 733, 734] (by decide +kernel) (by decide +kernel)
set_option maxRecDepth 20000 in
theorem gL_law_X3_savedStates : GoodIn wsL_law (wsV RL 184 RX3 yX3_savedStates wsX3_savedStates) := goodIn_app (goodIn_of _ (by decide +kernel)) ggL_law_X3_savedStates
set_option maxRecDepth 20000 in
theorem ggL_law_X4_savedStates : GoodIn wsL_law wsX4_savedStates := goodIn_r _ [680, 64, 134, 708, 709, 710, 711, 712, 713, 714, 715, 716, 717, 718, 719] (by decide +kernel) (by decide +kernel)
set_option maxRecDepth 20000 in
theorem gL_law_X4_savedStates : GoodIn wsL_law (wsV RL 187 RX4 yX4_savedStates wsX4_savedStates) := goodIn_app (goodIn_of _ (by decide +kernel)) ggL_law_X4_savedStates
set_option maxRecDepth 20000 in
theorem ggL_law_X3_digest : GoodIn wsL_law wsX3_digest := goodIn_r _ [684, 685, 16, 431, 440, 452, 686, 687, 2, 688, 689, 248, 249, 250, 15, 251, 35, 34, 284, 285, 286, 287, 30, 504, 477, 478, 479, 40, 480, 481, 482, 483, 374, 375, 376, 377, 38, 378, 314, 315, 316, 317, 32, 87, 88, 340, 341, 342, 343, 166, 155, 156, 157, 29, 690, 691, 692, 693, 77, 275, 201, 202, 203, 204, 86, 472, 473, 474, 475, 36, 476, 705, 706, 707, 720, 721, 722, 723, 724, 725, 726, 727, 728, 729, 730, 731] (by decide +kernel) (by decide +kernel)
set_option maxRecDepth 20000 in
theorem gL_law_X3_digest : GoodIn wsL_law (wsV RL 188 RX3 yX3_digest wsX3_digest) := goodIn_app (goodIn_of _ (by decide +kernel)) ggL_law_X3_digest
set_option maxRecDepth 20000 in
theorem ggL_law_X4_digest : GoodIn wsL_law wsX4_digest := goodIn_r _ [697, 64, 698, 699, 59, 700, 701, 702, 5, 703, 704, 256, 257, 258, 259, 292, 293, 294, 295, 509, 510, 511, 512, 395, 396, 397, 398, 325, 326, 327, 328, 329, 330, 331, 332, 127, 128, 129, 348, 349, 350, 351, 352, 353, 354, 355, 488, 489, 490, 491, 492, 493, 494, 495, 60, 391, 392, 393, 394, 139, 140, 141, 142, 496, 497, 498, 499, 708, 709, 710, 711, 712, 713, 714, 715, 716, 717, 718, 719] (by decide +kernel) (by decide +kernel)
set_option maxRecDepth 20000 in
theorem gL_law_X4_digest : GoodIn wsL_law (wsV RL 192 RX4 yX4_digest wsX4_digest) := goodIn_app (goodIn_of _ (by decide +kernel)) ggL_law_X4_digest
theorem dL_law_0 : decode cL_law 0 = .ok (.new 8, 3) := by decide +kernel
theorem dL_law_3 : decode cL_law 3 = .ok (.dup, 1) := by decide +kernel
theorem dL_law_4 : decode cL_law 4 = .ok (.invokespecial 77, 3) := by decide +kernel
theorem dL_law_7 : decode cL_law 7 = .ok (.astore_n 1, 1) := by decide +kernel
theorem dL_law_8 : decode cL_law 8 = .ok (.new 78, 3) := by decide +kernel
theorem dL_law_11 : decode cL_law 11 = .ok (.dup, 1) := by decide +kernel
theorem dL_law_12 : decode cL_law 12 = .ok (.invokespecial 80, 3) := by decide +kernel
theorem dL_law_15 : decode cL_law 15 = .ok (.astore_n 2, 1) := by decide +kernel
theorem dL_law_16 : decode cL_law 16 = .ok (.iconst 1, 1) := by decide +kernel
theorem dL_law_17 : decode cL_law 17 = .ok (.newarray .long, 2) := by decide +kernel
theorem dL_law_19 : decode cL_law 19 = .ok (.astore_n 3, 1) := by decide +kernel
theorem dL_law_20 : decode cL_law 20 = .ok (.iconst 0, 1) := by decide +kernel
theorem dL_law_21 : decode cL_law 21 = .ok (.istore 4, 2) := by decide +kernel
theorem dL_law_23 : decode cL_law 23 = .ok (.iload 4, 2) := by decide +kernel
theorem dL_law_25 : decode cL_law 25 = .ok (.aload_n 0, 1) := by decide +kernel
theorem dL_law_26 : decode cL_law 26 = .ok (.arraylength, 1) := by decide +kernel
theorem dL_law_27 : decode cL_law 27 = .ok (.iconst 4, 1) := by decide +kernel
theorem dL_law_28 : decode cL_law 28 = .ok (.isub, 1) := by decide +kernel
theorem dL_law_29 : decode cL_law 29 = .ok (.if_icmp .gt 1523, 3) := by decide +kernel
theorem dL_law_32 : decode cL_law 32 = .ok (.aload_n 0, 1) := by decide +kernel
theorem dL_law_33 : decode cL_law 33 = .ok (.iload 4, 2) := by decide +kernel
theorem dL_law_35 : decode cL_law 35 = .ok (.iaload, 1) := by decide +kernel
theorem dL_law_36 : decode cL_law 36 = .ok (.bipush 31, 2) := by decide +kernel
theorem dL_law_38 : decode cL_law 38 = .ok (.iand, 1) := by decide +kernel
theorem dL_law_39 : decode cL_law 39 = .ok (.tableswitch 1507 0 28 #[129, 197, 293, 361, 452, 493, 573, 657, 670, 738, 751, 814, 870, 926, 982, 1038, 1051, 1064, 1120, 1161, 1229, 1242, 1310, 1366, 1379, 1392, 1436, 1480, 1493], 129) := by decide +kernel
theorem dL_law_168 : decode cL_law 168 = .ok (.aload_n 1, 1) := by decide +kernel
theorem dL_law_169 : decode cL_law 169 = .ok (.aload_n 0, 1) := by decide +kernel
theorem dL_law_170 : decode cL_law 170 = .ok (.iload 4, 2) := by decide +kernel
theorem dL_law_172 : decode cL_law 172 = .ok (.iconst 1, 1) := by decide +kernel
theorem dL_law_173 : decode cL_law 173 = .ok (.iadd, 1) := by decide +kernel
theorem dL_law_174 : decode cL_law 174 = .ok (.iaload, 1) := by decide +kernel
theorem dL_law_175 : decode cL_law 175 = .ok (.aload_n 0, 1) := by decide +kernel
theorem dL_law_176 : decode cL_law 176 = .ok (.iload 4, 2) := by decide +kernel
theorem dL_law_178 : decode cL_law 178 = .ok (.iconst 2, 1) := by decide +kernel
theorem dL_law_179 : decode cL_law 179 = .ok (.iadd, 1) := by decide +kernel
theorem dL_law_180 : decode cL_law 180 = .ok (.iaload, 1) := by decide +kernel
theorem dL_law_181 : decode cL_law 181 = .ok (.aload_n 3, 1) := by decide +kernel
theorem dL_law_182 : decode cL_law 182 = .ok (.invokestatic 81, 3) := by decide +kernel
theorem dL_law_185 : decode cL_law 185 = .ok (.istore 5, 2) := by decide +kernel
theorem dL_law_187 : decode cL_law 187 = .ok (.aload_n 2, 1) := by decide +kernel
theorem dL_law_188 : decode cL_law 188 = .ok (.aload_n 0, 1) := by decide +kernel
theorem dL_law_189 : decode cL_law 189 = .ok (.iload 4, 2) := by decide +kernel
theorem dL_law_191 : decode cL_law 191 = .ok (.iconst 1, 1) := by decide +kernel
theorem dL_law_192 : decode cL_law 192 = .ok (.iadd, 1) := by decide +kernel
theorem dL_law_193 : decode cL_law 193 = .ok (.iaload, 1) := by decide +kernel
theorem dL_law_194 : decode cL_law 194 = .ok (.aload_n 0, 1) := by decide +kernel
theorem dL_law_195 : decode cL_law 195 = .ok (.iload 4, 2) := by decide +kernel
theorem dL_law_197 : decode cL_law 197 = .ok (.iconst 2, 1) := by decide +kernel
theorem dL_law_198 : decode cL_law 198 = .ok (.iadd, 1) := by decide +kernel
theorem dL_law_199 : decode cL_law 199 = .ok (.iaload, 1) := by decide +kernel
theorem dL_law_200 : decode cL_law 200 = .ok (.invokevirtual 86, 3) := by decide +kernel
theorem dL_law_203 : decode cL_law 203 = .ok (.istore 6, 2) := by decide +kernel
theorem dL_law_205 : decode cL_law 205 = .ok (.aload_n 2, 1) := by decide +kernel
theorem dL_law_206 : decode cL_law 206 = .ok (.invokevirtual 87, 3) := by decide +kernel
theorem dL_law_209 : decode cL_law 209 = .ok (.iload 5, 2) := by decide +kernel
theorem dL_law_211 : decode cL_law 211 = .ok (.if_icmp .eq 5, 3) := by decide +kernel
theorem dL_law_214 : decode cL_law 214 = .ok (.iconst 0, 1) := by decide +kernel
theorem dL_law_215 : decode cL_law 215 = .ok (.ireturn, 1) := by decide +kernel
theorem dL_law_216 : decode cL_law 216 = .ok (.iload 5, 2) := by decide +kernel
theorem dL_law_218 : decode cL_law 218 = .ok (.ifCond .ne 15, 3) := by decide +kernel
theorem dL_law_221 : decode cL_law 221 = .ok (.aload_n 3, 1) := by decide +kernel
theorem dL_law_222 : decode cL_law 222 = .ok (.iconst 0, 1) := by decide +kernel
theorem dL_law_223 : decode cL_law 223 = .ok (.laload, 1) := by decide +kernel
theorem dL_law_224 : decode cL_law 224 = .ok (.iload 6, 2) := by decide +kernel
theorem dL_law_226 : decode cL_law 226 = .ok (.i2l, 1) := by decide +kernel
theorem dL_law_227 : decode cL_law 227 = .ok (.lcmp, 1) := by decide +kernel
theorem dL_law_228 : decode cL_law 228 = .ok (.ifCond .eq 5, 3) := by decide +kernel
theorem dL_law_231 : decode cL_law 231 = .ok (.iconst 0, 1) := by decide +kernel
theorem dL_law_232 : decode cL_law 232 = .ok (.ireturn, 1) := by decide +kernel
theorem dL_law_233 : decode cL_law 233 = .ok (.goto 1313, 3) := by decide +kernel
theorem dL_law_236 : decode cL_law 236 = .ok (.aload_n 1, 1) := by decide +kernel
theorem dL_law_237 : decode cL_law 237 = .ok (.aload_n 0, 1) := by decide +kernel
theorem dL_law_238 : decode cL_law 238 = .ok (.iload 4, 2) := by decide +kernel
theorem dL_law_240 : decode cL_law 240 = .ok (.iconst 1, 1) := by decide +kernel
theorem dL_law_241 : decode cL_law 241 = .ok (.iadd, 1) := by decide +kernel
theorem dL_law_242 : decode cL_law 242 = .ok (.iaload, 1) := by decide +kernel
theorem dL_law_243 : decode cL_law 243 = .ok (.aload_n 0, 1) := by decide +kernel
theorem dL_law_244 : decode cL_law 244 = .ok (.iload 4, 2) := by decide +kernel
theorem dL_law_246 : decode cL_law 246 = .ok (.iconst 2, 1) := by decide +kernel
theorem dL_law_247 : decode cL_law 247 = .ok (.iadd, 1) := by decide +kernel
theorem dL_law_248 : decode cL_law 248 = .ok (.iaload, 1) := by decide +kernel
theorem dL_law_249 : decode cL_law 249 = .ok (.aload_n 0, 1) := by decide +kernel
theorem dL_law_250 : decode cL_law 250 = .ok (.iload 4, 2) := by decide +kernel
theorem dL_law_252 : decode cL_law 252 = .ok (.iconst 3, 1) := by decide +kernel
theorem dL_law_253 : decode cL_law 253 = .ok (.iadd, 1) := by decide +kernel
theorem dL_law_254 : decode cL_law 254 = .ok (.iaload, 1) := by decide +kernel
theorem dL_law_255 : decode cL_law 255 = .ok (.ifCond .eq 7, 3) := by decide +kernel
theorem dL_law_258 : decode cL_law 258 = .ok (.iconst 1, 1) := by decide +kernel
theorem dL_law_259 : decode cL_law 259 = .ok (.goto 4, 3) := by decide +kernel
theorem dL_law_262 : decode cL_law 262 = .ok (.iconst 0, 1) := by decide +kernel
theorem dL_law_263 : decode cL_law 263 = .ok (.aload_n 3, 1) := by decide +kernel
theorem dL_law_264 : decode cL_law 264 = .ok (.invokestatic 90, 3) := by decide +kernel
theorem dL_law_267 : decode cL_law 267 = .ok (.istore 5, 2) := by decide +kernel
theorem dL_law_269 : decode cL_law 269 = .ok (.aload_n 2, 1) := by decide +kernel
theorem dL_law_270 : decode cL_law 270 = .ok (.aload_n 0, 1) := by decide +kernel
theorem dL_law_271 : decode cL_law 271 = .ok (.iload 4, 2) := by decide +kernel
theorem dL_law_273 : decode cL_law 273 = .ok (.iconst 1, 1) := by decide +kernel
theorem dL_law_274 : decode cL_law 274 = .ok (.iadd, 1) := by decide +kernel
theorem dL_law_275 : decode cL_law 275 = .ok (.iaload, 1) := by decide +kernel
theorem dL_law_276 : decode cL_law 276 = .ok (.aload_n 0, 1) := by decide +kernel
theorem dL_law_277 : decode cL_law 277 = .ok (.iload 4, 2) := by decide +kernel
theorem dL_law_279 : decode cL_law 279 = .ok (.iconst 2, 1) := by decide +kernel
theorem dL_law_280 : decode cL_law 280 = .ok (.iadd, 1) := by decide +kernel
theorem dL_law_281 : decode cL_law 281 = .ok (.iaload, 1) := by decide +kernel
theorem dL_law_282 : decode cL_law 282 = .ok (.aload_n 0, 1) := by decide +kernel
theorem dL_law_283 : decode cL_law 283 = .ok (.iload 4, 2) := by decide +kernel
theorem dL_law_285 : decode cL_law 285 = .ok (.iconst 3, 1) := by decide +kernel
theorem dL_law_286 : decode cL_law 286 = .ok (.iadd, 1) := by decide +kernel
theorem dL_law_287 : decode cL_law 287 = .ok (.iaload, 1) := by decide +kernel
theorem dL_law_288 : decode cL_law 288 = .ok (.ifCond .eq 7, 3) := by decide +kernel
theorem dL_law_291 : decode cL_law 291 = .ok (.iconst 1, 1) := by decide +kernel
theorem dL_law_292 : decode cL_law 292 = .ok (.goto 4, 3) := by decide +kernel
theorem dL_law_295 : decode cL_law 295 = .ok (.iconst 0, 1) := by decide +kernel
theorem dL_law_296 : decode cL_law 296 = .ok (.invokevirtual 93, 3) := by decide +kernel
theorem dL_law_299 : decode cL_law 299 = .ok (.istore 6, 2) := by decide +kernel
theorem dL_law_301 : decode cL_law 301 = .ok (.aload_n 2, 1) := by decide +kernel
theorem dL_law_302 : decode cL_law 302 = .ok (.invokevirtual 87, 3) := by decide +kernel
theorem dL_law_305 : decode cL_law 305 = .ok (.iload 5, 2) := by decide +kernel
theorem dL_law_307 : decode cL_law 307 = .ok (.if_icmp .eq 5, 3) := by decide +kernel
theorem dL_law_310 : decode cL_law 310 = .ok (.iconst 0, 1) := by decide +kernel
theorem dL_law_311 : decode cL_law 311 = .ok (.ireturn, 1) := by decide +kernel
theorem dL_law_312 : decode cL_law 312 = .ok (.iload 5, 2) := by decide +kernel
theorem dL_law_314 : decode cL_law 314 = .ok (.ifCond .ne 15, 3) := by decide +kernel
theorem dL_law_317 : decode cL_law 317 = .ok (.aload_n 3, 1) := by decide +kernel
theorem dL_law_318 : decode cL_law 318 = .ok (.iconst 0, 1) := by decide +kernel
theorem dL_law_319 : decode cL_law 319 = .ok (.laload, 1) := by decide +kernel
theorem dL_law_320 : decode cL_law 320 = .ok (.iload 6, 2) := by decide +kernel
theorem dL_law_322 : decode cL_law 322 = .ok (.i2l, 1) := by decide +kernel
theorem dL_law_323 : decode cL_law 323 = .ok (.lcmp, 1) := by decide +kernel
theorem dL_law_324 : decode cL_law 324 = .ok (.ifCond .eq 5, 3) := by decide +kernel
theorem dL_law_327 : decode cL_law 327 = .ok (.iconst 0, 1) := by decide +kernel
theorem dL_law_328 : decode cL_law 328 = .ok (.ireturn, 1) := by decide +kernel
theorem dL_law_329 : decode cL_law 329 = .ok (.goto 1217, 3) := by decide +kernel
theorem dL_law_332 : decode cL_law 332 = .ok (.aload_n 1, 1) := by decide +kernel
theorem dL_law_333 : decode cL_law 333 = .ok (.aload_n 0, 1) := by decide +kernel
theorem dL_law_334 : decode cL_law 334 = .ok (.iload 4, 2) := by decide +kernel
theorem dL_law_336 : decode cL_law 336 = .ok (.iconst 1, 1) := by decide +kernel
theorem dL_law_337 : decode cL_law 337 = .ok (.iadd, 1) := by decide +kernel
theorem dL_law_338 : decode cL_law 338 = .ok (.iaload, 1) := by decide +kernel
theorem dL_law_339 : decode cL_law 339 = .ok (.aload_n 0, 1) := by decide +kernel
theorem dL_law_340 : decode cL_law 340 = .ok (.iload 4, 2) := by decide +kernel
theorem dL_law_342 : decode cL_law 342 = .ok (.iconst 2, 1) := by decide +kernel
theorem dL_law_343 : decode cL_law 343 = .ok (.iadd, 1) := by decide +kernel
theorem dL_law_344 : decode cL_law 344 = .ok (.iaload, 1) := by decide +kernel
theorem dL_law_345 : decode cL_law 345 = .ok (.aload_n 3, 1) := by decide +kernel
theorem dL_law_346 : decode cL_law 346 = .ok (.invokestatic 94, 3) := by decide +kernel
theorem dL_law_349 : decode cL_law 349 = .ok (.istore 5, 2) := by decide +kernel
theorem dL_law_351 : decode cL_law 351 = .ok (.aload_n 2, 1) := by decide +kernel
theorem dL_law_352 : decode cL_law 352 = .ok (.aload_n 0, 1) := by decide +kernel
theorem dL_law_353 : decode cL_law 353 = .ok (.iload 4, 2) := by decide +kernel
theorem dL_law_355 : decode cL_law 355 = .ok (.iconst 1, 1) := by decide +kernel
theorem dL_law_356 : decode cL_law 356 = .ok (.iadd, 1) := by decide +kernel
theorem dL_law_357 : decode cL_law 357 = .ok (.iaload, 1) := by decide +kernel
theorem dL_law_358 : decode cL_law 358 = .ok (.aload_n 0, 1) := by decide +kernel
theorem dL_law_359 : decode cL_law 359 = .ok (.iload 4, 2) := by decide +kernel
theorem dL_law_361 : decode cL_law 361 = .ok (.iconst 2, 1) := by decide +kernel
theorem dL_law_362 : decode cL_law 362 = .ok (.iadd, 1) := by decide +kernel
theorem dL_law_363 : decode cL_law 363 = .ok (.iaload, 1) := by decide +kernel
theorem dL_law_364 : decode cL_law 364 = .ok (.invokevirtual 96, 3) := by decide +kernel
theorem dL_law_367 : decode cL_law 367 = .ok (.istore 6, 2) := by decide +kernel
theorem dL_law_369 : decode cL_law 369 = .ok (.aload_n 2, 1) := by decide +kernel
theorem dL_law_370 : decode cL_law 370 = .ok (.invokevirtual 87, 3) := by decide +kernel
theorem dL_law_373 : decode cL_law 373 = .ok (.iload 5, 2) := by decide +kernel
theorem dL_law_375 : decode cL_law 375 = .ok (.if_icmp .eq 5, 3) := by decide +kernel
theorem dL_law_378 : decode cL_law 378 = .ok (.iconst 0, 1) := by decide +kernel
theorem dL_law_379 : decode cL_law 379 = .ok (.ireturn, 1) := by decide +kernel
theorem dL_law_380 : decode cL_law 380 = .ok (.iload 5, 2) := by decide +kernel
theorem dL_law_382 : decode cL_law 382 = .ok (.ifCond .ne 15, 3) := by decide +kernel
theorem dL_law_385 : decode cL_law 385 = .ok (.aload_n 3, 1) := by decide +kernel
theorem dL_law_386 : decode cL_law 386 = .ok (.iconst 0, 1) := by decide +kernel
theorem dL_law_387 : decode cL_law 387 = .ok (.laload, 1) := by decide +kernel
theorem dL_law_388 : decode cL_law 388 = .ok (.iload 6, 2) := by decide +kernel
theorem dL_law_390 : decode cL_law 390 = .ok (.i2l, 1) := by decide +kernel
theorem dL_law_391 : decode cL_law 391 = .ok (.lcmp, 1) := by decide +kernel
theorem dL_law_392 : decode cL_law 392 = .ok (.ifCond .eq 5, 3) := by decide +kernel
theorem dL_law_395 : decode cL_law 395 = .ok (.iconst 0, 1) := by decide +kernel
theorem dL_law_396 : decode cL_law 396 = .ok (.ireturn, 1) := by decide +kernel
theorem dL_law_397 : decode cL_law 397 = .ok (.goto 1149, 3) := by decide +kernel
theorem dL_law_400 : decode cL_law 400 = .ok (.aload_n 1, 1) := by decide +kernel
theorem dL_law_401 : decode cL_law 401 = .ok (.aload_n 0, 1) := by decide +kernel
theorem dL_law_402 : decode cL_law 402 = .ok (.iload 4, 2) := by decide +kernel
theorem dL_law_404 : decode cL_law 404 = .ok (.iconst 1, 1) := by decide +kernel
theorem dL_law_405 : decode cL_law 405 = .ok (.iadd, 1) := by decide +kernel
theorem dL_law_406 : decode cL_law 406 = .ok (.iaload, 1) := by decide +kernel
theorem dL_law_407 : decode cL_law 407 = .ok (.aload_n 0, 1) := by decide +kernel
theorem dL_law_408 : decode cL_law 408 = .ok (.iload 4, 2) := by decide +kernel
theorem dL_law_410 : decode cL_law 410 = .ok (.iconst 2, 1) := by decide +kernel
theorem dL_law_411 : decode cL_law 411 = .ok (.iadd, 1) := by decide +kernel
theorem dL_law_412 : decode cL_law 412 = .ok (.iaload, 1) := by decide +kernel
theorem dL_law_413 : decode cL_law 413 = .ok (.ifCond .eq 7, 3) := by decide +kernel
theorem dL_law_416 : decode cL_law 416 = .ok (.iconst 1, 1) := by decide +kernel
theorem dL_law_417 : decode cL_law 417 = .ok (.goto 4, 3) := by decide +kernel
theorem dL_law_420 : decode cL_law 420 = .ok (.iconst 0, 1) := by decide +kernel
theorem dL_law_421 : decode cL_law 421 = .ok (.aload_n 3, 1) := by decide +kernel
theorem dL_law_422 : decode cL_law 422 = .ok (.invokestatic 97, 3) := by decide +kernel
theorem dL_law_425 : decode cL_law 425 = .ok (.istore 5, 2) := by decide +kernel
theorem dL_law_427 : decode cL_law 427 = .ok (.aload_n 2, 1) := by decide +kernel
theorem dL_law_428 : decode cL_law 428 = .ok (.aload_n 0, 1) := by decide +kernel
theorem dL_law_429 : decode cL_law 429 = .ok (.iload 4, 2) := by decide +kernel
theorem dL_law_431 : decode cL_law 431 = .ok (.iconst 1, 1) := by decide +kernel
theorem dL_law_432 : decode cL_law 432 = .ok (.iadd, 1) := by decide +kernel
theorem dL_law_433 : decode cL_law 433 = .ok (.iaload, 1) := by decide +kernel
theorem dL_law_434 : decode cL_law 434 = .ok (.aload_n 0, 1) := by decide +kernel
theorem dL_law_435 : decode cL_law 435 = .ok (.iload 4, 2) := by decide +kernel
theorem dL_law_437 : decode cL_law 437 = .ok (.iconst 2, 1) := by decide +kernel
theorem dL_law_438 : decode cL_law 438 = .ok (.iadd, 1) := by decide +kernel
theorem dL_law_439 : decode cL_law 439 = .ok (.iaload, 1) := by decide +kernel
theorem dL_law_440 : decode cL_law 440 = .ok (.ifCond .eq 7, 3) := by decide +kernel
theorem dL_law_443 : decode cL_law 443 = .ok (.iconst 1, 1) := by decide +kernel
theorem dL_law_444 : decode cL_law 444 = .ok (.goto 4, 3) := by decide +kernel
theorem dL_law_447 : decode cL_law 447 = .ok (.iconst 0, 1) := by decide +kernel
theorem dL_law_448 : decode cL_law 448 = .ok (.invokevirtual 100, 3) := by decide +kernel
theorem dL_law_451 : decode cL_law 451 = .ok (.istore 6, 2) := by decide +kernel
theorem dL_law_453 : decode cL_law 453 = .ok (.aload_n 2, 1) := by decide +kernel
theorem dL_law_454 : decode cL_law 454 = .ok (.invokevirtual 87, 3) := by decide +kernel
theorem dL_law_457 : decode cL_law 457 = .ok (.iload 5, 2) := by decide +kernel
theorem dL_law_459 : decode cL_law 459 = .ok (.if_icmp .eq 5, 3) := by decide +kernel
theorem dL_law_462 : decode cL_law 462 = .ok (.iconst 0, 1) := by decide +kernel
theorem dL_law_463 : decode cL_law 463 = .ok (.ireturn, 1) := by decide +kernel
theorem dL_law_464 : decode cL_law 464 = .ok (.iload 5, 2) := by decide +kernel
theorem dL_law_466 : decode cL_law 466 = .ok (.ifCond .ne 22, 3) := by decide +kernel
theorem dL_law_469 : decode cL_law 469 = .ok (.aload_n 3, 1) := by decide +kernel
theorem dL_law_470 : decode cL_law 470 = .ok (.iconst 0, 1) := by decide +kernel
theorem dL_law_471 : decode cL_law 471 = .ok (.laload, 1) := by decide +kernel
theorem dL_law_472 : decode cL_law 472 = .ok (.iload 6, 2) := by decide +kernel
theorem dL_law_474 : decode cL_law 474 = .ok (.ifCond .eq 7, 3) := by decide +kernel
theorem dL_law_477 : decode cL_law 477 = .ok (.lconst 1, 1) := by decide +kernel
theorem dL_law_478 : decode cL_law 478 = .ok (.goto 4, 3) := by decide +kernel
theorem dL_law_481 : decode cL_law 481 = .ok (.lconst 0, 1) := by decide +kernel
theorem dL_law_482 : decode cL_law 482 = .ok (.lcmp, 1) := by decide +kernel
theorem dL_law_483 : decode cL_law 483 = .ok (.ifCond .eq 5, 3) := by decide +kernel
theorem dL_law_486 : decode cL_law 486 = .ok (.iconst 0, 1) := by decide +kernel
theorem dL_law_487 : decode cL_law 487 = .ok (.ireturn, 1) := by decide +kernel
theorem dL_law_488 : decode cL_law 488 = .ok (.goto 1058, 3) := by decide +kernel
theorem dL_law_491 : decode cL_law 491 = .ok (.aload_n 1, 1) := by decide +kernel
theorem dL_law_492 : decode cL_law 492 = .ok (.aload_n 0, 1) := by decide +kernel
theorem dL_law_493 : decode cL_law 493 = .ok (.iload 4, 2) := by decide +kernel
theorem dL_law_495 : decode cL_law 495 = .ok (.iconst 1, 1) := by decide +kernel
theorem dL_law_496 : decode cL_law 496 = .ok (.iadd, 1) := by decide +kernel
theorem dL_law_497 : decode cL_law 497 = .ok (.iaload, 1) := by decide +kernel
theorem dL_law_498 : decode cL_law 498 = .ok (.ifCond .eq 7, 3) := by decide +kernel
theorem dL_law_501 : decode cL_law 501 = .ok (.iconst 1, 1) := by decide +kernel
theorem dL_law_502 : decode cL_law 502 = .ok (.goto 4, 3) := by decide +kernel
theorem dL_law_505 : decode cL_law 505 = .ok (.iconst 0, 1) := by decide +kernel
theorem dL_law_506 : decode cL_law 506 = .ok (.invokevirtual 101, 3) := by decide +kernel
theorem dL_law_509 : decode cL_law 509 = .ok (.aload_n 2, 1) := by decide +kernel
theorem dL_law_510 : decode cL_law 510 = .ok (.aload_n 0, 1) := by decide +kernel
theorem dL_law_511 : decode cL_law 511 = .ok (.iload 4, 2) := by decide +kernel
theorem dL_law_513 : decode cL_law 513 = .ok (.iconst 1, 1) := by decide +kernel
theorem dL_law_514 : decode cL_law 514 = .ok (.iadd, 1) := by decide +kernel
theorem dL_law_515 : decode cL_law 515 = .ok (.iaload, 1) := by decide +kernel
theorem dL_law_516 : decode cL_law 516 = .ok (.ifCond .eq 7, 3) := by decide +kernel
theorem dL_law_519 : decode cL_law 519 = .ok (.iconst 1, 1) := by decide +kernel
theorem dL_law_520 : decode cL_law 520 = .ok (.goto 4, 3) := by decide +kernel
theorem dL_law_523 : decode cL_law 523 = .ok (.iconst 0, 1) := by decide +kernel
theorem dL_law_524 : decode cL_law 524 = .ok (.invokevirtual 105, 3) := by decide +kernel
theorem dL_law_527 : decode cL_law 527 = .ok (.if_icmp .eq 1019, 3) := by decide +kernel
theorem dL_law_530 : decode cL_law 530 = .ok (.iconst 0, 1) := by decide +kernel
theorem dL_law_531 : decode cL_law 531 = .ok (.ireturn, 1) := by decide +kernel
theorem dL_law_532 : decode cL_law 532 = .ok (.aload_n 1, 1) := by decide +kernel
theorem dL_law_533 : decode cL_law 533 = .ok (.aload_n 0, 1) := by decide +kernel
theorem dL_law_534 : decode cL_law 534 = .ok (.iload 4, 2) := by decide +kernel
theorem dL_law_536 : decode cL_law 536 = .ok (.iconst 1, 1) := by decide +kernel
theorem dL_law_537 : decode cL_law 537 = .ok (.iadd, 1) := by decide +kernel
theorem dL_law_538 : decode cL_law 538 = .ok (.iaload, 1) := by decide +kernel
theorem dL_law_539 : decode cL_law 539 = .ok (.aload_n 0, 1) := by decide +kernel
theorem dL_law_540 : decode cL_law 540 = .ok (.iload 4, 2) := by decide +kernel
theorem dL_law_542 : decode cL_law 542 = .ok (.iconst 2, 1) := by decide +kernel
theorem dL_law_543 : decode cL_law 543 = .ok (.iadd, 1) := by decide +kernel
theorem dL_law_544 : decode cL_law 544 = .ok (.iaload, 1) := by decide +kernel
theorem dL_law_545 : decode cL_law 545 = .ok (.aload_n 0, 1) := by decide +kernel
theorem dL_law_546 : decode cL_law 546 = .ok (.iload 4, 2) := by decide +kernel
theorem dL_law_548 : decode cL_law 548 = .ok (.iconst 3, 1) := by decide +kernel
theorem dL_law_549 : decode cL_law 549 = .ok (.iadd, 1) := by decide +kernel
theorem dL_law_550 : decode cL_law 550 = .ok (.iaload, 1) := by decide +kernel
theorem dL_law_551 : decode cL_law 551 = .ok (.aload_n 3, 1) := by decide +kernel
theorem dL_law_552 : decode cL_law 552 = .ok (.invokestatic 106, 3) := by decide +kernel
theorem dL_law_555 : decode cL_law 555 = .ok (.istore 5, 2) := by decide +kernel
theorem dL_law_557 : decode cL_law 557 = .ok (.aload_n 2, 1) := by decide +kernel
theorem dL_law_558 : decode cL_law 558 = .ok (.aload_n 0, 1) := by decide +kernel
theorem dL_law_559 : decode cL_law 559 = .ok (.iload 4, 2) := by decide +kernel
theorem dL_law_561 : decode cL_law 561 = .ok (.iconst 1, 1) := by decide +kernel
theorem dL_law_562 : decode cL_law 562 = .ok (.iadd, 1) := by decide +kernel
theorem dL_law_563 : decode cL_law 563 = .ok (.iaload, 1) := by decide +kernel
theorem dL_law_564 : decode cL_law 564 = .ok (.aload_n 0, 1) := by decide +kernel
theorem dL_law_565 : decode cL_law 565 = .ok (.iload 4, 2) := by decide +kernel
theorem dL_law_567 : decode cL_law 567 = .ok (.iconst 2, 1) := by decide +kernel
theorem dL_law_568 : decode cL_law 568 = .ok (.iadd, 1) := by decide +kernel
theorem dL_law_569 : decode cL_law 569 = .ok (.iaload, 1) := by decide +kernel
theorem dL_law_570 : decode cL_law 570 = .ok (.aload_n 0, 1) := by decide +kernel
theorem dL_law_571 : decode cL_law 571 = .ok (.iload 4, 2) := by decide +kernel
theorem dL_law_573 : decode cL_law 573 = .ok (.iconst 3, 1) := by decide +kernel
theorem dL_law_574 : decode cL_law 574 = .ok (.iadd, 1) := by decide +kernel
theorem dL_law_575 : decode cL_law 575 = .ok (.iaload, 1) := by decide +kernel
theorem dL_law_576 : decode cL_law 576 = .ok (.invokevirtual 109, 3) := by decide +kernel
theorem dL_law_579 : decode cL_law 579 = .ok (.istore 6, 2) := by decide +kernel
theorem dL_law_581 : decode cL_law 581 = .ok (.aload_n 2, 1) := by decide +kernel
theorem dL_law_582 : decode cL_law 582 = .ok (.invokevirtual 87, 3) := by decide +kernel
theorem dL_law_585 : decode cL_law 585 = .ok (.iload 5, 2) := by decide +kernel
theorem dL_law_587 : decode cL_law 587 = .ok (.if_icmp .eq 5, 3) := by decide +kernel
theorem dL_law_590 : decode cL_law 590 = .ok (.iconst 0, 1) := by decide +kernel
theorem dL_law_591 : decode cL_law 591 = .ok (.ireturn, 1) := by decide +kernel
theorem dL_law_592 : decode cL_law 592 = .ok (.iload 5, 2) := by decide +kernel
theorem dL_law_594 : decode cL_law 594 = .ok (.ifCond .ne 15, 3) := by decide +kernel
theorem dL_law_597 : decode cL_law 597 = .ok (.aload_n 3, 1) := by decide +kernel
theorem dL_law_598 : decode cL_law 598 = .ok (.iconst 0, 1) := by decide +kernel
theorem dL_law_599 : decode cL_law 599 = .ok (.laload, 1) := by decide +kernel
theorem dL_law_600 : decode cL_law 600 = .ok (.iload 6, 2) := by decide +kernel
theorem dL_law_602 : decode cL_law 602 = .ok (.i2l, 1) := by decide +kernel
theorem dL_law_603 : decode cL_law 603 = .ok (.lcmp, 1) := by decide +kernel
theorem dL_law_604 : decode cL_law 604 = .ok (.ifCond .eq 5, 3) := by decide +kernel
theorem dL_law_607 : decode cL_law 607 = .ok (.iconst 0, 1) := by decide +kernel
theorem dL_law_608 : decode cL_law 608 = .ok (.ireturn, 1) := by decide +kernel
theorem dL_law_609 : decode cL_law 609 = .ok (.goto 937, 3) := by decide +kernel
theorem dL_law_612 : decode cL_law 612 = .ok (.aload_n 1, 1) := by decide +kernel
theorem dL_law_613 : decode cL_law 613 = .ok (.aload_n 0, 1) := by decide +kernel
theorem dL_law_614 : decode cL_law 614 = .ok (.iload 4, 2) := by decide +kernel
theorem dL_law_616 : decode cL_law 616 = .ok (.iconst 1, 1) := by decide +kernel
theorem dL_law_617 : decode cL_law 617 = .ok (.iadd, 1) := by decide +kernel
theorem dL_law_618 : decode cL_law 618 = .ok (.iaload, 1) := by decide +kernel
theorem dL_law_619 : decode cL_law 619 = .ok (.aload_n 0, 1) := by decide +kernel
theorem dL_law_620 : decode cL_law 620 = .ok (.iload 4, 2) := by decide +kernel
theorem dL_law_622 : decode cL_law 622 = .ok (.iconst 2, 1) := by decide +kernel
theorem dL_law_623 : decode cL_law 623 = .ok (.iadd, 1) := by decide +kernel
theorem dL_law_624 : decode cL_law 624 = .ok (.iaload, 1) := by decide +kernel
theorem dL_law_625 : decode cL_law 625 = .ok (.ifCond .eq 7, 3) := by decide +kernel
theorem dL_law_628 : decode cL_law 628 = .ok (.iconst 1, 1) := by decide +kernel
theorem dL_law_629 : decode cL_law 629 = .ok (.goto 4, 3) := by decide +kernel
theorem dL_law_632 : decode cL_law 632 = .ok (.iconst 0, 1) := by decide +kernel
theorem dL_law_633 : decode cL_law 633 = .ok (.aload_n 3, 1) := by decide +kernel
theorem dL_law_634 : decode cL_law 634 = .ok (.invokestatic 110, 3) := by decide +kernel
theorem dL_law_637 : decode cL_law 637 = .ok (.istore 5, 2) := by decide +kernel
theorem dL_law_639 : decode cL_law 639 = .ok (.aload_n 2, 1) := by decide +kernel
theorem dL_law_640 : decode cL_law 640 = .ok (.aload_n 0, 1) := by decide +kernel
theorem dL_law_641 : decode cL_law 641 = .ok (.iload 4, 2) := by decide +kernel
theorem dL_law_643 : decode cL_law 643 = .ok (.iconst 1, 1) := by decide +kernel
theorem dL_law_644 : decode cL_law 644 = .ok (.iadd, 1) := by decide +kernel
theorem dL_law_645 : decode cL_law 645 = .ok (.iaload, 1) := by decide +kernel
theorem dL_law_646 : decode cL_law 646 = .ok (.aload_n 0, 1) := by decide +kernel
theorem dL_law_647 : decode cL_law 647 = .ok (.iload 4, 2) := by decide +kernel
theorem dL_law_649 : decode cL_law 649 = .ok (.iconst 2, 1) := by decide +kernel
theorem dL_law_650 : decode cL_law 650 = .ok (.iadd, 1) := by decide +kernel
theorem dL_law_651 : decode cL_law 651 = .ok (.iaload, 1) := by decide +kernel
theorem dL_law_652 : decode cL_law 652 = .ok (.ifCond .eq 7, 3) := by decide +kernel
theorem dL_law_655 : decode cL_law 655 = .ok (.iconst 1, 1) := by decide +kernel
theorem dL_law_656 : decode cL_law 656 = .ok (.goto 4, 3) := by decide +kernel
theorem dL_law_659 : decode cL_law 659 = .ok (.iconst 0, 1) := by decide +kernel
theorem dL_law_660 : decode cL_law 660 = .ok (.invokevirtual 112, 3) := by decide +kernel
theorem dL_law_663 : decode cL_law 663 = .ok (.istore 6, 2) := by decide +kernel
theorem dL_law_665 : decode cL_law 665 = .ok (.aload_n 2, 1) := by decide +kernel
theorem dL_law_666 : decode cL_law 666 = .ok (.invokevirtual 87, 3) := by decide +kernel
theorem dL_law_669 : decode cL_law 669 = .ok (.iload 5, 2) := by decide +kernel
theorem dL_law_671 : decode cL_law 671 = .ok (.if_icmp .eq 5, 3) := by decide +kernel
theorem dL_law_674 : decode cL_law 674 = .ok (.iconst 0, 1) := by decide +kernel
theorem dL_law_675 : decode cL_law 675 = .ok (.ireturn, 1) := by decide +kernel
theorem dL_law_676 : decode cL_law 676 = .ok (.iload 5, 2) := by decide +kernel
theorem dL_law_678 : decode cL_law 678 = .ok (.ifCond .ne 15, 3) := by decide +kernel
theorem dL_law_681 : decode cL_law 681 = .ok (.aload_n 3, 1) := by decide +kernel
theorem dL_law_682 : decode cL_law 682 = .ok (.iconst 0, 1) := by decide +kernel
theorem dL_law_683 : decode cL_law 683 = .ok (.laload, 1) := by decide +kernel
theorem dL_law_684 : decode cL_law 684 = .ok (.iload 6, 2) := by decide +kernel
theorem dL_law_686 : decode cL_law 686 = .ok (.i2l, 1) := by decide +kernel
theorem dL_law_687 : decode cL_law 687 = .ok (.lcmp, 1) := by decide +kernel
theorem dL_law_688 : decode cL_law 688 = .ok (.ifCond .eq 5, 3) := by decide +kernel
theorem dL_law_691 : decode cL_law 691 = .ok (.iconst 0, 1) := by decide +kernel
theorem dL_law_692 : decode cL_law 692 = .ok (.ireturn, 1) := by decide +kernel
theorem dL_law_693 : decode cL_law 693 = .ok (.goto 853, 3) := by decide +kernel
theorem dL_law_696 : decode cL_law 696 = .ok (.aload_n 1, 1) := by decide +kernel
theorem dL_law_697 : decode cL_law 697 = .ok (.invokevirtual 113, 3) := by decide +kernel
theorem dL_law_700 : decode cL_law 700 = .ok (.aload_n 2, 1) := by decide +kernel
theorem dL_law_701 : decode cL_law 701 = .ok (.invokevirtual 116, 3) := by decide +kernel
theorem dL_law_704 : decode cL_law 704 = .ok (.if_icmp .eq 842, 3) := by decide +kernel
theorem dL_law_707 : decode cL_law 707 = .ok (.iconst 0, 1) := by decide +kernel
theorem dL_law_708 : decode cL_law 708 = .ok (.ireturn, 1) := by decide +kernel
theorem dL_law_709 : decode cL_law 709 = .ok (.aload_n 1, 1) := by decide +kernel
theorem dL_law_710 : decode cL_law 710 = .ok (.aload_n 0, 1) := by decide +kernel
theorem dL_law_711 : decode cL_law 711 = .ok (.iload 4, 2) := by decide +kernel
theorem dL_law_713 : decode cL_law 713 = .ok (.iconst 1, 1) := by decide +kernel
theorem dL_law_714 : decode cL_law 714 = .ok (.iadd, 1) := by decide +kernel
theorem dL_law_715 : decode cL_law 715 = .ok (.iaload, 1) := by decide +kernel
theorem dL_law_716 : decode cL_law 716 = .ok (.aload_n 0, 1) := by decide +kernel
theorem dL_law_717 : decode cL_law 717 = .ok (.iload 4, 2) := by decide +kernel
theorem dL_law_719 : decode cL_law 719 = .ok (.iconst 2, 1) := by decide +kernel
theorem dL_law_720 : decode cL_law 720 = .ok (.iadd, 1) := by decide +kernel
theorem dL_law_721 : decode cL_law 721 = .ok (.iaload, 1) := by decide +kernel
theorem dL_law_722 : decode cL_law 722 = .ok (.aload_n 3, 1) := by decide +kernel
theorem dL_law_723 : decode cL_law 723 = .ok (.invokestatic 117, 3) := by decide +kernel
theorem dL_law_726 : decode cL_law 726 = .ok (.istore 5, 2) := by decide +kernel
theorem dL_law_728 : decode cL_law 728 = .ok (.aload_n 2, 1) := by decide +kernel
theorem dL_law_729 : decode cL_law 729 = .ok (.aload_n 0, 1) := by decide +kernel
theorem dL_law_730 : decode cL_law 730 = .ok (.iload 4, 2) := by decide +kernel
theorem dL_law_732 : decode cL_law 732 = .ok (.iconst 1, 1) := by decide +kernel
theorem dL_law_733 : decode cL_law 733 = .ok (.iadd, 1) := by decide +kernel
theorem dL_law_734 : decode cL_law 734 = .ok (.iaload, 1) := by decide +kernel
theorem dL_law_735 : decode cL_law 735 = .ok (.aload_n 0, 1) := by decide +kernel
theorem dL_law_736 : decode cL_law 736 = .ok (.iload 4, 2) := by decide +kernel
theorem dL_law_738 : decode cL_law 738 = .ok (.iconst 2, 1) := by decide +kernel
theorem dL_law_739 : decode cL_law 739 = .ok (.iadd, 1) := by decide +kernel
theorem dL_law_740 : decode cL_law 740 = .ok (.iaload, 1) := by decide +kernel
theorem dL_law_741 : decode cL_law 741 = .ok (.invokevirtual 119, 3) := by decide +kernel
theorem dL_law_744 : decode cL_law 744 = .ok (.istore 6, 2) := by decide +kernel
theorem dL_law_746 : decode cL_law 746 = .ok (.aload_n 2, 1) := by decide +kernel
theorem dL_law_747 : decode cL_law 747 = .ok (.invokevirtual 87, 3) := by decide +kernel
theorem dL_law_750 : decode cL_law 750 = .ok (.iload 5, 2) := by decide +kernel
theorem dL_law_752 : decode cL_law 752 = .ok (.if_icmp .eq 5, 3) := by decide +kernel
theorem dL_law_755 : decode cL_law 755 = .ok (.iconst 0, 1) := by decide +kernel
theorem dL_law_756 : decode cL_law 756 = .ok (.ireturn, 1) := by decide +kernel
theorem dL_law_757 : decode cL_law 757 = .ok (.iload 5, 2) := by decide +kernel
theorem dL_law_759 : decode cL_law 759 = .ok (.ifCond .ne 15, 3) := by decide +kernel
theorem dL_law_762 : decode cL_law 762 = .ok (.aload_n 3, 1) := by decide +kernel
theorem dL_law_763 : decode cL_law 763 = .ok (.iconst 0, 1) := by decide +kernel
theorem dL_law_764 : decode cL_law 764 = .ok (.laload, 1) := by decide +kernel
theorem dL_law_765 : decode cL_law 765 = .ok (.iload 6, 2) := by decide +kernel
theorem dL_law_767 : decode cL_law 767 = .ok (.i2l, 1) := by decide +kernel
theorem dL_law_768 : decode cL_law 768 = .ok (.lcmp, 1) := by decide +kernel
theorem dL_law_769 : decode cL_law 769 = .ok (.ifCond .eq 5, 3) := by decide +kernel
theorem dL_law_772 : decode cL_law 772 = .ok (.iconst 0, 1) := by decide +kernel
theorem dL_law_773 : decode cL_law 773 = .ok (.ireturn, 1) := by decide +kernel
theorem dL_law_774 : decode cL_law 774 = .ok (.goto 772, 3) := by decide +kernel
theorem dL_law_777 : decode cL_law 777 = .ok (.aload_n 1, 1) := by decide +kernel
theorem dL_law_778 : decode cL_law 778 = .ok (.invokevirtual 120, 3) := by decide +kernel
theorem dL_law_781 : decode cL_law 781 = .ok (.aload_n 2, 1) := by decide +kernel
theorem dL_law_782 : decode cL_law 782 = .ok (.invokevirtual 123, 3) := by decide +kernel
theorem dL_law_785 : decode cL_law 785 = .ok (.if_icmp .eq 761, 3) := by decide +kernel
theorem dL_law_788 : decode cL_law 788 = .ok (.iconst 0, 1) := by decide +kernel
theorem dL_law_789 : decode cL_law 789 = .ok (.ireturn, 1) := by decide +kernel
theorem dL_law_790 : decode cL_law 790 = .ok (.aload_n 1, 1) := by decide +kernel
theorem dL_law_791 : decode cL_law 791 = .ok (.aload_n 0, 1) := by decide +kernel
theorem dL_law_792 : decode cL_law 792 = .ok (.iload 4, 2) := by decide +kernel
theorem dL_law_794 : decode cL_law 794 = .ok (.iconst 1, 1) := by decide +kernel
theorem dL_law_795 : decode cL_law 795 = .ok (.iadd, 1) := by decide +kernel
theorem dL_law_796 : decode cL_law 796 = .ok (.iaload, 1) := by decide +kernel
theorem dL_law_797 : decode cL_law 797 = .ok (.aload_n 3, 1) := by decide +kernel
theorem dL_law_798 : decode cL_law 798 = .ok (.invokestatic 124, 3) := by decide +kernel
theorem dL_law_801 : decode cL_law 801 = .ok (.istore 5, 2) := by decide +kernel
theorem dL_law_803 : decode cL_law 803 = .ok (.aload_n 2, 1) := by decide +kernel
theorem dL_law_804 : decode cL_law 804 = .ok (.aload_n 0, 1) := by decide +kernel
theorem dL_law_805 : decode cL_law 805 = .ok (.iload 4, 2) := by decide +kernel
theorem dL_law_807 : decode cL_law 807 = .ok (.iconst 1, 1) := by decide +kernel
theorem dL_law_808 : decode cL_law 808 = .ok (.iadd, 1) := by decide +kernel
theorem dL_law_809 : decode cL_law 809 = .ok (.iaload, 1) := by decide +kernel
theorem dL_law_810 : decode cL_law 810 = .ok (.invokevirtual 127, 3) := by decide +kernel
theorem dL_law_813 : decode cL_law 813 = .ok (.istore 6, 2) := by decide +kernel
theorem dL_law_815 : decode cL_law 815 = .ok (.aload_n 2, 1) := by decide +kernel
theorem dL_law_816 : decode cL_law 816 = .ok (.invokevirtual 87, 3) := by decide +kernel
theorem dL_law_819 : decode cL_law 819 = .ok (.iload 5, 2) := by decide +kernel
theorem dL_law_821 : decode cL_law 821 = .ok (.if_icmp .eq 5, 3) := by decide +kernel
theorem dL_law_824 : decode cL_law 824 = .ok (.iconst 0, 1) := by decide +kernel
theorem dL_law_825 : decode cL_law 825 = .ok (.ireturn, 1) := by decide +kernel
theorem dL_law_826 : decode cL_law 826 = .ok (.iload 5, 2) := by decide +kernel
theorem dL_law_828 : decode cL_law 828 = .ok (.ifCond .ne 22, 3) := by decide +kernel
theorem dL_law_831 : decode cL_law 831 = .ok (.aload_n 3, 1) := by decide +kernel
theorem dL_law_832 : decode cL_law 832 = .ok (.iconst 0, 1) := by decide +kernel
theorem dL_law_833 : decode cL_law 833 = .ok (.laload, 1) := by decide +kernel
theorem dL_law_834 : decode cL_law 834 = .ok (.iload 6, 2) := by decide +kernel
theorem dL_law_836 : decode cL_law 836 = .ok (.ifCond .eq 7, 3) := by decide +kernel
theorem dL_law_839 : decode cL_law 839 = .ok (.lconst 1, 1) := by decide +kernel
theorem dL_law_840 : decode cL_law 840 = .ok (.goto 4, 3) := by decide +kernel
theorem dL_law_843 : decode cL_law 843 = .ok (.lconst 0, 1) := by decide +kernel
theorem dL_law_844 : decode cL_law 844 = .ok (.lcmp, 1) := by decide +kernel
theorem dL_law_845 : decode cL_law 845 = .ok (.ifCond .eq 5, 3) := by decide +kernel
theorem dL_law_848 : decode cL_law 848 = .ok (.iconst 0, 1) := by decide +kernel
theorem dL_law_849 : decode cL_law 849 = .ok (.ireturn, 1) := by decide +kernel
theorem dL_law_850 : decode cL_law 850 = .ok (.goto 696, 3) := by decide +kernel
theorem dL_law_853 : decode cL_law 853 = .ok (.aload_n 1, 1) := by decide +kernel
theorem dL_law_854 : decode cL_law 854 = .ok (.aload_n 0, 1) := by decide +kernel
theorem dL_law_855 : decode cL_law 855 = .ok (.iload 4, 2) := by decide +kernel
theorem dL_law_857 : decode cL_law 857 = .ok (.iconst 1, 1) := by decide +kernel
theorem dL_law_858 : decode cL_law 858 = .ok (.iadd, 1) := by decide +kernel
theorem dL_law_859 : decode cL_law 859 = .ok (.iaload, 1) := by decide +kernel
theorem dL_law_860 : decode cL_law 860 = .ok (.aload_n 3, 1) := by decide +kernel
theorem dL_law_861 : decode cL_law 861 = .ok (.invokestatic 128, 3) := by decide +kernel
theorem dL_law_864 : decode cL_law 864 = .ok (.istore 5, 2) := by decide +kernel
theorem dL_law_866 : decode cL_law 866 = .ok (.aload_n 2, 1) := by decide +kernel
theorem dL_law_867 : decode cL_law 867 = .ok (.aload_n 0, 1) := by decide +kernel
theorem dL_law_868 : decode cL_law 868 = .ok (.iload 4, 2) := by decide +kernel
theorem dL_law_870 : decode cL_law 870 = .ok (.iconst 1, 1) := by decide +kernel
theorem dL_law_871 : decode cL_law 871 = .ok (.iadd, 1) := by decide +kernel
theorem dL_law_872 : decode cL_law 872 = .ok (.iaload, 1) := by decide +kernel
theorem dL_law_873 : decode cL_law 873 = .ok (.invokevirtual 130, 3) := by decide +kernel
theorem dL_law_876 : decode cL_law 876 = .ok (.istore 6, 2) := by decide +kernel
theorem dL_law_878 : decode cL_law 878 = .ok (.aload_n 2, 1) := by decide +kernel
theorem dL_law_879 : decode cL_law 879 = .ok (.invokevirtual 87, 3) := by decide +kernel
theorem dL_law_882 : decode cL_law 882 = .ok (.iload 5, 2) := by decide +kernel
theorem dL_law_884 : decode cL_law 884 = .ok (.if_icmp .eq 5, 3) := by decide +kernel
theorem dL_law_887 : decode cL_law 887 = .ok (.iconst 0, 1) := by decide +kernel
theorem dL_law_888 : decode cL_law 888 = .ok (.ireturn, 1) := by decide +kernel
theorem dL_law_889 : decode cL_law 889 = .ok (.iload 5, 2) := by decide +kernel
theorem dL_law_891 : decode cL_law 891 = .ok (.ifCond .ne 15, 3) := by decide +kernel
theorem dL_law_894 : decode cL_law 894 = .ok (.aload_n 3, 1) := by decide +kernel
theorem dL_law_895 : decode cL_law 895 = .ok (.iconst 0, 1) := by decide +kernel
theorem dL_law_896 : decode cL_law 896 = .ok (.laload, 1) := by decide +kernel
theorem dL_law_897 : decode cL_law 897 = .ok (.iload 6, 2) := by decide +kernel
theorem dL_law_899 : decode cL_law 899 = .ok (.i2l, 1) := by decide +kernel
theorem dL_law_900 : decode cL_law 900 = .ok (.lcmp, 1) := by decide +kernel
theorem dL_law_901 : decode cL_law 901 = .ok (.ifCond .eq 5, 3) := by decide +kernel
theorem dL_law_904 : decode cL_law 904 = .ok (.iconst 0, 1) := by decide +kernel
theorem dL_law_905 : decode cL_law 905 = .ok (.ireturn, 1) := by decide +kernel
theorem dL_law_906 : decode cL_law 906 = .ok (.goto 640, 3) := by decide +kernel
theorem dL_law_909 : decode cL_law 909 = .ok (.aload_n 1, 1) := by decide +kernel
theorem dL_law_910 : decode cL_law 910 = .ok (.aload_n 0, 1) := by decide +kernel
theorem dL_law_911 : decode cL_law 911 = .ok (.iload 4, 2) := by decide +kernel
theorem dL_law_913 : decode cL_law 913 = .ok (.iconst 1, 1) := by decide +kernel
theorem dL_law_914 : decode cL_law 914 = .ok (.iadd, 1) := by decide +kernel
theorem dL_law_915 : decode cL_law 915 = .ok (.iaload, 1) := by decide +kernel
theorem dL_law_916 : decode cL_law 916 = .ok (.aload_n 3, 1) := by decide +kernel
theorem dL_law_917 : decode cL_law 917 = .ok (.invokestatic 131, 3) := by decide +kernel
theorem dL_law_920 : decode cL_law 920 = .ok (.istore 5, 2) := by decide +kernel
theorem dL_law_922 : decode cL_law 922 = .ok (.aload_n 2, 1) := by decide +kernel
theorem dL_law_923 : decode cL_law 923 = .ok (.aload_n 0, 1) := by decide +kernel
theorem dL_law_924 : decode cL_law 924 = .ok (.iload 4, 2) := by decide +kernel
theorem dL_law_926 : decode cL_law 926 = .ok (.iconst 1, 1) := by decide +kernel
theorem dL_law_927 : decode cL_law 927 = .ok (.iadd, 1) := by decide +kernel
theorem dL_law_928 : decode cL_law 928 = .ok (.iaload, 1) := by decide +kernel
theorem dL_law_929 : decode cL_law 929 = .ok (.invokevirtual 133, 3) := by decide +kernel
theorem dL_law_932 : decode cL_law 932 = .ok (.istore 6, 2) := by decide +kernel
theorem dL_law_934 : decode cL_law 934 = .ok (.aload_n 2, 1) := by decide +kernel
theorem dL_law_935 : decode cL_law 935 = .ok (.invokevirtual 87, 3) := by decide +kernel
theorem dL_law_938 : decode cL_law 938 = .ok (.iload 5, 2) := by decide +kernel
theorem dL_law_940 : decode cL_law 940 = .ok (.if_icmp .eq 5, 3) := by decide +kernel
theorem dL_law_943 : decode cL_law 943 = .ok (.iconst 0, 1) := by decide +kernel
theorem dL_law_944 : decode cL_law 944 = .ok (.ireturn, 1) := by decide +kernel
theorem dL_law_945 : decode cL_law 945 = .ok (.iload 5, 2) := by decide +kernel
theorem dL_law_947 : decode cL_law 947 = .ok (.ifCond .ne 15, 3) := by decide +kernel
theorem dL_law_950 : decode cL_law 950 = .ok (.aload_n 3, 1) := by decide +kernel
theorem dL_law_951 : decode cL_law 951 = .ok (.iconst 0, 1) := by decide +kernel
theorem dL_law_952 : decode cL_law 952 = .ok (.laload, 1) := by decide +kernel
theorem dL_law_953 : decode cL_law 953 = .ok (.iload 6, 2) := by decide +kernel
theorem dL_law_955 : decode cL_law 955 = .ok (.i2l, 1) := by decide +kernel
theorem dL_law_956 : decode cL_law 956 = .ok (.lcmp, 1) := by decide +kernel
theorem dL_law_957 : decode cL_law 957 = .ok (.ifCond .eq 5, 3) := by decide +kernel
theorem dL_law_960 : decode cL_law 960 = .ok (.iconst 0, 1) := by decide +kernel
theorem dL_law_961 : decode cL_law 961 = .ok (.ireturn, 1) := by decide +kernel
theorem dL_law_962 : decode cL_law 962 = .ok (.goto 584, 3) := by decide +kernel
theorem dL_law_965 : decode cL_law 965 = .ok (.aload_n 1, 1) := by decide +kernel
theorem dL_law_966 : decode cL_law 966 = .ok (.aload_n 0, 1) := by decide +kernel
theorem dL_law_967 : decode cL_law 967 = .ok (.iload 4, 2) := by decide +kernel
theorem dL_law_969 : decode cL_law 969 = .ok (.iconst 1, 1) := by decide +kernel
theorem dL_law_970 : decode cL_law 970 = .ok (.iadd, 1) := by decide +kernel
theorem dL_law_971 : decode cL_law 971 = .ok (.iaload, 1) := by decide +kernel
theorem dL_law_972 : decode cL_law 972 = .ok (.aload_n 3, 1) := by decide +kernel
theorem dL_law_973 : decode cL_law 973 = .ok (.invokestatic 134, 3) := by decide +kernel
theorem dL_law_976 : decode cL_law 976 = .ok (.istore 5, 2) := by decide +kernel
theorem dL_law_978 : decode cL_law 978 = .ok (.aload_n 2, 1) := by decide +kernel
theorem dL_law_979 : decode cL_law 979 = .ok (.aload_n 0, 1) := by decide +kernel
theorem dL_law_980 : decode cL_law 980 = .ok (.iload 4, 2) := by decide +kernel
theorem dL_law_982 : decode cL_law 982 = .ok (.iconst 1, 1) := by decide +kernel
theorem dL_law_983 : decode cL_law 983 = .ok (.iadd, 1) := by decide +kernel
theorem dL_law_984 : decode cL_law 984 = .ok (.iaload, 1) := by decide +kernel
theorem dL_law_985 : decode cL_law 985 = .ok (.invokevirtual 136, 3) := by decide +kernel
theorem dL_law_988 : decode cL_law 988 = .ok (.istore 6, 2) := by decide +kernel
theorem dL_law_990 : decode cL_law 990 = .ok (.aload_n 2, 1) := by decide +kernel
theorem dL_law_991 : decode cL_law 991 = .ok (.invokevirtual 87, 3) := by decide +kernel
theorem dL_law_994 : decode cL_law 994 = .ok (.iload 5, 2) := by decide +kernel
theorem dL_law_996 : decode cL_law 996 = .ok (.if_icmp .eq 5, 3) := by decide +kernel
theorem dL_law_999 : decode cL_law 999 = .ok (.iconst 0, 1) := by decide +kernel
theorem dL_law_1000 : decode cL_law 1000 = .ok (.ireturn, 1) := by decide +kernel
theorem dL_law_1001 : decode cL_law 1001 = .ok (.iload 5, 2) := by decide +kernel
theorem dL_law_1003 : decode cL_law 1003 = .ok (.ifCond .ne 15, 3) := by decide +kernel
theorem dL_law_1006 : decode cL_law 1006 = .ok (.aload_n 3, 1) := by decide +kernel
theorem dL_law_1007 : decode cL_law 1007 = .ok (.iconst 0, 1) := by decide +kernel
theorem dL_law_1008 : decode cL_law 1008 = .ok (.laload, 1) := by decide +kernel
theorem dL_law_1009 : decode cL_law 1009 = .ok (.iload 6, 2) := by decide +kernel
theorem dL_law_1011 : decode cL_law 1011 = .ok (.i2l, 1) := by decide +kernel
theorem dL_law_1012 : decode cL_law 1012 = .ok (.lcmp, 1) := by decide +kernel
theorem dL_law_1013 : decode cL_law 1013 = .ok (.ifCond .eq 5, 3) := by decide +kernel
theorem dL_law_1016 : decode cL_law 1016 = .ok (.iconst 0, 1) := by decide +kernel
theorem dL_law_1017 : decode cL_law 1017 = .ok (.ireturn, 1) := by decide +kernel
theorem dL_law_1018 : decode cL_law 1018 = .ok (.goto 528, 3) := by decide +kernel
theorem dL_law_1021 : decode cL_law 1021 = .ok (.aload_n 1, 1) := by decide +kernel
theorem dL_law_1022 : decode cL_law 1022 = .ok (.aload_n 0, 1) := by decide +kernel
theorem dL_law_1023 : decode cL_law 1023 = .ok (.iload 4, 2) := by decide +kernel
theorem dL_law_1025 : decode cL_law 1025 = .ok (.iconst 1, 1) := by decide +kernel
theorem dL_law_1026 : decode cL_law 1026 = .ok (.iadd, 1) := by decide +kernel
theorem dL_law_1027 : decode cL_law 1027 = .ok (.iaload, 1) := by decide +kernel
theorem dL_law_1028 : decode cL_law 1028 = .ok (.aload_n 3, 1) := by decide +kernel
theorem dL_law_1029 : decode cL_law 1029 = .ok (.invokestatic 137, 3) := by decide +kernel
theorem dL_law_1032 : decode cL_law 1032 = .ok (.istore 5, 2) := by decide +kernel
theorem dL_law_1034 : decode cL_law 1034 = .ok (.aload_n 2, 1) := by decide +kernel
theorem dL_law_1035 : decode cL_law 1035 = .ok (.aload_n 0, 1) := by decide +kernel
theorem dL_law_1036 : decode cL_law 1036 = .ok (.iload 4, 2) := by decide +kernel
theorem dL_law_1038 : decode cL_law 1038 = .ok (.iconst 1, 1) := by decide +kernel
theorem dL_law_1039 : decode cL_law 1039 = .ok (.iadd, 1) := by decide +kernel
theorem dL_law_1040 : decode cL_law 1040 = .ok (.iaload, 1) := by decide +kernel
theorem dL_law_1041 : decode cL_law 1041 = .ok (.invokevirtual 139, 3) := by decide +kernel
theorem dL_law_1044 : decode cL_law 1044 = .ok (.istore 6, 2) := by decide +kernel
theorem dL_law_1046 : decode cL_law 1046 = .ok (.aload_n 2, 1) := by decide +kernel
theorem dL_law_1047 : decode cL_law 1047 = .ok (.invokevirtual 87, 3) := by decide +kernel
theorem dL_law_1050 : decode cL_law 1050 = .ok (.iload 5, 2) := by decide +kernel
theorem dL_law_1052 : decode cL_law 1052 = .ok (.if_icmp .eq 5, 3) := by decide +kernel
theorem dL_law_1055 : decode cL_law 1055 = .ok (.iconst 0, 1) := by decide +kernel
theorem dL_law_1056 : decode cL_law 1056 = .ok (.ireturn, 1) := by decide +kernel
theorem dL_law_1057 : decode cL_law 1057 = .ok (.iload 5, 2) := by decide +kernel
theorem dL_law_1059 : decode cL_law 1059 = .ok (.ifCond .ne 15, 3) := by decide +kernel
theorem dL_law_1062 : decode cL_law 1062 = .ok (.aload_n 3, 1) := by decide +kernel
theorem dL_law_1063 : decode cL_law 1063 = .ok (.iconst 0, 1) := by decide +kernel
theorem dL_law_1064 : decode cL_law 1064 = .ok (.laload, 1) := by decide +kernel
theorem dL_law_1065 : decode cL_law 1065 = .ok (.iload 6, 2) := by decide +kernel
theorem dL_law_1067 : decode cL_law 1067 = .ok (.i2l, 1) := by decide +kernel
theorem dL_law_1068 : decode cL_law 1068 = .ok (.lcmp, 1) := by decide +kernel
theorem dL_law_1069 : decode cL_law 1069 = .ok (.ifCond .eq 5, 3) := by decide +kernel
theorem dL_law_1072 : decode cL_law 1072 = .ok (.iconst 0, 1) := by decide +kernel
theorem dL_law_1073 : decode cL_law 1073 = .ok (.ireturn, 1) := by decide +kernel
theorem dL_law_1074 : decode cL_law 1074 = .ok (.goto 472, 3) := by decide +kernel
theorem dL_law_1077 : decode cL_law 1077 = .ok (.aload_n 1, 1) := by decide +kernel
theorem dL_law_1078 : decode cL_law 1078 = .ok (.invokevirtual 140, 3) := by decide +kernel
theorem dL_law_1081 : decode cL_law 1081 = .ok (.aload_n 2, 1) := by decide +kernel
theorem dL_law_1082 : decode cL_law 1082 = .ok (.invokevirtual 143, 3) := by decide +kernel
theorem dL_law_1085 : decode cL_law 1085 = .ok (.if_icmp .eq 461, 3) := by decide +kernel
theorem dL_law_1088 : decode cL_law 1088 = .ok (.iconst 0, 1) := by decide +kernel
theorem dL_law_1089 : decode cL_law 1089 = .ok (.ireturn, 1) := by decide +kernel
theorem dL_law_1090 : decode cL_law 1090 = .ok (.aload_n 1, 1) := by decide +kernel
theorem dL_law_1091 : decode cL_law 1091 = .ok (.invokevirtual 144, 3) := by decide +kernel
theorem dL_law_1094 : decode cL_law 1094 = .ok (.aload_n 2, 1) := by decide +kernel
theorem dL_law_1095 : decode cL_law 1095 = .ok (.invokevirtual 147, 3) := by decide +kernel
theorem dL_law_1098 : decode cL_law 1098 = .ok (.if_icmp .eq 448, 3) := by decide +kernel
theorem dL_law_1101 : decode cL_law 1101 = .ok (.iconst 0, 1) := by decide +kernel
theorem dL_law_1102 : decode cL_law 1102 = .ok (.ireturn, 1) := by decide +kernel
theorem dL_law_1103 : decode cL_law 1103 = .ok (.aload_n 1, 1) := by decide +kernel
theorem dL_law_1104 : decode cL_law 1104 = .ok (.aload_n 0, 1) := by decide +kernel
theorem dL_law_1105 : decode cL_law 1105 = .ok (.iload 4, 2) := by decide +kernel
theorem dL_law_1107 : decode cL_law 1107 = .ok (.iconst 1, 1) := by decide +kernel
theorem dL_law_1108 : decode cL_law 1108 = .ok (.iadd, 1) := by decide +kernel
theorem dL_law_1109 : decode cL_law 1109 = .ok (.iaload, 1) := by decide +kernel
theorem dL_law_1110 : decode cL_law 1110 = .ok (.aload_n 3, 1) := by decide +kernel
theorem dL_law_1111 : decode cL_law 1111 = .ok (.invokestatic 148, 3) := by decide +kernel
theorem dL_law_1114 : decode cL_law 1114 = .ok (.istore 5, 2) := by decide +kernel
theorem dL_law_1116 : decode cL_law 1116 = .ok (.aload_n 2, 1) := by decide +kernel
theorem dL_law_1117 : decode cL_law 1117 = .ok (.aload_n 0, 1) := by decide +kernel
theorem dL_law_1118 : decode cL_law 1118 = .ok (.iload 4, 2) := by decide +kernel
theorem dL_law_1120 : decode cL_law 1120 = .ok (.iconst 1, 1) := by decide +kernel
theorem dL_law_1121 : decode cL_law 1121 = .ok (.iadd, 1) := by decide +kernel
theorem dL_law_1122 : decode cL_law 1122 = .ok (.iaload, 1) := by decide +kernel
theorem dL_law_1123 : decode cL_law 1123 = .ok (.invokevirtual 150, 3) := by decide +kernel
theorem dL_law_1126 : decode cL_law 1126 = .ok (.istore 6, 2) := by decide +kernel
theorem dL_law_1128 : decode cL_law 1128 = .ok (.aload_n 2, 1) := by decide +kernel
theorem dL_law_1129 : decode cL_law 1129 = .ok (.invokevirtual 87, 3) := by decide +kernel
theorem dL_law_1132 : decode cL_law 1132 = .ok (.iload 5, 2) := by decide +kernel
theorem dL_law_1134 : decode cL_law 1134 = .ok (.if_icmp .eq 5, 3) := by decide +kernel
theorem dL_law_1137 : decode cL_law 1137 = .ok (.iconst 0, 1) := by decide +kernel
theorem dL_law_1138 : decode cL_law 1138 = .ok (.ireturn, 1) := by decide +kernel
theorem dL_law_1139 : decode cL_law 1139 = .ok (.iload 5, 2) := by decide +kernel
theorem dL_law_1141 : decode cL_law 1141 = .ok (.ifCond .ne 15, 3) := by decide +kernel
theorem dL_law_1144 : decode cL_law 1144 = .ok (.aload_n 3, 1) := by decide +kernel
theorem dL_law_1145 : decode cL_law 1145 = .ok (.iconst 0, 1) := by decide +kernel
theorem dL_law_1146 : decode cL_law 1146 = .ok (.laload, 1) := by decide +kernel
theorem dL_law_1147 : decode cL_law 1147 = .ok (.iload 6, 2) := by decide +kernel
theorem dL_law_1149 : decode cL_law 1149 = .ok (.i2l, 1) := by decide +kernel
theorem dL_law_1150 : decode cL_law 1150 = .ok (.lcmp, 1) := by decide +kernel
theorem dL_law_1151 : decode cL_law 1151 = .ok (.ifCond .eq 5, 3) := by decide +kernel
theorem dL_law_1154 : decode cL_law 1154 = .ok (.iconst 0, 1) := by decide +kernel
theorem dL_law_1155 : decode cL_law 1155 = .ok (.ireturn, 1) := by decide +kernel
theorem dL_law_1156 : decode cL_law 1156 = .ok (.goto 390, 3) := by decide +kernel
theorem dL_law_1159 : decode cL_law 1159 = .ok (.aload_n 1, 1) := by decide +kernel
theorem dL_law_1160 : decode cL_law 1160 = .ok (.invokevirtual 151, 3) := by decide +kernel
theorem dL_law_1163 : decode cL_law 1163 = .ok (.dstore 5, 2) := by decide +kernel
theorem dL_law_1165 : decode cL_law 1165 = .ok (.aload_n 2, 1) := by decide +kernel
theorem dL_law_1166 : decode cL_law 1166 = .ok (.invokevirtual 155, 3) := by decide +kernel
theorem dL_law_1169 : decode cL_law 1169 = .ok (.dstore 7, 2) := by decide +kernel
theorem dL_law_1171 : decode cL_law 1171 = .ok (.dload 5, 2) := by decide +kernel
theorem dL_law_1173 : decode cL_law 1173 = .ok (.dload 7, 2) := by decide +kernel
theorem dL_law_1175 : decode cL_law 1175 = .ok (.dcmp .l, 1) := by decide +kernel
theorem dL_law_1176 : decode cL_law 1176 = .ok (.ifCond .eq 21, 3) := by decide +kernel
theorem dL_law_1179 : decode cL_law 1179 = .ok (.dload 5, 2) := by decide +kernel
theorem dL_law_1181 : decode cL_law 1181 = .ok (.dload 5, 2) := by decide +kernel
theorem dL_law_1183 : decode cL_law 1183 = .ok (.dcmp .l, 1) := by decide +kernel
theorem dL_law_1184 : decode cL_law 1184 = .ok (.ifCond .eq 11, 3) := by decide +kernel
theorem dL_law_1187 : decode cL_law 1187 = .ok (.dload 7, 2) := by decide +kernel
theorem dL_law_1189 : decode cL_law 1189 = .ok (.dload 7, 2) := by decide +kernel
theorem dL_law_1191 : decode cL_law 1191 = .ok (.dcmp .l, 1) := by decide +kernel
theorem dL_law_1192 : decode cL_law 1192 = .ok (.ifCond .ne 5, 3) := by decide +kernel
theorem dL_law_1195 : decode cL_law 1195 = .ok (.iconst 0, 1) := by decide +kernel
theorem dL_law_1196 : decode cL_law 1196 = .ok (.ireturn, 1) := by decide +kernel
theorem dL_law_1197 : decode cL_law 1197 = .ok (.goto 349, 3) := by decide +kernel
theorem dL_law_1200 : decode cL_law 1200 = .ok (.aload_n 1, 1) := by decide +kernel
theorem dL_law_1201 : decode cL_law 1201 = .ok (.aload_n 0, 1) := by decide +kernel
theorem dL_law_1202 : decode cL_law 1202 = .ok (.iload 4, 2) := by decide +kernel
theorem dL_law_1204 : decode cL_law 1204 = .ok (.iconst 1, 1) := by decide +kernel
theorem dL_law_1205 : decode cL_law 1205 = .ok (.iadd, 1) := by decide +kernel
theorem dL_law_1206 : decode cL_law 1206 = .ok (.iaload, 1) := by decide +kernel
theorem dL_law_1207 : decode cL_law 1207 = .ok (.aload_n 0, 1) := by decide +kernel
theorem dL_law_1208 : decode cL_law 1208 = .ok (.iload 4, 2) := by decide +kernel
theorem dL_law_1210 : decode cL_law 1210 = .ok (.iconst 2, 1) := by decide +kernel
theorem dL_law_1211 : decode cL_law 1211 = .ok (.iadd, 1) := by decide +kernel
theorem dL_law_1212 : decode cL_law 1212 = .ok (.iaload, 1) := by decide +kernel
theorem dL_law_1213 : decode cL_law 1213 = .ok (.aload_n 3, 1) := by decide +kernel
theorem dL_law_1214 : decode cL_law 1214 = .ok (.invokestatic 156, 3) := by decide +kernel
theorem dL_law_1217 : decode cL_law 1217 = .ok (.istore 5, 2) := by decide +kernel
theorem dL_law_1219 : decode cL_law 1219 = .ok (.aload_n 2, 1) := by decide +kernel
theorem dL_law_1220 : decode cL_law 1220 = .ok (.aload_n 0, 1) := by decide +kernel
theorem dL_law_1221 : decode cL_law 1221 = .ok (.iload 4, 2) := by decide +kernel
theorem dL_law_1223 : decode cL_law 1223 = .ok (.iconst 1, 1) := by decide +kernel
theorem dL_law_1224 : decode cL_law 1224 = .ok (.iadd, 1) := by decide +kernel
theorem dL_law_1225 : decode cL_law 1225 = .ok (.iaload, 1) := by decide +kernel
theorem dL_law_1226 : decode cL_law 1226 = .ok (.aload_n 0, 1) := by decide +kernel
theorem dL_law_1227 : decode cL_law 1227 = .ok (.iload 4, 2) := by decide +kernel
theorem dL_law_1229 : decode cL_law 1229 = .ok (.iconst 2, 1) := by decide +kernel
theorem dL_law_1230 : decode cL_law 1230 = .ok (.iadd, 1) := by decide +kernel
theorem dL_law_1231 : decode cL_law 1231 = .ok (.iaload, 1) := by decide +kernel
theorem dL_law_1232 : decode cL_law 1232 = .ok (.invokevirtual 158, 3) := by decide +kernel
theorem dL_law_1235 : decode cL_law 1235 = .ok (.istore 6, 2) := by decide +kernel
theorem dL_law_1237 : decode cL_law 1237 = .ok (.aload_n 2, 1) := by decide +kernel
theorem dL_law_1238 : decode cL_law 1238 = .ok (.invokevirtual 87, 3) := by decide +kernel
theorem dL_law_1241 : decode cL_law 1241 = .ok (.iload 5, 2) := by decide +kernel
theorem dL_law_1243 : decode cL_law 1243 = .ok (.if_icmp .eq 5, 3) := by decide +kernel
theorem dL_law_1246 : decode cL_law 1246 = .ok (.iconst 0, 1) := by decide +kernel
theorem dL_law_1247 : decode cL_law 1247 = .ok (.ireturn, 1) := by decide +kernel
theorem dL_law_1248 : decode cL_law 1248 = .ok (.iload 5, 2) := by decide +kernel
theorem dL_law_1250 : decode cL_law 1250 = .ok (.ifCond .ne 15, 3) := by decide +kernel
theorem dL_law_1253 : decode cL_law 1253 = .ok (.aload_n 3, 1) := by decide +kernel
theorem dL_law_1254 : decode cL_law 1254 = .ok (.iconst 0, 1) := by decide +kernel
theorem dL_law_1255 : decode cL_law 1255 = .ok (.laload, 1) := by decide +kernel
theorem dL_law_1256 : decode cL_law 1256 = .ok (.iload 6, 2) := by decide +kernel
theorem dL_law_1258 : decode cL_law 1258 = .ok (.i2l, 1) := by decide +kernel
theorem dL_law_1259 : decode cL_law 1259 = .ok (.lcmp, 1) := by decide +kernel
theorem dL_law_1260 : decode cL_law 1260 = .ok (.ifCond .eq 5, 3) := by decide +kernel
theorem dL_law_1263 : decode cL_law 1263 = .ok (.iconst 0, 1) := by decide +kernel
theorem dL_law_1264 : decode cL_law 1264 = .ok (.ireturn, 1) := by decide +kernel
theorem dL_law_1265 : decode cL_law 1265 = .ok (.goto 281, 3) := by decide +kernel
theorem dL_law_1268 : decode cL_law 1268 = .ok (.aload_n 1, 1) := by decide +kernel
theorem dL_law_1269 : decode cL_law 1269 = .ok (.invokevirtual 159, 3) := by decide +kernel
theorem dL_law_1272 : decode cL_law 1272 = .ok (.aload_n 2, 1) := by decide +kernel
theorem dL_law_1273 : decode cL_law 1273 = .ok (.invokevirtual 162, 3) := by decide +kernel
theorem dL_law_1276 : decode cL_law 1276 = .ok (.if_icmp .eq 270, 3) := by decide +kernel
theorem dL_law_1279 : decode cL_law 1279 = .ok (.iconst 0, 1) := by decide +kernel
theorem dL_law_1280 : decode cL_law 1280 = .ok (.ireturn, 1) := by decide +kernel
theorem dL_law_1281 : decode cL_law 1281 = .ok (.aload_n 1, 1) := by decide +kernel
theorem dL_law_1282 : decode cL_law 1282 = .ok (.aload_n 0, 1) := by decide +kernel
theorem dL_law_1283 : decode cL_law 1283 = .ok (.iload 4, 2) := by decide +kernel
theorem dL_law_1285 : decode cL_law 1285 = .ok (.iconst 1, 1) := by decide +kernel
theorem dL_law_1286 : decode cL_law 1286 = .ok (.iadd, 1) := by decide +kernel
theorem dL_law_1287 : decode cL_law 1287 = .ok (.iaload, 1) := by decide +kernel
theorem dL_law_1288 : decode cL_law 1288 = .ok (.aload_n 0, 1) := by decide +kernel
theorem dL_law_1289 : decode cL_law 1289 = .ok (.iload 4, 2) := by decide +kernel
theorem dL_law_1291 : decode cL_law 1291 = .ok (.iconst 2, 1) := by decide +kernel
theorem dL_law_1292 : decode cL_law 1292 = .ok (.iadd, 1) := by decide +kernel
theorem dL_law_1293 : decode cL_law 1293 = .ok (.iaload, 1) := by decide +kernel
theorem dL_law_1294 : decode cL_law 1294 = .ok (.aload_n 3, 1) := by decide +kernel
theorem dL_law_1295 : decode cL_law 1295 = .ok (.invokestatic 163, 3) := by decide +kernel
theorem dL_law_1298 : decode cL_law 1298 = .ok (.istore 5, 2) := by decide +kernel
theorem dL_law_1300 : decode cL_law 1300 = .ok (.aload_n 2, 1) := by decide +kernel
theorem dL_law_1301 : decode cL_law 1301 = .ok (.aload_n 0, 1) := by decide +kernel
theorem dL_law_1302 : decode cL_law 1302 = .ok (.iload 4, 2) := by decide +kernel
theorem dL_law_1304 : decode cL_law 1304 = .ok (.iconst 1, 1) := by decide +kernel
theorem dL_law_1305 : decode cL_law 1305 = .ok (.iadd, 1) := by decide +kernel
theorem dL_law_1306 : decode cL_law 1306 = .ok (.iaload, 1) := by decide +kernel
theorem dL_law_1307 : decode cL_law 1307 = .ok (.aload_n 0, 1) := by decide +kernel
theorem dL_law_1308 : decode cL_law 1308 = .ok (.iload 4, 2) := by decide +kernel
theorem dL_law_1310 : decode cL_law 1310 = .ok (.iconst 2, 1) := by decide +kernel
theorem dL_law_1311 : decode cL_law 1311 = .ok (.iadd, 1) := by decide +kernel
theorem dL_law_1312 : decode cL_law 1312 = .ok (.iaload, 1) := by decide +kernel
theorem dL_law_1313 : decode cL_law 1313 = .ok (.invokevirtual 165, 3) := by decide +kernel
theorem dL_law_1316 : decode cL_law 1316 = .ok (.istore 6, 2) := by decide +kernel
theorem dL_law_1318 : decode cL_law 1318 = .ok (.aload_n 2, 1) := by decide +kernel
theorem dL_law_1319 : decode cL_law 1319 = .ok (.invokevirtual 87, 3) := by decide +kernel
theorem dL_law_1322 : decode cL_law 1322 = .ok (.iload 5, 2) := by decide +kernel
theorem dL_law_1324 : decode cL_law 1324 = .ok (.if_icmp .eq 5, 3) := by decide +kernel
theorem dL_law_1327 : decode cL_law 1327 = .ok (.iconst 0, 1) := by decide +kernel
theorem dL_law_1328 : decode cL_law 1328 = .ok (.ireturn, 1) := by decide +kernel
theorem dL_law_1329 : decode cL_law 1329 = .ok (.iload 5, 2) := by decide +kernel
theorem dL_law_1331 : decode cL_law 1331 = .ok (.ifCond .ne 15, 3) := by decide +kernel
theorem dL_law_1334 : decode cL_law 1334 = .ok (.aload_n 3, 1) := by decide +kernel
theorem dL_law_1335 : decode cL_law 1335 = .ok (.iconst 0, 1) := by decide +kernel
theorem dL_law_1336 : decode cL_law 1336 = .ok (.laload, 1) := by decide +kernel
theorem dL_law_1337 : decode cL_law 1337 = .ok (.iload 6, 2) := by decide +kernel
theorem dL_law_1339 : decode cL_law 1339 = .ok (.i2l, 1) := by decide +kernel
theorem dL_law_1340 : decode cL_law 1340 = .ok (.lcmp, 1) := by decide +kernel
theorem dL_law_1341 : decode cL_law 1341 = .ok (.ifCond .eq 5, 3) := by decide +kernel
theorem dL_law_1344 : decode cL_law 1344 = .ok (.iconst 0, 1) := by decide +kernel
theorem dL_law_1345 : decode cL_law 1345 = .ok (.ireturn, 1) := by decide +kernel
theorem dL_law_1346 : decode cL_law 1346 = .ok (.goto 200, 3) := by decide +kernel
theorem dL_law_1349 : decode cL_law 1349 = .ok (.aload_n 1, 1) := by decide +kernel
theorem dL_law_1350 : decode cL_law 1350 = .ok (.aload_n 0, 1) := by decide +kernel
theorem dL_law_1351 : decode cL_law 1351 = .ok (.iload 4, 2) := by decide +kernel
theorem dL_law_1353 : decode cL_law 1353 = .ok (.iconst 1, 1) := by decide +kernel
theorem dL_law_1354 : decode cL_law 1354 = .ok (.iadd, 1) := by decide +kernel
theorem dL_law_1355 : decode cL_law 1355 = .ok (.iaload, 1) := by decide +kernel
theorem dL_law_1356 : decode cL_law 1356 = .ok (.aload_n 3, 1) := by decide +kernel
theorem dL_law_1357 : decode cL_law 1357 = .ok (.invokestatic 166, 3) := by decide +kernel
theorem dL_law_1360 : decode cL_law 1360 = .ok (.istore 5, 2) := by decide +kernel
theorem dL_law_1362 : decode cL_law 1362 = .ok (.aload_n 2, 1) := by decide +kernel
theorem dL_law_1363 : decode cL_law 1363 = .ok (.aload_n 0, 1) := by decide +kernel
theorem dL_law_1364 : decode cL_law 1364 = .ok (.iload 4, 2) := by decide +kernel
theorem dL_law_1366 : decode cL_law 1366 = .ok (.iconst 1, 1) := by decide +kernel
theorem dL_law_1367 : decode cL_law 1367 = .ok (.iadd, 1) := by decide +kernel
theorem dL_law_1368 : decode cL_law 1368 = .ok (.iaload, 1) := by decide +kernel
theorem dL_law_1369 : decode cL_law 1369 = .ok (.invokevirtual 168, 3) := by decide +kernel
theorem dL_law_1372 : decode cL_law 1372 = .ok (.istore 6, 2) := by decide +kernel
theorem dL_law_1374 : decode cL_law 1374 = .ok (.aload_n 2, 1) := by decide +kernel
theorem dL_law_1375 : decode cL_law 1375 = .ok (.invokevirtual 87, 3) := by decide +kernel
theorem dL_law_1378 : decode cL_law 1378 = .ok (.iload 5, 2) := by decide +kernel
theorem dL_law_1380 : decode cL_law 1380 = .ok (.if_icmp .eq 5, 3) := by decide +kernel
theorem dL_law_1383 : decode cL_law 1383 = .ok (.iconst 0, 1) := by decide +kernel
theorem dL_law_1384 : decode cL_law 1384 = .ok (.ireturn, 1) := by decide +kernel
theorem dL_law_1385 : decode cL_law 1385 = .ok (.iload 5, 2) := by decide +kernel
theorem dL_law_1387 : decode cL_law 1387 = .ok (.ifCond .ne 15, 3) := by decide +kernel
theorem dL_law_1390 : decode cL_law 1390 = .ok (.aload_n 3, 1) := by decide +kernel
theorem dL_law_1391 : decode cL_law 1391 = .ok (.iconst 0, 1) := by decide +kernel
theorem dL_law_1392 : decode cL_law 1392 = .ok (.laload, 1) := by decide +kernel
theorem dL_law_1393 : decode cL_law 1393 = .ok (.iload 6, 2) := by decide +kernel
theorem dL_law_1395 : decode cL_law 1395 = .ok (.i2l, 1) := by decide +kernel
theorem dL_law_1396 : decode cL_law 1396 = .ok (.lcmp, 1) := by decide +kernel
theorem dL_law_1397 : decode cL_law 1397 = .ok (.ifCond .eq 5, 3) := by decide +kernel
theorem dL_law_1400 : decode cL_law 1400 = .ok (.iconst 0, 1) := by decide +kernel
theorem dL_law_1401 : decode cL_law 1401 = .ok (.ireturn, 1) := by decide +kernel
theorem dL_law_1402 : decode cL_law 1402 = .ok (.goto 144, 3) := by decide +kernel
theorem dL_law_1405 : decode cL_law 1405 = .ok (.aload_n 1, 1) := by decide +kernel
theorem dL_law_1406 : decode cL_law 1406 = .ok (.invokevirtual 169, 3) := by decide +kernel
theorem dL_law_1409 : decode cL_law 1409 = .ok (.aload_n 2, 1) := by decide +kernel
theorem dL_law_1410 : decode cL_law 1410 = .ok (.invokevirtual 172, 3) := by decide +kernel
theorem dL_law_1413 : decode cL_law 1413 = .ok (.if_icmp .eq 133, 3) := by decide +kernel
theorem dL_law_1416 : decode cL_law 1416 = .ok (.iconst 0, 1) := by decide +kernel
theorem dL_law_1417 : decode cL_law 1417 = .ok (.ireturn, 1) := by decide +kernel
theorem dL_law_1418 : decode cL_law 1418 = .ok (.aload_n 1, 1) := by decide +kernel
theorem dL_law_1419 : decode cL_law 1419 = .ok (.invokevirtual 173, 3) := by decide +kernel
theorem dL_law_1422 : decode cL_law 1422 = .ok (.aload_n 2, 1) := by decide +kernel
theorem dL_law_1423 : decode cL_law 1423 = .ok (.invokevirtual 176, 3) := by decide +kernel
theorem dL_law_1426 : decode cL_law 1426 = .ok (.if_icmp .eq 120, 3) := by decide +kernel
theorem dL_law_1429 : decode cL_law 1429 = .ok (.iconst 0, 1) := by decide +kernel
theorem dL_law_1430 : decode cL_law 1430 = .ok (.ireturn, 1) := by decide +kernel
theorem dL_law_1431 : decode cL_law 1431 = .ok (.aload_n 1, 1) := by decide +kernel
theorem dL_law_1432 : decode cL_law 1432 = .ok (.aload_n 3, 1) := by decide +kernel
theorem dL_law_1433 : decode cL_law 1433 = .ok (.invokestatic 177, 3) := by decide +kernel
theorem dL_law_1436 : decode cL_law 1436 = .ok (.istore 5, 2) := by decide +kernel
theorem dL_law_1438 : decode cL_law 1438 = .ok (.aload_n 2, 1) := by decide +kernel
theorem dL_law_1439 : decode cL_law 1439 = .ok (.invokevirtual 180, 3) := by decide +kernel
theorem dL_law_1442 : decode cL_law 1442 = .ok (.istore 6, 2) := by decide +kernel
theorem dL_law_1444 : decode cL_law 1444 = .ok (.aload_n 2, 1) := by decide +kernel
theorem dL_law_1445 : decode cL_law 1445 = .ok (.invokevirtual 87, 3) := by decide +kernel
theorem dL_law_1448 : decode cL_law 1448 = .ok (.iload 5, 2) := by decide +kernel
theorem dL_law_1450 : decode cL_law 1450 = .ok (.if_icmp .eq 5, 3) := by decide +kernel
theorem dL_law_1453 : decode cL_law 1453 = .ok (.iconst 0, 1) := by decide +kernel
theorem dL_law_1454 : decode cL_law 1454 = .ok (.ireturn, 1) := by decide +kernel
theorem dL_law_1455 : decode cL_law 1455 = .ok (.iload 5, 2) := by decide +kernel
theorem dL_law_1457 : decode cL_law 1457 = .ok (.ifCond .ne 15, 3) := by decide +kernel
theorem dL_law_1460 : decode cL_law 1460 = .ok (.aload_n 3, 1) := by decide +kernel
theorem dL_law_1461 : decode cL_law 1461 = .ok (.iconst 0, 1) := by decide +kernel
theorem dL_law_1462 : decode cL_law 1462 = .ok (.laload, 1) := by decide +kernel
theorem dL_law_1463 : decode cL_law 1463 = .ok (.iload 6, 2) := by decide +kernel
theorem dL_law_1465 : decode cL_law 1465 = .ok (.i2l, 1) := by decide +kernel
theorem dL_law_1466 : decode cL_law 1466 = .ok (.lcmp, 1) := by decide +kernel
theorem dL_law_1467 : decode cL_law 1467 = .ok (.ifCond .eq 5, 3) := by decide +kernel
theorem dL_law_1470 : decode cL_law 1470 = .ok (.iconst 0, 1) := by decide +kernel
theorem dL_law_1471 : decode cL_law 1471 = .ok (.ireturn, 1) := by decide +kernel
theorem dL_law_1472 : decode cL_law 1472 = .ok (.goto 74, 3) := by decide +kernel
theorem dL_law_1475 : decode cL_law 1475 = .ok (.aload_n 1, 1) := by decide +kernel
theorem dL_law_1476 : decode cL_law 1476 = .ok (.aload_n 3, 1) := by decide +kernel
theorem dL_law_1477 : decode cL_law 1477 = .ok (.invokestatic 181, 3) := by decide +kernel
theorem dL_law_1480 : decode cL_law 1480 = .ok (.istore 5, 2) := by decide +kernel
theorem dL_law_1482 : decode cL_law 1482 = .ok (.aload_n 2, 1) := by decide +kernel
theorem dL_law_1483 : decode cL_law 1483 = .ok (.invokevirtual 183, 3) := by decide +kernel
theorem dL_law_1486 : decode cL_law 1486 = .ok (.istore 6, 2) := by decide +kernel
theorem dL_law_1488 : decode cL_law 1488 = .ok (.aload_n 2, 1) := by decide +kernel
theorem dL_law_1489 : decode cL_law 1489 = .ok (.invokevirtual 87, 3) := by decide +kernel
theorem dL_law_1492 : decode cL_law 1492 = .ok (.iload 5, 2) := by decide +kernel
theorem dL_law_1494 : decode cL_law 1494 = .ok (.if_icmp .eq 5, 3) := by decide +kernel
theorem dL_law_1497 : decode cL_law 1497 = .ok (.iconst 0, 1) := by decide +kernel
theorem dL_law_1498 : decode cL_law 1498 = .ok (.ireturn, 1) := by decide +kernel
theorem dL_law_1499 : decode cL_law 1499 = .ok (.iload 5, 2) := by decide +kernel
theorem dL_law_1501 : decode cL_law 1501 = .ok (.ifCond .ne 15, 3) := by decide +kernel
theorem dL_law_1504 : decode cL_law 1504 = .ok (.aload_n 3, 1) := by decide +kernel
theorem dL_law_1505 : decode cL_law 1505 = .ok (.iconst 0, 1) := by decide +kernel
theorem dL_law_1506 : decode cL_law 1506 = .ok (.laload, 1) := by decide +kernel
theorem dL_law_1507 : decode cL_law 1507 = .ok (.iload 6, 2) := by decide +kernel
theorem dL_law_1509 : decode cL_law 1509 = .ok (.i2l, 1) := by decide +kernel
theorem dL_law_1510 : decode cL_law 1510 = .ok (.lcmp, 1) := by decide +kernel
theorem dL_law_1511 : decode cL_law 1511 = .ok (.ifCond .eq 5, 3) := by decide +kernel
theorem dL_law_1514 : decode cL_law 1514 = .ok (.iconst 0, 1) := by decide +kernel
theorem dL_law_1515 : decode cL_law 1515 = .ok (.ireturn, 1) := by decide +kernel
theorem dL_law_1516 : decode cL_law 1516 = .ok (.goto 30, 3) := by decide +kernel
theorem dL_law_1519 : decode cL_law 1519 = .ok (.aload_n 1, 1) := by decide +kernel
theorem dL_law_1520 : decode cL_law 1520 = .ok (.invokevirtual 184, 3) := by decide +kernel
theorem dL_law_1523 : decode cL_law 1523 = .ok (.aload_n 2, 1) := by decide +kernel
theorem dL_law_1524 : decode cL_law 1524 = .ok (.invokevirtual 187, 3) := by decide +kernel
theorem dL_law_1527 : decode cL_law 1527 = .ok (.if_icmp .eq 19, 3) := by decide +kernel
theorem dL_law_1530 : decode cL_law 1530 = .ok (.iconst 0, 1) := by decide +kernel
theorem dL_law_1531 : decode cL_law 1531 = .ok (.ireturn, 1) := by decide +kernel
theorem dL_law_1532 : decode cL_law 1532 = .ok (.aload_n 1, 1) := by decide +kernel
theorem dL_law_1533 : decode cL_law 1533 = .ok (.invokevirtual 188, 3) := by decide +kernel
theorem dL_law_1536 : decode cL_law 1536 = .ok (.aload_n 2, 1) := by decide +kernel
theorem dL_law_1537 : decode cL_law 1537 = .ok (.invokevirtual 192, 3) := by decide +kernel
theorem dL_law_1540 : decode cL_law 1540 = .ok (.lcmp, 1) := by decide +kernel
theorem dL_law_1541 : decode cL_law 1541 = .ok (.ifCond .eq 5, 3) := by decide +kernel
theorem dL_law_1544 : decode cL_law 1544 = .ok (.iconst 0, 1) := by decide +kernel
theorem dL_law_1545 : decode cL_law 1545 = .ok (.ireturn, 1) := by decide +kernel
theorem dL_law_1546 : decode cL_law 1546 = .ok (.iinc 4 4, 3) := by decide +kernel
theorem dL_law_1549 : decode cL_law 1549 = .ok (.goto (-1526), 3) := by decide +kernel
theorem dL_law_1552 : decode cL_law 1552 = .ok (.iconst 1, 1) := by decide +kernel
theorem dL_law_1553 : decode cL_law 1553 = .ok (.ireturn, 1) := by decide +kernel
end
section
/-! states of the class and of the reference, their cells, contracts and rows -/
abbrev HSt : Type := (Nat → Int32) × (Nat → Int32) × (Nat → Int32) × Int32 × Int32 × Int32 × Int32 × Int32 × Int32 × Int32 × Int32 × Int32
abbrev hL (x : HSt) : Nat → Int32 := x.1
abbrev hR (x : HSt) : Nat → Int32 := x.2.1
abbrev hC (x : HSt) : Nat → Int32 := x.2.2.1
abbrev hop (x : HSt) : Int32 := x.2.2.2.1
abbrev hqk (x : HSt) : Int32 := x.2.2.2.2.1
abbrev hf1 (x : HSt) : Int32 := x.2.2.2.2.2.1
abbrev hf2 (x : HSt) : Int32 := x.2.2.2.2.2.2.1
abbrev hfd (x : HSt) : Int32 := x.2.2.2.2.2.2.2.1
abbrev hpt (x : HSt) : Int32 := x.2.2.2.2.2.2.2.2.1
abbrev has (x : HSt) : Int32 := x.2.2.2.2.2.2.2.2.2.1
abbrev hmn (x : HSt) : Int32 := x.2.2.2.2.2.2.2.2.2.2.1
abbrev hsn (x : HSt) : Int32 := x.2.2.2.2.2.2.2.2.2.2.2
abbrev sHL (x : HSt) (v : Nat → Int32) : HSt := (v, x.2)
abbrev sHR (x : HSt) (v : Nat → Int32) : HSt := (x.1, v, x.2.2)
abbrev sHC (x : HSt) (v : Nat → Int32) : HSt := (x.1, x.2.1, v, x.2.2.2)
abbrev sHop (x : HSt) (v : Int32) : HSt := (x.1, x.2.1, x.2.2.1, v, x.2.2.2.2)
abbrev sHqk (x : HSt) (v : Int32) : HSt := (x.1, x.2.1, x.2.2.1, x.2.2.2.1, v, x.2.2.2.2.2)
abbrev sHf1 (x : HSt) (v : Int32) : HSt := (x.1, x.2.1, x.2.2.1, x.2.2.2.1, x.2.2.2.2.1, v, x.2.2.2.2.2.2)
abbrev sHf2 (x : HSt) (v : Int32) : HSt := (x.1, x.2.1, x.2.2.1, x.2.2.2.1, x.2.2.2.2.1, x.2.2.2.2.2.1, v, x.2.2.2.2.2.2.2)
abbrev sHfd (x : HSt) (v : Int32) : HSt := (x.1, x.2.1, x.2.2.1, x.2.2.2.1, x.2.2.2.2.1, x.2.2.2.2.2.1, x.2.2.2.2.2.2.1, v, x.2.2.2.2.2.2.2.2)
abbrev sHpt (x : HSt) (v : Int32) : HSt := (x.1, x.2.1, x.2.2.1, x.2.2.2.1, x.2.2.2.2.1, x.2.2.2.2.2.1, x.2.2.2.2.2.2.1, x.2.2.2.2.2.2.2.1, v, x.2.2.2.2.2.2.2.2.2)
abbrev sHas (x : HSt) (v : Int32) : HSt := (x.1, x.2.1, x.2.2.1, x.2.2.2.1, x.2.2.2.2.1, x.2.2.2.2.2.1, x.2.2.2.2.2.2.1, x.2.2.2.2.2.2.2.1, x.2.2.2.2.2.2.2.2.1, v, x.2.2.2.2.2.2.2.2.2.2)
abbrev sHmn (x : HSt) (v : Int32) : HSt := (x.1, x.2.1, x.2.2.1, x.2.2.2.1, x.2.2.2.2.1, x.2.2.2.2.2.1, x.2.2.2.2.2.2.1, x.2.2.2.2.2.2.2.1, x.2.2.2.2.2.2.2.2.1, x.2.2.2.2.2.2.2.2.2.1, v, x.2.2.2.2.2.2.2.2.2.2.2)
abbrev sHsn (x : HSt) (v : Int32) : HSt := (x.1, x.2.1, x.2.2.1, x.2.2.2.1, x.2.2.2.2.1, x.2.2.2.2.2.1, x.2.2.2.2.2.2.1, x.2.2.2.2.2.2.2.1, x.2.2.2.2.2.2.2.2.1, x.2.2.2.2.2.2.2.2.2.1, x.2.2.2.2.2.2.2.2.2.2.1, v)
abbrev MSt : Type := Int32 × (Nat → Int32) × (Nat → Int32) × (Nat → Int32) × Int32 × (Nat → Int32) × Int32 × Int32 × Int32 × (Nat → Int32) × Int32 × Int64
abbrev mth (x : MSt) : Int32 := x.1
abbrev ms (x : MSt) : Nat → Int32 := x.2.1
abbrev mas (x : MSt) : Nat → Int32 := x.2.2.1
abbrev msv (x : MSt) : Nat → Int32 := x.2.2.2.1
abbrev msm (x : MSt) : Int32 := x.2.2.2.2.1
abbrev mbf (x : MSt) : Nat → Int32 := x.2.2.2.2.2.1
abbrev mln (x : MSt) : Int32 := x.2.2.2.2.2.2.1
abbrev mat (x : MSt) : Int32 := x.2.2.2.2.2.2.2.1
abbrev miw (x : MSt) : Int32 := x.2.2.2.2.2.2.2.2.1
abbrev mrd (x : MSt) : Nat → Int32 := x.2.2.2.2.2.2.2.2.2.1
abbrev mrm (x : MSt) : Int32 := x.2.2.2.2.2.2.2.2.2.2.1
abbrev mhs (x : MSt) : Int64 := x.2.2.2.2.2.2.2.2.2.2.2
abbrev sMth (x : MSt) (v : Int32) : MSt := (v, x.2)
abbrev sMs (x : MSt) (v : Nat → Int32) : MSt := (x.1, v, x.2.2)
abbrev sMas (x : MSt) (v : Nat → Int32) : MSt := (x.1, x.2.1, v, x.2.2.2)
abbrev sMsv (x : MSt) (v : Nat → Int32) : MSt := (x.1, x.2.1, x.2.2.1, v, x.2.2.2.2)
abbrev sMsm (x : MSt) (v : Int32) : MSt := (x.1, x.2.1, x.2.2.1, x.2.2.2.1, v, x.2.2.2.2.2)
abbrev sMbf (x : MSt) (v : Nat → Int32) : MSt := (x.1, x.2.1, x.2.2.1, x.2.2.2.1, x.2.2.2.2.1, v, x.2.2.2.2.2.2)
abbrev sMln (x : MSt) (v : Int32) : MSt := (x.1, x.2.1, x.2.2.1, x.2.2.2.1, x.2.2.2.2.1, x.2.2.2.2.2.1, v, x.2.2.2.2.2.2.2)
abbrev sMat (x : MSt) (v : Int32) : MSt := (x.1, x.2.1, x.2.2.1, x.2.2.2.1, x.2.2.2.2.1, x.2.2.2.2.2.1, x.2.2.2.2.2.2.1, v, x.2.2.2.2.2.2.2.2)
abbrev sMiw (x : MSt) (v : Int32) : MSt := (x.1, x.2.1, x.2.2.1, x.2.2.2.1, x.2.2.2.2.1, x.2.2.2.2.2.1, x.2.2.2.2.2.2.1, x.2.2.2.2.2.2.2.1, v, x.2.2.2.2.2.2.2.2.2)
abbrev sMrd (x : MSt) (v : Nat → Int32) : MSt := (x.1, x.2.1, x.2.2.1, x.2.2.2.1, x.2.2.2.2.1, x.2.2.2.2.2.1, x.2.2.2.2.2.2.1, x.2.2.2.2.2.2.2.1, x.2.2.2.2.2.2.2.2.1, v, x.2.2.2.2.2.2.2.2.2.2)
abbrev sMrm (x : MSt) (v : Int32) : MSt := (x.1, x.2.1, x.2.2.1, x.2.2.2.1, x.2.2.2.2.1, x.2.2.2.2.2.1, x.2.2.2.2.2.2.1, x.2.2.2.2.2.2.2.1, x.2.2.2.2.2.2.2.2.1, x.2.2.2.2.2.2.2.2.2.1, v, x.2.2.2.2.2.2.2.2.2.2.2)
abbrev sMhs (x : MSt) (v : Int64) : MSt := (x.1, x.2.1, x.2.2.1, x.2.2.2.1, x.2.2.2.2.1, x.2.2.2.2.2.1, x.2.2.2.2.2.2.1, x.2.2.2.2.2.2.2.1, x.2.2.2.2.2.2.2.2.1, x.2.2.2.2.2.2.2.2.2.1, x.2.2.2.2.2.2.2.2.2.2.1, v)
abbrev TSt : Type := (Nat → Int32) × Int32
abbrev tsg (x : TSt) : Nat → Int32 := x.1
abbrev tln (x : TSt) : Int32 := x.2
abbrev sTsg (x : TSt) (v : Nat → Int32) : TSt := (v, x.2)
abbrev sTln (x : TSt) (v : Int32) : TSt := (x.1, v)
abbrev KSt : Type := Int32 × Int32
abbrev kod (x : KSt) : Int32 := x.1
abbrev ksz (x : KSt) : Int32 := x.2
abbrev sKod (x : KSt) (v : Int32) : KSt := (v, x.2)
abbrev sKsz (x : KSt) (v : Int32) : KSt := (x.1, v)
abbrev kG : Type := va_G × ClassId × ClassId × ClassId × ClassId
/-- a hall's cells -/
abbrev wH (g : kG) (a : Nat → Nat) (h : HSt) : va_W := [(a 0, .inr (1, [.ref (a 1), .ref (a 2), .ref (a 3), .int (hop h), .int (hqk h), .int (hf1 h), .int (hf2 h), .int (hfd h), .int (hpt h), .int (has h), .int (hmn h), .int (hsn h)])), (a 1, .inl (g.2.1, 48, .inl (hL h))), (a 2, .inl (g.2.1, 48, .inl (hR h))), (a 3, .inl (g.2.1, 6, .inl (hC h)))]
/-- the buffer's cells: its signs, its length -/
abbrev wT (g : kG) (a : Nat → Nat) (t : TSt) : va_W := [(a 0, .inr (0, [.ref (a 1), .int (tln t)])), (a 1, .inl (g.2.2.1, 60, .inl (tsg t)))]
/-- n halls -/
def wHs (g : kG) (ak : Nat → Nat → Nat) (hs : Nat → HSt) : Nat → va_W
  | 0 => []
  | n + 1 => wH g (ak n) (hs n) ++ wHs g ak hs n
/-- the ring of halls: oldest, size -/
abbrev wK0 (g : kG) (a : Nat → Nat) (ak : Nat → Nat → Nat) (k : KSt) : va_W := [(a 0, .inr (2, [.ref (a 1), .int (kod k), .int (ksz k)])), (a 1, .inl (g.2.2.2.1, 6, .inr (.inr (.inr (.inr (fun i => some (ak i 0)))))))]
/-- the reference's cells -/
abbrev wM (g : kG) (a : Nat → Nat) (m : MSt) : va_W := [(a 0, .inr (4, [.int (mth m), .ref (a 1), .ref (a 2), .ref (a 3), .int (msm m), .ref (a 4), .int (mln m), .int (mat m), .int (miw m), .ref (a 5), .int (mrm m), .long (mhs m)])), (a 1, .inl (g.2.1, 120, .inl (ms m))), (a 2, .inl (g.2.1, 120, .inl (mas m))), (a 3, .inl (g.2.1, 720, .inl (msv m))), (a 4, .inl (g.2.1, 60, .inl (mbf m))), (a 5, .inl (g.2.1, 96, .inl (mrd m)))]
/-- the usher's own cell -/
abbrev wU (u h k t : Nat) : va_W := [(u, .inr (3, [.ref h, .ref k, .ref t]))]
/-- a row of longs -/
abbrev wO (g : kG) (a : Nat) (f : Nat → Int64) : va_W := [(a, .inl (g.2.2.2.2, 1, .inr (.inl f)))]
def tyS (g : kG) : List (ClassId × FieldType) := [(g.2.1, .int), (g.2.2.1, .char), (g.2.2.2.1, .object RX1), (g.2.2.2.2, .long)]
def nk0 : Cond := .methodLinkNest RX1 70 yX3_placeOf RX3
def nk1 : Cond := .methodLinkNest RX2 24 yX1_init RX3
def nk2 : Cond := .methodLinkNest RX3 11 yX1_init RX3
def nk3 : Cond := .methodLinkNest RX3 25 yX0_init RX3
/-- what is known of the tables -/
def kE (g : kG) (U : State) : Prop := va_K g.1 vwCl (tyS g) U ∧ (va_Nw nk0 U ∧ va_Nw nk1 U ∧ va_Nw nk2 U ∧ va_Nw nk3 U) ∧ va_AO RX1 U
theorem kE.same {g : kG} {u U : State} (hv : u.vm = U.vm) (h : kE g u) : kE g U := ⟨va_K.moved (by rw [hv]; exact Vm.Alike.refl _) h.1, ⟨va_Nw.same rfl hv h.2.1.1, va_Nw.same rfl hv h.2.1.2.1, va_Nw.same rfl hv h.2.1.2.2.1, va_Nw.same rfl hv h.2.1.2.2.2⟩, va_AO.moved (by rw [hv]; exact Vm.Alike.refl _) h.2.2⟩
theorem kE.warm {g : kG} {s U : State} (hW : s.WarmedH U.vm) (h : kE g s) : kE g U := ⟨va_K.moved hW.alike h.1, ⟨va_Nw.warmM hW h.2.1.1, va_Nw.warmM hW h.2.1.2.1, va_Nw.warmM hW h.2.1.2.2.1, va_Nw.warmM hW h.2.1.2.2.2⟩, va_AO.moved hW.alike h.2.2⟩
def kPre (g : kG) (av : List Value) (w0 : va_W) (sz : Nat) : Array Value → State → Prop := va_Pc av (fun U => U.heap.size = sz ∧ va_P g.1 vwCl w0 U.heap ∧ va_D (fun _ => True) w0 ∧ kE g U)
theorem kPre.blind {g : kG} {av : List Value} {w0 : va_W} {sz : Nat} : FrameBlind (kPre g av w0 sz) := fun _ U _ _ q => ⟨q.1, q.2.1, q.2.2.1, q.2.2.2.1, kE.same (u := U) rfl q.2.2.2.2⟩
def kW (g : kG) (w1 : va_W) (A : Nat → Prop) (t : State) : Prop := va_P g.1 vwCl w1 t.heap ∧ va_D A w1
def kQi (g : kG) (r : Int32) (w1 : va_W) (A : Nat → Prop) : Array Value → State → Outcome → State → Prop := va_Qi (fun (x : Int32) (_ : Unit) => x = r) (fun _ t => kW g w1 A t) A
def kQl (g : kG) (r : Int64) (w1 : va_W) (A : Nat → Prop) : Array Value → State → Outcome → State → Prop := va_Ql (fun (x : Int64) (_ : Unit) => x = r) (fun _ t => kW g w1 A t) A
def kQd (g : kG) (r : UInt64) (w1 : va_W) (A : Nat → Prop) : Array Value → State → Outcome → State → Prop := va_Qd (fun (x : UInt64) (_ : Unit) => x = r) (fun _ t => kW g w1 A t) A
def kQv (g : kG) (w1 : va_W) (A : Nat → Prop) : Array Value → State → Outcome → State → Prop := va_Qv (fun (_ : Unit) => True) (fun _ t => kW g w1 A t) A
def kQn {S : Type} (g : kG) (ok : S → Prop) (w1 : S → va_W) (A : Nat → Prop) : Array Value → State → Outcome → State → Prop := va_Qv ok (fun u t => kW g (w1 u) A t) A
/-- contracts: from the cells w0, with the values av, comes the answer r and the cells w1 -/
def KI (l : Launch) (y : MethodName) (ws : List Cond) (rm : Room) (g : kG) (av : List Value) (w0 : va_W) (r : Int32) (w1 : va_W) (mc mz : Nat) : Prop := ∀ sz, Met l y ws rm (kPre g av w0 sz) (kQi g r w1 (va_A w0 sz)) mc mz (va_A w0 sz)
def KL (l : Launch) (y : MethodName) (ws : List Cond) (rm : Room) (g : kG) (av : List Value) (w0 : va_W) (r : Int64) (w1 : va_W) (mc mz : Nat) : Prop := ∀ sz, Met l y ws rm (kPre g av w0 sz) (kQl g r w1 (va_A w0 sz)) mc mz (va_A w0 sz)
def KD (l : Launch) (y : MethodName) (ws : List Cond) (rm : Room) (g : kG) (av : List Value) (w0 : va_W) (r : UInt64) (w1 : va_W) (mc mz : Nat) : Prop := ∀ sz, Met l y ws rm (kPre g av w0 sz) (kQd g r w1 (va_A w0 sz)) mc mz (va_A w0 sz)
def KV (l : Launch) (y : MethodName) (ws : List Cond) (rm : Room) (g : kG) (av : List Value) (w0 : va_W) (w1 : va_W) (mc mz : Nat) : Prop := ∀ sz, Met l y ws rm (kPre g av w0 sz) (kQv g w1 (va_A w0 sz)) mc mz (va_A w0 sz)
def KN (l : Launch) (y : MethodName) (ws : List Cond) (rm : Room) (g : kG) (av : List Value) (w0 : va_W) {S : Type} (ok : S → Prop) (w1 : S → va_W) (mc mz : Nat) : Prop := ∀ sz, Met l y ws rm (kPre g av w0 sz) (kQn g ok w1 (va_A w0 sz)) mc mz (va_A w0 sz)
/-- a method's entry -/
theorem k_begin {l : Launch} {y : MethodName} {ws ws' : List Cond} {rm : Room} {g : kG} {av : List Value} {w0 : va_W} {Qc : (Nat → Prop) → Array Value → State → Outcome → State → Prop} {mc mz : Nat} {cc : ByteArray} {maxL : Nat} {ret : Option FieldType} (hy : plainName y.cls = true) (hw : ws = Cond.code y cc maxL ret :: ws') (hlen : (lg_sl av).length ≤ maxL)
    (body : ∀ (p : Program) (e : Env) (s : State) (m : MethodId) (below : List Frame) (meth : Method) (c : Code) (A : Nat → Prop) (ls : Array Slot), CallFix p m c cc maxL s av.toArray ws y.cls → meth.sig.returnType = ret → meth.locks = false → meth.name = y.name → kE g s → va_P g.1 vwCl w0 s.heap → va_D A w0 → va_S A s.heap s.heap [] → (∀ q : Nat, s.heap.size ≤ q → A q) → lv_has ls maxL (lv_args 0 av) →
      W p l e rm s m av.toArray below meth c s.heap [] 0 0 (MQ below (Qc A) av.toArray s mc mz A) (F0 m 0 ls [])) : ∀ sz, Met l y ws rm (kPre g av w0 sz) (Qc (va_A w0 sz)) mc mz (va_A w0 sz) := by
  intro sz
  refine Met.ofW (cc := cc) (maxL := maxL) (ret := ret) hy hw ?_
  intro p e s m args below meth c s₁ B hml hv
  obtain ⟨rfl, hsz, hP, hD0, hE⟩ := hv
  subst hsz
  have hl := lv_entry av (n := maxL) hlen
  rw [lg_entry_eq]
  exact body p e s m below meth c (va_A w0 s.heap.size) _ ⟨B.exec, B.bytes, hml, findClass_of_methodNamed B.named, atoms_spec (ws := ws) B.pre⟩ B.returns B.notSynchronized (name_of_methodNamed B.named B.method).1 hE hP hD0.self va_S.rf (fun q h => Or.inr h) hl
theorem k_P_mem {D : va_G} {cl : List vw_C} {ws : va_W} {H : Heap} : va_P D cl ws H ↔ ∀ q ∈ ws, va_at D cl q H :=
  ⟨fun h q hq => by obtain ⟨k, hk⟩ := List.mem_iff_getElem?.mp hq; exact h k q hk, fun h k q hk => h q (List.mem_of_getElem? hk)⟩
theorem k_P_perm {D : va_G} {cl : List vw_C} {ws w2 : va_W} {H : Heap} (hp : ws.Perm w2) (h : va_P D cl ws H) : va_P D cl w2 H := k_P_mem.mpr fun q hq => k_P_mem.mp h q (hp.mem_iff.mpr hq)
theorem k_P_app {D : va_G} {cl : List vw_C} {w1 w2 : va_W} {H : Heap} : va_P D cl (w1 ++ w2) H ↔ va_P D cl w1 H ∧ va_P D cl w2 H := by
  simp only [k_P_mem, List.mem_append]
  exact ⟨fun h => ⟨fun q hq => h q (Or.inl hq), fun q hq => h q (Or.inr hq)⟩, fun h q hq => hq.elim (h.1 q) (h.2 q)⟩
theorem k_D_iff {A : Nat → Prop} {ws : va_W} : va_D A ws ↔ (ws.map (fun q => q.1)).Nodup ∧ ∀ q ∈ ws, A q.1 := by
  constructor
  · intro h
    refine ⟨?_, fun q hq => ?_⟩
    · refine List.pairwise_iff_getElem.mpr fun i j hi hj hij he => ?_
      rw [List.length_map] at hi hj
      rw [List.getElem_map, List.getElem_map] at he
      have := h.1 i j _ _ (List.getElem?_eq_getElem hi) (List.getElem?_eq_getElem hj) he
      omega
    · obtain ⟨k, hk⟩ := List.mem_iff_getElem?.mp hq
      exact h.2 k q hk
  · intro h
    refine ⟨fun i j p q hp hq he => ?_, fun k q hq => h.2 q (List.mem_of_getElem? hq)⟩
    have hn := List.pairwise_iff_getElem.mp h.1
    obtain ⟨hi, hi2⟩ := List.getElem?_eq_some_iff.mp hp
    obtain ⟨hj, hj2⟩ := List.getElem?_eq_some_iff.mp hq
    rcases Nat.lt_trichotomy i j with hij | hij | hij
    · exact absurd (by rw [List.getElem_map, List.getElem_map, hi2, hj2]; exact he) (hn i j (by rw [List.length_map]; exact hi) (by rw [List.length_map]; exact hj) hij)
    · exact hij
    · exact absurd (by rw [List.getElem_map, List.getElem_map, hi2, hj2]; exact he.symm) (hn j i (by rw [List.length_map]; exact hj) (by rw [List.length_map]; exact hi) hij)
theorem k_D_perm {A : Nat → Prop} {ws w2 : va_W} (hp : ws.Perm w2) (h : va_D A ws) : va_D A w2 := by
  rw [k_D_iff] at h ⊢
  exact ⟨(hp.map _).nodup_iff.mp h.1, fun q hq => h.2 q (hp.mem_iff.mpr hq)⟩
theorem k_D_left {A : Nat → Prop} {w1 w2 : va_W} (h : va_D A (w1 ++ w2)) : va_D A w1 := by
  rw [k_D_iff] at h ⊢
  rw [List.map_append, List.nodup_append] at h
  exact ⟨h.1.1, fun q hq => h.2 q (List.mem_append_left _ hq)⟩
theorem k_A_mem {ws : va_W} {sz q : Nat} : va_A ws sz q ↔ (∃ x ∈ ws, x.1 = q) ∨ sz ≤ q := by
  constructor
  · rintro (⟨k, e, h⟩ | h)
    · exact Or.inl ⟨_, List.mem_of_getElem? h, rfl⟩
    · exact Or.inr h
  · rintro (⟨x, hx, rfl⟩ | h)
    · obtain ⟨k, hk⟩ := List.mem_iff_getElem?.mp hx
      exact Or.inl ⟨k, x.2, hk⟩
    · exact Or.inr h
/-- behind a call: the callee's cells and the rest, which is unchanged -/
theorem k_pall (w : va_W) : w.Perm (w ++ []) := by rw [List.append_nil]
theorem k_join {A : Nat → Prop} {D : va_G} {cl : List vw_C} {ws w0 wr w1 ws1 : va_W} {H0 H H1 : Heap} {locs : List Loc} (hP : va_P D cl ws H) (hD : va_D A ws) (hS : va_S A H0 H locs) (hA : ∀ q : Nat, H0.size ≤ q → A q) (hp : ws.Perm (w0 ++ wr)) (hq : (w1 ++ wr).Perm ws1)
    (hk : ∀ q : Nat, q < H.size → ¬ va_A w0 H.size q → H1[q]? = H[q]?) (hP1 : va_P D cl w1 H1) (hD1 : va_D (va_A w0 H.size) w1) : va_P D cl ws1 H1 ∧ va_D A ws1 := by
  have hP2 := k_P_perm hp hP
  have hD2 := k_D_perm hp hD
  have hPr := (k_P_app.mp hP2).2
  have hlt : ∀ q ∈ wr, q.1 < H.size := fun q hq => (k_P_mem.mp hPr q hq).lt
  have hD2' := k_D_iff.mp hD2
  rw [List.map_append, List.nodup_append] at hD2'
  have hnot : ∀ q ∈ wr, ¬ va_A w0 H.size q.1 := by
    intro q hq hz
    rcases k_A_mem.mp hz with ⟨x, hx, he⟩ | h
    · exact hD2'.1.2.2 _ (List.mem_map_of_mem hx) _ (List.mem_map_of_mem hq) he
    · exact absurd (hlt q hq) (Nat.not_lt.mpr h)
  refine ⟨k_P_perm hq (k_P_app.mpr ⟨hP1, k_P_mem.mpr fun q hq => (k_P_mem.mp hPr q hq).kept (hk q.1 (hlt q hq) (hnot q hq))⟩), k_D_perm hq ?_⟩
  rw [k_D_iff, List.map_append, List.nodup_append]
  have hD1' := k_D_iff.mp hD1
  refine ⟨⟨hD1'.1, hD2'.1.2.1, ?_⟩, fun q hq => ?_⟩
  · intro a ha b hb he
    obtain ⟨x, hx, rfl⟩ := List.mem_map.mp ha
    obtain ⟨z, hz, rfl⟩ := List.mem_map.mp hb
    exact hnot z hz (he ▸ hD1'.2 x hx)
  · rcases List.mem_append.mp hq with h | h
    · rcases k_A_mem.mp (hD1'.2 q h) with ⟨x, hx, he⟩ | h2
      · rw [← he]; exact hD2'.2 x (List.mem_append_left _ hx)
      · exact hA _ (Nat.le_trans hS.1 h2)
    · exact hD2'.2 q (List.mem_append_right _ h)
theorem k_free {A : Nat → Prop} {ws w0 wr : va_W} {H0 H : Heap} {locs : List Loc} (hD : va_D A ws) (hS : va_S A H0 H locs) (hA : ∀ q : Nat, H0.size ≤ q → A q) (hp : ws.Perm (w0 ++ wr)) : ∀ q, va_A w0 H.size q → A q := by
  intro q hq
  rcases k_A_mem.mp hq with ⟨x, hx, he⟩ | h
  · rw [← he]; exact (k_D_iff.mp (k_D_perm hp hD)).2 x (List.mem_append_left _ hx)
  · exact hA _ (Nat.le_trans hS.1 h)
theorem k_at_ext {D : va_G} {cl : List vw_C} {q n : Nat} {cA : ClassId} {f f2 : Nat → Int32} {H : Heap} (hf : ∀ k, k < n → f k = f2 k) (h : va_at D cl (q, .inl (cA, n, .inl f)) H) : va_at D cl (q, .inl (cA, n, .inl f2)) H := by
  have e : arrV cA n (fun j => .int (f j)) = arrV cA n (fun j => .int (f2 j)) := by
    have h9 : (fun j : Fin n => (fun j => Value.int (f j)) j.val) = (fun j : Fin n => (fun j => Value.int (f2 j)) j.val) := funext fun j => congrArg Value.int (hf j.val j.isLt)
    exact congrArg (fun z => ({ cls := cA, slots := Array.ofFn z, vm := .none } : Cell)) h9
  show H[q]? = some (arrV cA n (fun j => .int (f2 j)))
  rw [← e]
  exact h
section KR
variable {p : Program} {l : Launch} {e : Env} {R : Room} {s : State} {m : MethodId} {args : Array Value} {below : List Frame} {meth : Method} {c : Code} {H : Heap} {locs : List Loc} {cells slots : Nat} {Q : State → Prop}
variable {cc : ByteArray} {pc : Nat} {ls : Array Slot} {rest st0 : List Value} {g : kG} {A : Nat → Prop} {a : Nat} {ws wr w0 w1 ws1 : va_W}
theorem k_top {x y : Int32} (h : x = y) (k : W p l e R s m args below meth c H locs cells slots Q (F0 m pc ls (.int y :: rest))) : W p l e R s m args below meth c H locs cells slots Q (F0 m pc ls (.int x :: rest)) := by rw [h]; exact k
theorem k_topl {x y : Int64} (h : x = y) (k : W p l e R s m args below meth c H locs cells slots Q (F0 m pc ls (.long y :: rest))) : W p l e R s m args below meth c H locs cells slots Q (F0 m pc ls (.long x :: rest)) := by rw [h]; exact k
theorem k_meet {x : Value} {pj : Nat} (f : W p l e R s m args below meth c H locs cells slots Q (F0 m pj ls (x :: rest)) → W p l e R s m args below meth c H locs cells slots Q (F0 m pc ls st0)) (k : W p l e R s m args below meth c H locs cells slots Q (F0 m pj ls (x :: rest))) : W p l e R s m args below meth c H locs cells slots Q (F0 m pc ls st0) := f k
/-- an answer 0 or 1 -/
def bI (P : Prop) [Decidable P] : Int32 := if P then nI 1 else nI 0
theorem bI_t {P : Prop} [Decidable P] (h : P) : bI P = nI 1 := if_pos h
theorem bI_f {P : Prop} [Decidable P] (h : ¬ P) : bI P = nI 0 := if_neg h
theorem bI_ne {P : Prop} [Decidable P] : ¬ bI P = 0 ↔ P := by
  by_cases h : P
  · rw [bI_t h]; exact ⟨fun _ => h, fun _ => by decide⟩
  · rw [bI_f h]; exact ⟨fun z => absurd (by decide) z, fun z => absurd z h⟩
theorem bI_eq {P : Prop} [Decidable P] : bI P = 0 ↔ ¬ P := by
  by_cases h : P
  · rw [bI_t h]; exact ⟨fun z => absurd z (by decide), fun z => absurd h z⟩
  · rw [bI_f h]; exact ⟨fun _ => h, fun _ => by decide⟩
theorem bI_nar {P : Prop} [Decidable P] : narrow .boolean (.int (bI P)) = .int (bI P) := by
  by_cases h : P
  · rw [bI_t h]; rfl
  · rw [bI_f h]; rfl
theorem bI_fits {P : Prop} [Decidable P] : fits .boolean (.int (bI P)) = true := by
  by_cases h : P
  · rw [bI_t h]; rfl
  · rw [bI_f h]; rfl
theorem k_ifeqB {P : Prop} [Decidable P] (hx : p.tables.exec = Jvm.exec) (hb : c.code = cc) {off : Int} {tgt : Nat} (hdg : decode cc pc = .ok (.ifCond .eq off, 3)) (ht : (pc : Int) + off = (tgt : Int)) (kt : ¬ P → W p l e R s m args below meth c H locs cells slots Q (F0 m tgt ls rest)) (kf : P → W p l e R s m args below meth c H locs cells slots Q (F0 m (pc + 3) ls rest)) : W p l e R s m args below meth c H locs cells slots Q (F0 m pc ls (.int (bI P) :: rest)) :=
  lv_if_eq hx hb hdg ht (fun h => kt (bI_eq.mp h)) (fun h => kf (bI_ne.mp h))
theorem k_ifneB {P : Prop} [Decidable P] (hx : p.tables.exec = Jvm.exec) (hb : c.code = cc) {off : Int} {tgt : Nat} (hdg : decode cc pc = .ok (.ifCond .ne off, 3)) (ht : (pc : Int) + off = (tgt : Int)) (kt : P → W p l e R s m args below meth c H locs cells slots Q (F0 m tgt ls rest)) (kf : ¬ P → W p l e R s m args below meth c H locs cells slots Q (F0 m (pc + 3) ls rest)) : W p l e R s m args below meth c H locs cells slots Q (F0 m pc ls (.int (bI P) :: rest)) :=
  lv_if_ne hx hb hdg ht (fun h => kt (bI_ne.mp h)) (fun h => kf (bI_eq.mp h))
theorem k_geN (hx : p.tables.exec = Jvm.exec) (hb : c.code = cc) {x y : Nat} (bx : x < 2 ^ 31) (by_ : y < 2 ^ 31) {off : Int} {tgt : Nat} (hdg : decode cc pc = .ok (.if_icmp .ge off, 3)) (ht : (pc : Int) + off = (tgt : Int)) (kt : y ≤ x → W p l e R s m args below meth c H locs cells slots Q (F0 m tgt ls rest)) (kf : x < y → W p l e R s m args below meth c H locs cells slots Q (F0 m (pc + 3) ls rest)) : W p l e R s m args below meth c H locs cells slots Q (F0 m pc ls (.int (nI y) :: .int (nI x) :: rest)) :=
  lv_icmp_ge hx hb hdg ht (fun h => kt ((nI_leI by_ bx).mp h)) (fun h => kf (Nat.lt_of_not_le fun z => h ((nI_leI by_ bx).mpr z)))
theorem k_ltN (hx : p.tables.exec = Jvm.exec) (hb : c.code = cc) {x y : Nat} (bx : x < 2 ^ 31) (by_ : y < 2 ^ 31) {off : Int} {tgt : Nat} (hdg : decode cc pc = .ok (.if_icmp .lt off, 3)) (ht : (pc : Int) + off = (tgt : Int)) (kt : x < y → W p l e R s m args below meth c H locs cells slots Q (F0 m tgt ls rest)) (kf : y ≤ x → W p l e R s m args below meth c H locs cells slots Q (F0 m (pc + 3) ls rest)) : W p l e R s m args below meth c H locs cells slots Q (F0 m pc ls (.int (nI y) :: .int (nI x) :: rest)) :=
  lv_icmp_lt hx hb hdg ht (fun h => kt ((nI_ltI bx by_).mp h)) (fun h => kf (Nat.le_of_not_lt fun z => h ((nI_ltI bx by_).mpr z)))
theorem k_gtN (hx : p.tables.exec = Jvm.exec) (hb : c.code = cc) {x y : Nat} (bx : x < 2 ^ 31) (by_ : y < 2 ^ 31) {off : Int} {tgt : Nat} (hdg : decode cc pc = .ok (.if_icmp .gt off, 3)) (ht : (pc : Int) + off = (tgt : Int)) (kt : y < x → W p l e R s m args below meth c H locs cells slots Q (F0 m tgt ls rest)) (kf : x ≤ y → W p l e R s m args below meth c H locs cells slots Q (F0 m (pc + 3) ls rest)) : W p l e R s m args below meth c H locs cells slots Q (F0 m pc ls (.int (nI y) :: .int (nI x) :: rest)) :=
  lv_icmp_gt hx hb hdg ht (fun h => kt ((nI_ltI by_ bx).mp h)) (fun h => kf (Nat.le_of_not_lt fun z => h ((nI_ltI by_ bx).mpr z)))
theorem k_leN (hx : p.tables.exec = Jvm.exec) (hb : c.code = cc) {x y : Nat} (bx : x < 2 ^ 31) (by_ : y < 2 ^ 31) {off : Int} {tgt : Nat} (hdg : decode cc pc = .ok (.if_icmp .le off, 3)) (ht : (pc : Int) + off = (tgt : Int)) (kt : x ≤ y → W p l e R s m args below meth c H locs cells slots Q (F0 m tgt ls rest)) (kf : y < x → W p l e R s m args below meth c H locs cells slots Q (F0 m (pc + 3) ls rest)) : W p l e R s m args below meth c H locs cells slots Q (F0 m pc ls (.int (nI y) :: .int (nI x) :: rest)) :=
  lv_icmp_le hx hb hdg ht (fun h => kt ((nI_leI bx by_).mp h)) (fun h => kf (Nat.lt_of_not_le fun z => h ((nI_leI bx by_).mpr z)))
theorem k_eqN (hx : p.tables.exec = Jvm.exec) (hb : c.code = cc) {x y : Nat} (bx : x < 2 ^ 31) (by_ : y < 2 ^ 31) {off : Int} {tgt : Nat} (hdg : decode cc pc = .ok (.if_icmp .eq off, 3)) (ht : (pc : Int) + off = (tgt : Int)) (kt : x = y → W p l e R s m args below meth c H locs cells slots Q (F0 m tgt ls rest)) (kf : ¬ x = y → W p l e R s m args below meth c H locs cells slots Q (F0 m (pc + 3) ls rest)) : W p l e R s m args below meth c H locs cells slots Q (F0 m pc ls (.int (nI y) :: .int (nI x) :: rest)) :=
  lv_icmp_eq hx hb hdg ht (fun h => kt ((nI_eq bx by_).mp h)) (fun h => kf (fun z => h ((nI_eq bx by_).mpr z)))
theorem k_neN (hx : p.tables.exec = Jvm.exec) (hb : c.code = cc) {x y : Nat} (bx : x < 2 ^ 31) (by_ : y < 2 ^ 31) {off : Int} {tgt : Nat} (hdg : decode cc pc = .ok (.if_icmp .ne off, 3)) (ht : (pc : Int) + off = (tgt : Int)) (kt : ¬ x = y → W p l e R s m args below meth c H locs cells slots Q (F0 m tgt ls rest)) (kf : x = y → W p l e R s m args below meth c H locs cells slots Q (F0 m (pc + 3) ls rest)) : W p l e R s m args below meth c H locs cells slots Q (F0 m pc ls (.int (nI y) :: .int (nI x) :: rest)) :=
  lv_icmp_ne hx hb hdg ht (fun h => kt (fun z => h ((nI_eq bx by_).mpr z))) (fun h => kf ((nI_eq bx by_).mp h))
theorem k_if0 (hx : p.tables.exec = Jvm.exec) (hb : c.code = cc) {x : Nat} (bx : x < 2 ^ 31) {off : Int} {tgt : Nat} (hdg : decode cc pc = .ok (.ifCond .eq off, 3)) (ht : (pc : Int) + off = (tgt : Int)) (kt : x = 0 → W p l e R s m args below meth c H locs cells slots Q (F0 m tgt ls rest)) (kf : ¬ x = 0 → W p l e R s m args below meth c H locs cells slots Q (F0 m (pc + 3) ls rest)) : W p l e R s m args below meth c H locs cells slots Q (F0 m pc ls (.int (nI x) :: rest)) :=
  lv_if_eq hx hb hdg ht (fun h => kt ((nI_eq bx (by decide)).mp (h.trans nI_0.symm))) (fun h => kf (fun z => h (by rw [z]; exact nI_0)))
theorem k_ifn0 (hx : p.tables.exec = Jvm.exec) (hb : c.code = cc) {x : Nat} (bx : x < 2 ^ 31) {off : Int} {tgt : Nat} (hdg : decode cc pc = .ok (.ifCond .ne off, 3)) (ht : (pc : Int) + off = (tgt : Int)) (kt : ¬ x = 0 → W p l e R s m args below meth c H locs cells slots Q (F0 m tgt ls rest)) (kf : x = 0 → W p l e R s m args below meth c H locs cells slots Q (F0 m (pc + 3) ls rest)) : W p l e R s m args below meth c H locs cells slots Q (F0 m pc ls (.int (nI x) :: rest)) :=
  lv_if_ne hx hb hdg ht (fun h => kt (fun z => h (by rw [z]; exact nI_0))) (fun h => kf ((nI_eq bx (by decide)).mp (h.trans nI_0.symm)))
theorem k_iald (hexec : p.tables.exec = Jvm.exec) (hb : c.code = cc) (hE : kE g s) (hP : va_P g.1 vwCl ws H) (q0 : Nat) {n : Nat} {f : Nat → Int32} (ha : ws[q0]? = some (a, .inl (g.2.1, n, .inl f))) {i : Int32} (k : Nat) (hi : i = nI k) (hk : k < n) (hn : n < 2 ^ 31) (hdg : decode cc pc = .ok (.iaload, 1)) (kk : W p l e R s m args below meth c H locs cells slots Q (F0 m (pc + 1) ls (.int (f k) :: rest))) : W p l e R s m args below meth c H locs cells slots Q (F0 m pc ls (.int i :: .ref a :: rest)) := by
  subst hi
  refine va_iald hexec hb hE.1 hP q0 0 ha rfl (vp_in_nI hk hn) hdg ?_
  rw [nI_clamp (Nat.lt_trans hk hn)]
  exact kk
theorem k_cald (hexec : p.tables.exec = Jvm.exec) (hb : c.code = cc) (hE : kE g s) (hP : va_P g.1 vwCl ws H) (q0 : Nat) {n : Nat} {f : Nat → Int32} (ha : ws[q0]? = some (a, .inl (g.2.2.1, n, .inl f))) {i : Int32} (k : Nat) (hi : i = nI k) (hk : k < n) (hn : n < 2 ^ 31) (hdg : decode cc pc = .ok (.caload, 1)) (kk : W p l e R s m args below meth c H locs cells slots Q (F0 m (pc + 1) ls (.int (f k) :: rest))) : W p l e R s m args below meth c H locs cells slots Q (F0 m pc ls (.int i :: .ref a :: rest)) := by
  subst hi
  refine va_cald hexec hb hE.1 hP q0 1 ha rfl (vp_in_nI hk hn) hdg ?_
  rw [nI_clamp (Nat.lt_trans hk hn)]
  exact kk
theorem k_aald (hexec : p.tables.exec = Jvm.exec) (hb : c.code = cc) (hE : kE g s) (hP : va_P g.1 vwCl ws H) (q0 : Nat) {n : Nat} {f : Nat → Nat} (ha : ws[q0]? = some (a, .inl (g.2.2.2.1, n, .inr (.inr (.inr (.inr (fun i => some (f i)))))))) {i : Int32} (k : Nat) (hi : i = nI k) (hk : k < n) (hn : n < 2 ^ 31) (hdg : decode cc pc = .ok (.aaload, 1)) (kk : W p l e R s m args below meth c H locs cells slots Q (F0 m (pc + 1) ls (.ref (f k) :: rest))) : W p l e R s m args below meth c H locs cells slots Q (F0 m pc ls (.int i :: .ref a :: rest)) := by
  subst hi
  refine va_aldq hexec hb hE.1 hP q0 2 ha rfl (vp_in_nI hk hn) hdg ?_
  rw [nI_clamp (Nat.lt_trans hk hn)]
  exact kk
theorem k_lald (hexec : p.tables.exec = Jvm.exec) (hb : c.code = cc) (hE : kE g s) (hP : va_P g.1 vwCl ws H) (q0 : Nat) {n : Nat} {f : Nat → Int64} (ha : ws[q0]? = some (a, .inl (g.2.2.2.2, n, .inr (.inl f)))) {i : Int32} (k : Nat) (hi : i = nI k) (hk : k < n) (hn : n < 2 ^ 31) (hdg : decode cc pc = .ok (.laload, 1)) (kk : W p l e R s m args below meth c H locs cells slots Q (F0 m (pc + 1) ls (.long (f k) :: rest))) : W p l e R s m args below meth c H locs cells slots Q (F0 m pc ls (.int i :: .ref a :: rest)) := by
  subst hi
  refine va_lald hexec hb hE.1 hP q0 3 ha rfl (vp_in_nI hk hn) hdg ?_
  rw [nI_clamp (Nat.lt_trans hk hn)]
  exact kk
theorem k_last (hexec : p.tables.exec = Jvm.exec) (hb : c.code = cc) (hE : kE g s) (hP : va_P g.1 vwCl ws H) (hD : va_D A ws) (hS : va_S A s.heap H locs) (q0 : Nat) {n : Nat} {f : Nat → Int64} (ha : ws[q0]? = some (a, .inl (g.2.2.2.2, n, .inr (.inl f)))) {i : Int32} {x : Int64} (k : Nat) (hi : i = nI k) (hk : k < n) (hn : n < 2 ^ 31) (hw : ws.set q0 (a, .inl (g.2.2.2.2, n, .inr (.inl (vp_updL f k x)))) = ws1) (hdg : decode cc pc = .ok (.lastore, 1)) (kk : ∀ (H1 : Heap) (locs1 : List Loc), va_P g.1 vwCl ws1 H1 → va_D A ws1 → va_S A s.heap H1 locs1 → W p l e R s m args below meth c H1 locs1 cells slots Q (F0 m (pc + 1) ls rest)) : W p l e R s m args below meth c H locs cells slots Q (F0 m pc ls (.long x :: .int i :: .ref a :: rest)) := by
  subst hi
  refine va_last hexec hb hE.1 hP hD hS q0 3 ha rfl (vp_in_nI hk hn) hdg ?_
  rw [nI_clamp (Nat.lt_trans hk hn), hw]
  exact kk
/-- a loop that counts up to N -/
theorem k_loop {N : Nat} {Inv : Nat → Heap → List Loc → Array Slot → Prop} (i0 : Nat) (h0 : i0 ≤ N) (hs : Inv i0 H locs ls)
    (step : ∀ i : Nat, i ≤ N → (∀ (H : Heap) (locs : List Loc) (ls : Array Slot), i < N → Inv (i + 1) H locs ls → W p l e R s m args below meth c H locs cells slots Q (F0 m pc ls st0)) → ∀ (H : Heap) (locs : List Loc) (ls : Array Slot), Inv i H locs ls → W p l e R s m args below meth c H locs cells slots Q (F0 m pc ls st0)) :
    W p l e R s m args below meth c H locs cells slots Q (F0 m pc ls st0) := by
  have K : ∀ (n i : Nat), i + n = N → ∀ (H : Heap) (locs : List Loc) (ls : Array Slot), Inv i H locs ls → W p l e R s m args below meth c H locs cells slots Q (F0 m pc ls st0) := by
    intro n
    induction n with
    | zero => exact fun i hi H locs ls h => step i (by omega) (fun _ _ _ hlt => absurd hlt (by omega)) H locs ls h
    | succ n ih => exact fun i hi H locs ls h => step i (by omega) (fun H1 locs1 ls1 _ h1 => ih (i + 1) (by omega) H1 locs1 ls1 h1) H locs ls h
  exact K (N - i0) i0 (by omega) H locs ls hs
theorem k_iast (hexec : p.tables.exec = Jvm.exec) (hb : c.code = cc) (hE : kE g s) (hP : va_P g.1 vwCl ws H) (hD : va_D A ws) (hS : va_S A s.heap H locs) (q0 : Nat) {n : Nat} {f : Nat → Int32} (ha : ws[q0]? = some (a, .inl (g.2.1, n, .inl f))) {i x : Int32} (k : Nat) (hi : i = nI k) (hk : k < n) (hn : n < 2 ^ 31) (hw : ws.set q0 (a, .inl (g.2.1, n, .inl (upd f k x))) = ws1) (hdg : decode cc pc = .ok (.iastore, 1)) (kk : ∀ (H1 : Heap) (locs1 : List Loc), va_P g.1 vwCl ws1 H1 → va_D A ws1 → va_S A s.heap H1 locs1 → W p l e R s m args below meth c H1 locs1 cells slots Q (F0 m (pc + 1) ls rest)) : W p l e R s m args below meth c H locs cells slots Q (F0 m pc ls (.int x :: .int i :: .ref a :: rest)) := by
  subst hi
  refine va_iast hexec hb hE.1 hP hD hS q0 0 ha rfl (vp_in_nI hk hn) hdg ?_
  rw [nI_clamp (Nat.lt_trans hk hn), hw]
  exact kk
theorem k_cast (hexec : p.tables.exec = Jvm.exec) (hb : c.code = cc) (hE : kE g s) (hP : va_P g.1 vwCl ws H) (hD : va_D A ws) (hS : va_S A s.heap H locs) (q0 : Nat) {n : Nat} {f : Nat → Int32} (ha : ws[q0]? = some (a, .inl (g.2.2.1, n, .inl f))) {i x : Int32} (k : Nat) (hi : i = nI k) (hk : k < n) (hn : n < 2 ^ 31) (hx : vp_nar .char x = x) (hw : ws.set q0 (a, .inl (g.2.2.1, n, .inl (upd f k x))) = ws1) (hdg : decode cc pc = .ok (.castore, 1)) (kk : ∀ (H1 : Heap) (locs1 : List Loc), va_P g.1 vwCl ws1 H1 → va_D A ws1 → va_S A s.heap H1 locs1 → W p l e R s m args below meth c H1 locs1 cells slots Q (F0 m (pc + 1) ls rest)) : W p l e R s m args below meth c H locs cells slots Q (F0 m pc ls (.int x :: .int i :: .ref a :: rest)) := by
  subst hi
  refine va_cast hexec hb hE.1 hP hD hS q0 1 ha rfl (vp_in_nI hk hn) hdg ?_
  rw [nI_clamp (Nat.lt_trans hk hn), hx, hw]
  exact kk
theorem k_iret {av : Array Value} {r v : Int32} {mc mz : Nat} (hx : p.tables.exec = Jvm.exec) (hb : c.code = cc) {ty : FieldType} (hr : meth.sig.returnType = some ty) (hlocks : meth.locks = false) (hn : narrow ty (.int v) = .int v) (hv : v = r) (hP : va_P g.1 vwCl w1 H) (hD : va_D A w1) (hS : va_S A s.heap H locs) (hc : cells ≤ mc) (hs : slots ≤ mz) (hdg : decode cc pc = .ok (.ireturn, 1)) : W p l e R s m av below meth c H locs cells slots (MQ below (kQi g r w1 A) av s mc mz A) (F0 m pc ls [.int v]) := by
  refine W.widen hc hs ?_
  refine W.zret hx hb hr hn (fun t ht hW => ⟨⟨v, (), rfl, hv, by rw [ht]; exact hP, hD⟩, hS.F ht⟩) hS.2.2 hdg hlocks
theorem k_lret {av : Array Value} {r v : Int64} {mc mz : Nat} (hx : p.tables.exec = Jvm.exec) (hb : c.code = cc) (hr : meth.sig.returnType = some .long) (hlocks : meth.locks = false) (hv : v = r) (hP : va_P g.1 vwCl w1 H) (hD : va_D A w1) (hS : va_S A s.heap H locs) (hc : cells ≤ mc) (hs : slots ≤ mz) (hdg : decode cc pc = .ok (.lreturn, 1)) : W p l e R s m av below meth c H locs cells slots (MQ below (kQl g r w1 A) av s mc mz A) (F0 m pc ls [.long v]) := by
  refine W.widen hc hs ?_
  refine W.lret hx hb hr (fun t ht hW => ⟨⟨v, (), rfl, hv, by rw [ht]; exact hP, hD⟩, hS.F ht⟩) hS.2.2 hdg hlocks
theorem k_dret {av : Array Value} {r v : UInt64} {mc mz : Nat} (hx : p.tables.exec = Jvm.exec) (hb : c.code = cc) (hr : meth.sig.returnType = some .double) (hlocks : meth.locks = false) (hv : v = r) (hP : va_P g.1 vwCl w1 H) (hD : va_D A w1) (hS : va_S A s.heap H locs) (hc : cells ≤ mc) (hs : slots ≤ mz) (hdg : decode cc pc = .ok (.dreturn, 1)) : W p l e R s m av below meth c H locs cells slots (MQ below (kQd g r w1 A) av s mc mz A) (F0 m pc ls [.double v]) := by
  refine W.widen hc hs ?_
  refine W.dret hx hb hr (fun t ht hW => ⟨⟨v, (), rfl, hv, by rw [ht]; exact hP, hD⟩, hS.F ht⟩) hS.2.2 hdg hlocks
theorem k_vret {av : Array Value} {mc mz : Nat} (hx : p.tables.exec = Jvm.exec) (hb : c.code = cc) (hr : meth.sig.returnType = none) (hlocks : meth.locks = false) (hP : va_P g.1 vwCl w1 H) (hD : va_D A w1) (hS : va_S A s.heap H locs) (hc : cells ≤ mc) (hs : slots ≤ mz) (hdg : decode cc pc = .ok (.return_, 1)) : W p l e R s m av below meth c H locs cells slots (MQ below (kQv g w1 A) av s mc mz A) (F0 m pc ls []) := by
  refine W.widen hc hs ?_
  refine W.vret hx hb hr (fun t ht hW => ⟨⟨(), rfl, trivial, by rw [ht]; exact hP, hD⟩, hS.F ht⟩) hS.2.2 hdg hlocks
theorem k_nret {av : Array Value} {S : Type} {ok : S → Prop} {w1 : S → va_W} (u : S) {mc mz : Nat} (hx : p.tables.exec = Jvm.exec) (hb : c.code = cc) (hr : meth.sig.returnType = none) (hlocks : meth.locks = false) (hok : ok u) (hP : va_P g.1 vwCl (w1 u) H) (hD : va_D A (w1 u)) (hS : va_S A s.heap H locs) (hc : cells ≤ mc) (hs : slots ≤ mz) (hdg : decode cc pc = .ok (.return_, 1)) : W p l e R s m av below meth c H locs cells slots (MQ below (kQn g ok w1 A) av s mc mz A) (F0 m pc ls []) := by
  refine W.widen hc hs ?_
  refine W.vret hx hb hr (fun t ht hW => ⟨⟨u, rfl, hok, by rw [ht]; exact hP, hD⟩, hS.F ht⟩) hS.2.2 hdg hlocks
/-- the start of a callee -/
theorem k_pre {av : List Value} {U : State} (hE : kE g s) (hP : va_P g.1 vwCl ws H) (hD : va_D A ws) (hp : ws.Perm (w0 ++ wr)) (hU : U.heap = H) (hW : s.WarmedH U.vm) : kPre g av w0 H.size av.toArray U :=
  ⟨rfl, by rw [hU], by rw [hU]; exact (k_P_app.mp (k_P_perm hp hP)).1, (k_D_left (k_D_perm hp hD)).weaken (fun _ _ _ _ => trivial), kE.warm hW hE⟩
theorem k_Vi {own C host : String} {y : MethodName} {bytes : ByteArray} {maxL nL mc mz n index b : Nat} {ret : Option FieldType} {wsy Ts : List Cond} {rm : Room} {As : List Value} {r : Int32} (S : CallFix p m c cc nL s args Ts own) (hM : KI l y wsy rm g (Value.ref b :: As) w0 r w1 mc mz) (cw : CallW R s args own C index y bytes maxL ret wsy rm mc mz n) (hE : kE g s) (hP : va_P g.1 vwCl ws H) (hD : va_D A ws) (hS : va_S A s.heap H locs) (hA : ∀ q : Nat, s.heap.size ≤ q → A q) (hp : ws.Perm (w0 ++ wr)) (hq : (w1 ++ wr).Perm ws1) (q0 : Nat) {ci : Nat} {fs : List Value} {q : vw_C} (he : ws[q0]? = some (b, .inr (ci, fs))) (hc : vwCl[ci]? = some q) (hC : q.1 = C) (hn : As.length = n) (hls : ls.size = nL) (hst : st0 = As.reverse ++ .ref b :: rest) (hW : (rest.map fun v => v.category).sum ≤ 8) (hdg : decode cc pc = .ok (.invokevirtual index, 3)) (hf : cells + mc ≤ R.cells ∧ slots + mz ≤ R.slots) (kk : ∀ (H1 : Heap) (locs1 : List Loc), va_P g.1 vwCl ws1 H1 → va_D A ws1 → va_S A s.heap H1 locs1 → W p l e R s m args below meth c H1 locs1 (cells + mc) (slots + mz) Q (F0 m (pc + 3) ls (.int r :: rest))) : W p l e R s m args below meth c H locs cells slots Q (F0 m pc ls st0) := by
  subst hst
  have hrc := va_recv hE.1 hP hc he
  rw [hC] at hrc
  refine va_calli (va_runV (As := As) (rest := rest) S (hM H.size) cw ⟨kPre.blind, hrc, fun U hU hW => k_pre hE hP hD hp hU hW⟩ rfl hn hls rfl (lv_room hW) hdg hf) hS (fun q _ h => k_free hD hS hA hp q h) (k_free hD hS hA hp) (fun r' u t H1 locs1 ht hvm hw hB hz1 hk1 hS1 => ?_)
  subst hw
  obtain ⟨hP1, hD1⟩ := hB
  rw [ht] at hP1
  have hj := k_join hP hD hS hA hp hq hk1 hP1 hD1
  exact kk H1 locs1 hj.1 hj.2 hS1
theorem k_Vl {own C host : String} {y : MethodName} {bytes : ByteArray} {maxL nL mc mz n index b : Nat} {ret : Option FieldType} {wsy Ts : List Cond} {rm : Room} {As : List Value} {r : Int64} (S : CallFix p m c cc nL s args Ts own) (hM : KL l y wsy rm g (Value.ref b :: As) w0 r w1 mc mz) (cw : CallW R s args own C index y bytes maxL ret wsy rm mc mz n) (hE : kE g s) (hP : va_P g.1 vwCl ws H) (hD : va_D A ws) (hS : va_S A s.heap H locs) (hA : ∀ q : Nat, s.heap.size ≤ q → A q) (hp : ws.Perm (w0 ++ wr)) (hq : (w1 ++ wr).Perm ws1) (q0 : Nat) {ci : Nat} {fs : List Value} {q : vw_C} (he : ws[q0]? = some (b, .inr (ci, fs))) (hc : vwCl[ci]? = some q) (hC : q.1 = C) (hn : As.length = n) (hls : ls.size = nL) (hst : st0 = As.reverse ++ .ref b :: rest) (hW : (rest.map fun v => v.category).sum ≤ 8) (hdg : decode cc pc = .ok (.invokevirtual index, 3)) (hf : cells + mc ≤ R.cells ∧ slots + mz ≤ R.slots) (kk : ∀ (H1 : Heap) (locs1 : List Loc), va_P g.1 vwCl ws1 H1 → va_D A ws1 → va_S A s.heap H1 locs1 → W p l e R s m args below meth c H1 locs1 (cells + mc) (slots + mz) Q (F0 m (pc + 3) ls (.long r :: rest))) : W p l e R s m args below meth c H locs cells slots Q (F0 m pc ls st0) := by
  subst hst
  have hrc := va_recv hE.1 hP hc he
  rw [hC] at hrc
  refine va_calll (va_runV (As := As) (rest := rest) S (hM H.size) cw ⟨kPre.blind, hrc, fun U hU hW => k_pre hE hP hD hp hU hW⟩ rfl hn hls rfl (lv_room hW) hdg hf) hS (fun q _ h => k_free hD hS hA hp q h) (k_free hD hS hA hp) (fun r' u t H1 locs1 ht hvm hw hB hz1 hk1 hS1 => ?_)
  subst hw
  obtain ⟨hP1, hD1⟩ := hB
  rw [ht] at hP1
  have hj := k_join hP hD hS hA hp hq hk1 hP1 hD1
  exact kk H1 locs1 hj.1 hj.2 hS1
theorem k_Vd {own C host : String} {y : MethodName} {bytes : ByteArray} {maxL nL mc mz n index b : Nat} {ret : Option FieldType} {wsy Ts : List Cond} {rm : Room} {As : List Value} {r : UInt64} (S : CallFix p m c cc nL s args Ts own) (hM : KD l y wsy rm g (Value.ref b :: As) w0 r w1 mc mz) (cw : CallW R s args own C index y bytes maxL ret wsy rm mc mz n) (hE : kE g s) (hP : va_P g.1 vwCl ws H) (hD : va_D A ws) (hS : va_S A s.heap H locs) (hA : ∀ q : Nat, s.heap.size ≤ q → A q) (hp : ws.Perm (w0 ++ wr)) (hq : (w1 ++ wr).Perm ws1) (q0 : Nat) {ci : Nat} {fs : List Value} {q : vw_C} (he : ws[q0]? = some (b, .inr (ci, fs))) (hc : vwCl[ci]? = some q) (hC : q.1 = C) (hn : As.length = n) (hls : ls.size = nL) (hst : st0 = As.reverse ++ .ref b :: rest) (hW : (rest.map fun v => v.category).sum ≤ 8) (hdg : decode cc pc = .ok (.invokevirtual index, 3)) (hf : cells + mc ≤ R.cells ∧ slots + mz ≤ R.slots) (kk : ∀ (H1 : Heap) (locs1 : List Loc), va_P g.1 vwCl ws1 H1 → va_D A ws1 → va_S A s.heap H1 locs1 → W p l e R s m args below meth c H1 locs1 (cells + mc) (slots + mz) Q (F0 m (pc + 3) ls (.double r :: rest))) : W p l e R s m args below meth c H locs cells slots Q (F0 m pc ls st0) := by
  subst hst
  have hrc := va_recv hE.1 hP hc he
  rw [hC] at hrc
  refine va_calld (va_runV (As := As) (rest := rest) S (hM H.size) cw ⟨kPre.blind, hrc, fun U hU hW => k_pre hE hP hD hp hU hW⟩ rfl hn hls rfl (lv_room hW) hdg hf) hS (fun q _ h => k_free hD hS hA hp q h) (k_free hD hS hA hp) (fun r' u t H1 locs1 ht hvm hw hB hz1 hk1 hS1 => ?_)
  subst hw
  obtain ⟨hP1, hD1⟩ := hB
  rw [ht] at hP1
  have hj := k_join hP hD hS hA hp hq hk1 hP1 hD1
  exact kk H1 locs1 hj.1 hj.2 hS1
theorem k_Vv {own C host : String} {y : MethodName} {bytes : ByteArray} {maxL nL mc mz n index b : Nat} {ret : Option FieldType} {wsy Ts : List Cond} {rm : Room} {As : List Value} (S : CallFix p m c cc nL s args Ts own) (hM : KV l y wsy rm g (Value.ref b :: As) w0 w1 mc mz) (cw : CallW R s args own C index y bytes maxL ret wsy rm mc mz n) (hE : kE g s) (hP : va_P g.1 vwCl ws H) (hD : va_D A ws) (hS : va_S A s.heap H locs) (hA : ∀ q : Nat, s.heap.size ≤ q → A q) (hp : ws.Perm (w0 ++ wr)) (hq : (w1 ++ wr).Perm ws1) (q0 : Nat) {ci : Nat} {fs : List Value} {q : vw_C} (he : ws[q0]? = some (b, .inr (ci, fs))) (hc : vwCl[ci]? = some q) (hC : q.1 = C) (hn : As.length = n) (hls : ls.size = nL) (hst : st0 = As.reverse ++ .ref b :: rest) (hW : (rest.map fun v => v.category).sum ≤ 8) (hdg : decode cc pc = .ok (.invokevirtual index, 3)) (hf : cells + mc ≤ R.cells ∧ slots + mz ≤ R.slots) (kk : ∀ (H1 : Heap) (locs1 : List Loc), va_P g.1 vwCl ws1 H1 → va_D A ws1 → va_S A s.heap H1 locs1 → W p l e R s m args below meth c H1 locs1 (cells + mc) (slots + mz) Q (F0 m (pc + 3) ls (rest))) : W p l e R s m args below meth c H locs cells slots Q (F0 m pc ls st0) := by
  subst hst
  have hrc := va_recv hE.1 hP hc he
  rw [hC] at hrc
  refine va_callv (va_runV (As := As) (rest := rest) S (hM H.size) cw ⟨kPre.blind, hrc, fun U hU hW => k_pre hE hP hD hp hU hW⟩ rfl hn hls rfl (lv_room hW) hdg hf) hS (fun q _ h => k_free hD hS hA hp q h) (k_free hD hS hA hp) (fun u t H1 locs1 ht hvm hw hB hz1 hk1 hS1 => ?_)
  obtain ⟨hP1, hD1⟩ := hB
  rw [ht] at hP1
  have hj := k_join hP hD hS hA hp hq hk1 hP1 hD1
  exact kk H1 locs1 hj.1 hj.2 hS1
theorem k_Si {own C host : String} {y : MethodName} {bytes : ByteArray} {maxL nL mc mz n index b : Nat} {ret : Option FieldType} {wsy Ts : List Cond} {rm : Room} {As : List Value} {r : Int32} (S : CallFix p m c cc nL s args Ts own) (hM : KI l y wsy rm g As w0 r w1 mc mz) (cw : CallB R s args own index y bytes maxL ret wsy rm mc mz n ∧ (Cond.static y).before args s = true) (hE : kE g s) (hP : va_P g.1 vwCl ws H) (hD : va_D A ws) (hS : va_S A s.heap H locs) (hA : ∀ q : Nat, s.heap.size ≤ q → A q) (hp : ws.Perm (w0 ++ wr)) (hq : (w1 ++ wr).Perm ws1) (hn : As.length = n) (hls : ls.size = nL) (hst : st0 = As.reverse ++ rest) (hW : (rest.map fun v => v.category).sum ≤ 8) (hdg : decode cc pc = .ok (.invokestatic index, 3)) (hf : cells + mc ≤ R.cells ∧ slots + mz ≤ R.slots) (kk : ∀ (H1 : Heap) (locs1 : List Loc), va_P g.1 vwCl ws1 H1 → va_D A ws1 → va_S A s.heap H1 locs1 → W p l e R s m args below meth c H1 locs1 (cells + mc) (slots + mz) Q (F0 m (pc + 3) ls (.int r :: rest))) : W p l e R s m args below meth c H locs cells slots Q (F0 m pc ls st0) := by
  subst hst
  refine va_calli (va_runS (As := As) (rest := rest) S (hM H.size) cw ⟨kPre.blind, fun U hU hW => k_pre hE hP hD hp hU hW⟩ rfl hn hls rfl (lv_room hW) hdg hf) hS (fun q _ h => k_free hD hS hA hp q h) (k_free hD hS hA hp) (fun r' u t H1 locs1 ht hvm hw hB hz1 hk1 hS1 => ?_)
  subst hw
  obtain ⟨hP1, hD1⟩ := hB
  rw [ht] at hP1
  have hj := k_join hP hD hS hA hp hq hk1 hP1 hD1
  exact kk H1 locs1 hj.1 hj.2 hS1
theorem k_Sl {own C host : String} {y : MethodName} {bytes : ByteArray} {maxL nL mc mz n index b : Nat} {ret : Option FieldType} {wsy Ts : List Cond} {rm : Room} {As : List Value} {r : Int64} (S : CallFix p m c cc nL s args Ts own) (hM : KL l y wsy rm g As w0 r w1 mc mz) (cw : CallB R s args own index y bytes maxL ret wsy rm mc mz n ∧ (Cond.static y).before args s = true) (hE : kE g s) (hP : va_P g.1 vwCl ws H) (hD : va_D A ws) (hS : va_S A s.heap H locs) (hA : ∀ q : Nat, s.heap.size ≤ q → A q) (hp : ws.Perm (w0 ++ wr)) (hq : (w1 ++ wr).Perm ws1) (hn : As.length = n) (hls : ls.size = nL) (hst : st0 = As.reverse ++ rest) (hW : (rest.map fun v => v.category).sum ≤ 8) (hdg : decode cc pc = .ok (.invokestatic index, 3)) (hf : cells + mc ≤ R.cells ∧ slots + mz ≤ R.slots) (kk : ∀ (H1 : Heap) (locs1 : List Loc), va_P g.1 vwCl ws1 H1 → va_D A ws1 → va_S A s.heap H1 locs1 → W p l e R s m args below meth c H1 locs1 (cells + mc) (slots + mz) Q (F0 m (pc + 3) ls (.long r :: rest))) : W p l e R s m args below meth c H locs cells slots Q (F0 m pc ls st0) := by
  subst hst
  refine va_calll (va_runS (As := As) (rest := rest) S (hM H.size) cw ⟨kPre.blind, fun U hU hW => k_pre hE hP hD hp hU hW⟩ rfl hn hls rfl (lv_room hW) hdg hf) hS (fun q _ h => k_free hD hS hA hp q h) (k_free hD hS hA hp) (fun r' u t H1 locs1 ht hvm hw hB hz1 hk1 hS1 => ?_)
  subst hw
  obtain ⟨hP1, hD1⟩ := hB
  rw [ht] at hP1
  have hj := k_join hP hD hS hA hp hq hk1 hP1 hD1
  exact kk H1 locs1 hj.1 hj.2 hS1
theorem k_Sd {own C host : String} {y : MethodName} {bytes : ByteArray} {maxL nL mc mz n index b : Nat} {ret : Option FieldType} {wsy Ts : List Cond} {rm : Room} {As : List Value} {r : UInt64} (S : CallFix p m c cc nL s args Ts own) (hM : KD l y wsy rm g As w0 r w1 mc mz) (cw : CallB R s args own index y bytes maxL ret wsy rm mc mz n ∧ (Cond.static y).before args s = true) (hE : kE g s) (hP : va_P g.1 vwCl ws H) (hD : va_D A ws) (hS : va_S A s.heap H locs) (hA : ∀ q : Nat, s.heap.size ≤ q → A q) (hp : ws.Perm (w0 ++ wr)) (hq : (w1 ++ wr).Perm ws1) (hn : As.length = n) (hls : ls.size = nL) (hst : st0 = As.reverse ++ rest) (hW : (rest.map fun v => v.category).sum ≤ 8) (hdg : decode cc pc = .ok (.invokestatic index, 3)) (hf : cells + mc ≤ R.cells ∧ slots + mz ≤ R.slots) (kk : ∀ (H1 : Heap) (locs1 : List Loc), va_P g.1 vwCl ws1 H1 → va_D A ws1 → va_S A s.heap H1 locs1 → W p l e R s m args below meth c H1 locs1 (cells + mc) (slots + mz) Q (F0 m (pc + 3) ls (.double r :: rest))) : W p l e R s m args below meth c H locs cells slots Q (F0 m pc ls st0) := by
  subst hst
  refine va_calld (va_runS (As := As) (rest := rest) S (hM H.size) cw ⟨kPre.blind, fun U hU hW => k_pre hE hP hD hp hU hW⟩ rfl hn hls rfl (lv_room hW) hdg hf) hS (fun q _ h => k_free hD hS hA hp q h) (k_free hD hS hA hp) (fun r' u t H1 locs1 ht hvm hw hB hz1 hk1 hS1 => ?_)
  subst hw
  obtain ⟨hP1, hD1⟩ := hB
  rw [ht] at hP1
  have hj := k_join hP hD hS hA hp hq hk1 hP1 hD1
  exact kk H1 locs1 hj.1 hj.2 hS1
theorem k_Sv {own C host : String} {y : MethodName} {bytes : ByteArray} {maxL nL mc mz n index b : Nat} {ret : Option FieldType} {wsy Ts : List Cond} {rm : Room} {As : List Value} (S : CallFix p m c cc nL s args Ts own) (hM : KV l y wsy rm g As w0 w1 mc mz) (cw : CallB R s args own index y bytes maxL ret wsy rm mc mz n ∧ (Cond.static y).before args s = true) (hE : kE g s) (hP : va_P g.1 vwCl ws H) (hD : va_D A ws) (hS : va_S A s.heap H locs) (hA : ∀ q : Nat, s.heap.size ≤ q → A q) (hp : ws.Perm (w0 ++ wr)) (hq : (w1 ++ wr).Perm ws1) (hn : As.length = n) (hls : ls.size = nL) (hst : st0 = As.reverse ++ rest) (hW : (rest.map fun v => v.category).sum ≤ 8) (hdg : decode cc pc = .ok (.invokestatic index, 3)) (hf : cells + mc ≤ R.cells ∧ slots + mz ≤ R.slots) (kk : ∀ (H1 : Heap) (locs1 : List Loc), va_P g.1 vwCl ws1 H1 → va_D A ws1 → va_S A s.heap H1 locs1 → W p l e R s m args below meth c H1 locs1 (cells + mc) (slots + mz) Q (F0 m (pc + 3) ls (rest))) : W p l e R s m args below meth c H locs cells slots Q (F0 m pc ls st0) := by
  subst hst
  refine va_callv (va_runS (As := As) (rest := rest) S (hM H.size) cw ⟨kPre.blind, fun U hU hW => k_pre hE hP hD hp hU hW⟩ rfl hn hls rfl (lv_room hW) hdg hf) hS (fun q _ h => k_free hD hS hA hp q h) (k_free hD hS hA hp) (fun u t H1 locs1 ht hvm hw hB hz1 hk1 hS1 => ?_)
  obtain ⟨hP1, hD1⟩ := hB
  rw [ht] at hP1
  have hj := k_join hP hD hS hA hp hq hk1 hP1 hD1
  exact kk H1 locs1 hj.1 hj.2 hS1
theorem k_SNi {own C host : String} {y : MethodName} {bytes : ByteArray} {maxL nL mc mz n index b : Nat} {ret : Option FieldType} {wsy Ts : List Cond} {rm : Room} {As : List Value} {r : Int32} (S : CallFix p m c cc nL s args Ts own) (hM : KI l y wsy rm g As w0 r w1 mc mz) (cw : va_CN R s args own index y host bytes maxL ret wsy rm mc mz n ∧ (Cond.static y).before args s = true ∧ True) (hE : kE g s) (hP : va_P g.1 vwCl ws H) (hD : va_D A ws) (hS : va_S A s.heap H locs) (hA : ∀ q : Nat, s.heap.size ≤ q → A q) (hp : ws.Perm (w0 ++ wr)) (hq : (w1 ++ wr).Perm ws1) (hn : As.length = n) (hls : ls.size = nL) (hst : st0 = As.reverse ++ rest) (hW : (rest.map fun v => v.category).sum ≤ 8) (hdg : decode cc pc = .ok (.invokestatic index, 3)) (hf : cells + mc ≤ R.cells ∧ slots + mz ≤ R.slots) (kk : ∀ (H1 : Heap) (locs1 : List Loc), va_P g.1 vwCl ws1 H1 → va_D A ws1 → va_S A s.heap H1 locs1 → W p l e R s m args below meth c H1 locs1 (cells + mc) (slots + mz) Q (F0 m (pc + 3) ls (.int r :: rest))) : W p l e R s m args below meth c H locs cells slots Q (F0 m pc ls st0) := by
  subst hst
  refine va_calli (va_runSN (As := As) (rest := rest) S (hM H.size) cw ⟨kPre.blind, fun U hU hW => k_pre hE hP hD hp hU hW⟩ rfl hn hls rfl (lv_room hW) hdg hf) hS (fun q _ h => k_free hD hS hA hp q h) (k_free hD hS hA hp) (fun r' u t H1 locs1 ht hvm hw hB hz1 hk1 hS1 => ?_)
  subst hw
  obtain ⟨hP1, hD1⟩ := hB
  rw [ht] at hP1
  have hj := k_join hP hD hS hA hp hq hk1 hP1 hD1
  exact kk H1 locs1 hj.1 hj.2 hS1
theorem k_In {own C host : String} {y : MethodName} {bytes : ByteArray} {maxL nL mc mz n index b : Nat} {ret : Option FieldType} {wsy Ts : List Cond} {rm : Room} {As : List Value} {S0 : Type} {ok : S0 → Prop} {w1 ws1 : S0 → va_W} (S : CallFix p m c cc nL s args Ts own) (hM : KN l y wsy rm g (Value.ref b :: As) w0 ok w1 mc mz) (cw : CallB R s args own index y bytes maxL none wsy rm mc mz n ∧ y.name = "<init>" ∧ (Cond.instanceMethod y).before args s = true) (hE : kE g s) (hP : va_P g.1 vwCl ws H) (hD : va_D A ws) (hS : va_S A s.heap H locs) (hA : ∀ q : Nat, s.heap.size ≤ q → A q) (hp : ws.Perm (w0 ++ wr)) (hq : ∀ u, (w1 u ++ wr).Perm (ws1 u)) (hn : As.length = n) (hls : ls.size = nL) (hst : st0 = As.reverse ++ .ref b :: rest) (hW : (rest.map fun v => v.category).sum ≤ 8) (hdg : decode cc pc = .ok (.invokespecial index, 3)) (hf : cells + mc ≤ R.cells ∧ slots + mz ≤ R.slots) (kk : ∀ (u : S0) (H1 : Heap) (locs1 : List Loc), ok u → va_P g.1 vwCl (ws1 u) H1 → va_D A (ws1 u) → va_S A s.heap H1 locs1 → W p l e R s m args below meth c H1 locs1 (cells + mc) (slots + mz) Q (F0 m (pc + 3) ls (rest))) : W p l e R s m args below meth c H locs cells slots Q (F0 m pc ls st0) := by
  subst hst
  refine va_callv (va_runI (As := As) (rest := rest) S (hM H.size) cw ⟨kPre.blind, fun U hU hW => k_pre hE hP hD hp hU hW⟩ rfl hn hls rfl (lv_room hW) hdg hf) hS (fun q _ h => k_free hD hS hA hp q h) (k_free hD hS hA hp) (fun u t H1 locs1 ht hvm hw hB hz1 hk1 hS1 => ?_)
  obtain ⟨hP1, hD1⟩ := hB
  rw [ht] at hP1
  have hj := k_join hP hD hS hA hp (hq u) hk1 hP1 hD1
  exact kk u H1 locs1 hw hj.1 hj.2 hS1
theorem k_INn {own C host : String} {y : MethodName} {bytes : ByteArray} {maxL nL mc mz n index b : Nat} {ret : Option FieldType} {wsy Ts : List Cond} {rm : Room} {As : List Value} {S0 : Type} {ok : S0 → Prop} {w1 ws1 : S0 → va_W} (S : CallFix p m c cc nL s args Ts own) (hM : KN l y wsy rm g (Value.ref b :: As) w0 ok w1 mc mz) (cw : va_CN R s args own index y host bytes maxL none wsy rm mc mz n ∧ y.name = "<init>" ∧ (Cond.instanceMethod y).before args s = true) (hE : kE g s) (hP : va_P g.1 vwCl ws H) (hD : va_D A ws) (hS : va_S A s.heap H locs) (hA : ∀ q : Nat, s.heap.size ≤ q → A q) (hp : ws.Perm (w0 ++ wr)) (hq : ∀ u, (w1 u ++ wr).Perm (ws1 u)) (hn : As.length = n) (hls : ls.size = nL) (hst : st0 = As.reverse ++ .ref b :: rest) (hW : (rest.map fun v => v.category).sum ≤ 8) (hdg : decode cc pc = .ok (.invokespecial index, 3)) (hf : cells + mc ≤ R.cells ∧ slots + mz ≤ R.slots) (kk : ∀ (u : S0) (H1 : Heap) (locs1 : List Loc), ok u → va_P g.1 vwCl (ws1 u) H1 → va_D A (ws1 u) → va_S A s.heap H1 locs1 → W p l e R s m args below meth c H1 locs1 (cells + mc) (slots + mz) Q (F0 m (pc + 3) ls (rest))) : W p l e R s m args below meth c H locs cells slots Q (F0 m pc ls st0) := by
  subst hst
  refine va_callv (va_runIN (As := As) (rest := rest) S (hM H.size) cw ⟨kPre.blind, fun U hU hW => k_pre hE hP hD hp hU hW⟩ rfl hn hls rfl (lv_room hW) hdg hf) hS (fun q _ h => k_free hD hS hA hp q h) (k_free hD hS hA hp) (fun u t H1 locs1 ht hvm hw hB hz1 hk1 hS1 => ?_)
  obtain ⟨hP1, hD1⟩ := hB
  rw [ht] at hP1
  have hj := k_join hP hD hS hA hp (hq u) hk1 hP1 hD1
  exact kk u H1 locs1 hw hj.1 hj.2 hS1
end KR
end
