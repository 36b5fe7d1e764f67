section
-- ===== PART A: goes FIRST, ahead of the names: the tables' words, and 'selects' of the private methods out of them =====
/-- a private method of a class that the tables say can be made, by its rows of tables_1 -/
def lw_okq (q : MethodName × Nat) : Prop := (q.1.cls ≠ "java/lang/invoke/MethodHandle" ∧ q.1.cls ≠ "java/lang/invoke/VarHandle") ∧ Cond.instantiable q.1.cls q.2 ∈ tables_1 ∧ Cond.privateMethod q.1 ∈ tables_1 ∧ Cond.instanceMethod q.1 ∈ tables_1
theorem lw_p0 : lw_okq (⟨"LampNet$Spread", "afterTickOfBars", "(I)I"⟩, 3) := ⟨⟨by decide +kernel, by decide +kernel⟩, List.mem_of_getElem? (i := 77) (by decide +kernel), List.mem_of_getElem? (i := 309) (by decide +kernel), List.mem_of_getElem? (i := 310) (by decide +kernel)⟩
theorem lw_p1 : lw_okq (⟨"LampNet$Spread", "afterTickOfForced", "(I)I"⟩, 3) := ⟨⟨by decide +kernel, by decide +kernel⟩, List.mem_of_getElem? (i := 77) (by decide +kernel), List.mem_of_getElem? (i := 318) (by decide +kernel), List.mem_of_getElem? (i := 319) (by decide +kernel)⟩
theorem lw_p2 : lw_okq (⟨"LampNet$Course", "leastForcing", "(II)I"⟩, 4) := ⟨⟨by decide +kernel, by decide +kernel⟩, List.mem_of_getElem? (i := 94) (by decide +kernel), List.mem_of_getElem? (i := 348) (by decide +kernel), List.mem_of_getElem? (i := 349) (by decide +kernel)⟩
theorem lw_p3 : lw_okq (⟨"LampNet$Spread", "fillPlain", "(I)V"⟩, 3) := ⟨⟨by decide +kernel, by decide +kernel⟩, List.mem_of_getElem? (i := 77) (by decide +kernel), List.mem_of_getElem? (i := 371) (by decide +kernel), List.mem_of_getElem? (i := 372) (by decide +kernel)⟩
theorem lw_p4 : lw_okq (⟨"LampNet$Spread", "fillSeen", "()V"⟩, 3) := ⟨⟨by decide +kernel, by decide +kernel⟩, List.mem_of_getElem? (i := 77) (by decide +kernel), List.mem_of_getElem? (i := 377) (by decide +kernel), List.mem_of_getElem? (i := 378) (by decide +kernel)⟩
theorem lw_p5 : lw_okq (⟨"LampNet$Strongholds", "fortsWithin", "([II)I"⟩, 5) := ⟨⟨by decide +kernel, by decide +kernel⟩, List.mem_of_getElem? (i := 124) (by decide +kernel), List.mem_of_getElem? (i := 382) (by decide +kernel), List.mem_of_getElem? (i := 383) (by decide +kernel)⟩
theorem lw_p6 : lw_okq (⟨"LampNet$Strongholds", "isLeast", "([II)Z"⟩, 5) := ⟨⟨by decide +kernel, by decide +kernel⟩, List.mem_of_getElem? (i := 124) (by decide +kernel), List.mem_of_getElem? (i := 395) (by decide +kernel), List.mem_of_getElem? (i := 396) (by decide +kernel)⟩
theorem lw_p7 : lw_okq (⟨"LampNet$Strongholds", "mostWithin", "([II)I"⟩, 5) := ⟨⟨by decide +kernel, by decide +kernel⟩, List.mem_of_getElem? (i := 124) (by decide +kernel), List.mem_of_getElem? (i := 415) (by decide +kernel), List.mem_of_getElem? (i := 416) (by decide +kernel)⟩
theorem lw_p8 : lw_okq (⟨"LampNet$Strongholds", "mostByLowest", "([II)I"⟩, 5) := ⟨⟨by decide +kernel, by decide +kernel⟩, List.mem_of_getElem? (i := 124) (by decide +kernel), List.mem_of_getElem? (i := 419) (by decide +kernel), List.mem_of_getElem? (i := 420) (by decide +kernel)⟩
theorem lw_p9 : lw_okq (⟨"LampNet$Burning", "renewTicks", "()V"⟩, 3) := ⟨⟨by decide +kernel, by decide +kernel⟩, List.mem_of_getElem? (i := 146) (by decide +kernel), List.mem_of_getElem? (i := 474) (by decide +kernel), List.mem_of_getElem? (i := 475) (by decide +kernel)⟩
theorem lw_p10 : lw_okq (⟨"LampNet$Burning", "bestPost", "(I)I"⟩, 3) := ⟨⟨by decide +kernel, by decide +kernel⟩, List.mem_of_getElem? (i := 146) (by decide +kernel), List.mem_of_getElem? (i := 480) (by decide +kernel), List.mem_of_getElem? (i := 481) (by decide +kernel)⟩
theorem lw_p11 : lw_okq (⟨"LampNet$Fire", "mostSaved", "(III)I"⟩, 1) := ⟨⟨by decide +kernel, by decide +kernel⟩, List.mem_of_getElem? (i := 162) (by decide +kernel), List.mem_of_getElem? (i := 511) (by decide +kernel), List.mem_of_getElem? (i := 512) (by decide +kernel)⟩
theorem lw_p12 : lw_okq (⟨"LampNet$Fire", "savedBehind", "(III)I"⟩, 1) := ⟨⟨by decide +kernel, by decide +kernel⟩, List.mem_of_getElem? (i := 162) (by decide +kernel), List.mem_of_getElem? (i := 518) (by decide +kernel), List.mem_of_getElem? (i := 519) (by decide +kernel)⟩
theorem lw_p13 : lw_okq (⟨"LampNet$Fire", "afterTick", "(II)I"⟩, 1) := ⟨⟨by decide +kernel, by decide +kernel⟩, List.mem_of_getElem? (i := 162) (by decide +kernel), List.mem_of_getElem? (i := 522) (by decide +kernel), List.mem_of_getElem? (i := 523) (by decide +kernel)⟩
theorem lw_p14 : lw_okq (⟨"LampNet$Fire", "bestPost", "(II)I"⟩, 1) := ⟨⟨by decide +kernel, by decide +kernel⟩, List.mem_of_getElem? (i := 162) (by decide +kernel), List.mem_of_getElem? (i := 536) (by decide +kernel), List.mem_of_getElem? (i := 537) (by decide +kernel)⟩
theorem lw_p15 : lw_okq (⟨"LampNet$Watch", "fillHolding", "()V"⟩, 3) := ⟨⟨by decide +kernel, by decide +kernel⟩, List.mem_of_getElem? (i := 172) (by decide +kernel), List.mem_of_getElem? (i := 548) (by decide +kernel), List.mem_of_getElem? (i := 549) (by decide +kernel)⟩
def lw_privs_1 : List (MethodName × Nat) := [(⟨"LampNet$Spread", "afterTickOfBars", "(I)I"⟩, 3), (⟨"LampNet$Spread", "afterTickOfForced", "(I)I"⟩, 3), (⟨"LampNet$Course", "leastForcing", "(II)I"⟩, 4), (⟨"LampNet$Spread", "fillPlain", "(I)V"⟩, 3), (⟨"LampNet$Spread", "fillSeen", "()V"⟩, 3), (⟨"LampNet$Strongholds", "fortsWithin", "([II)I"⟩, 5), (⟨"LampNet$Strongholds", "isLeast", "([II)Z"⟩, 5), (⟨"LampNet$Strongholds", "mostWithin", "([II)I"⟩, 5), (⟨"LampNet$Strongholds", "mostByLowest", "([II)I"⟩, 5), (⟨"LampNet$Burning", "renewTicks", "()V"⟩, 3), (⟨"LampNet$Burning", "bestPost", "(I)I"⟩, 3), (⟨"LampNet$Fire", "mostSaved", "(III)I"⟩, 1), (⟨"LampNet$Fire", "savedBehind", "(III)I"⟩, 1), (⟨"LampNet$Fire", "afterTick", "(II)I"⟩, 1), (⟨"LampNet$Fire", "bestPost", "(II)I"⟩, 1), (⟨"LampNet$Watch", "fillHolding", "()V"⟩, 3)]
theorem lw_r1 : ∀ q ∈ lw_privs_1, lw_okq q := List.forall_mem_cons.mpr ⟨lw_p0, List.forall_mem_cons.mpr ⟨lw_p1, List.forall_mem_cons.mpr ⟨lw_p2, List.forall_mem_cons.mpr ⟨lw_p3, List.forall_mem_cons.mpr ⟨lw_p4, List.forall_mem_cons.mpr ⟨lw_p5, List.forall_mem_cons.mpr ⟨lw_p6, List.forall_mem_cons.mpr ⟨lw_p7, List.forall_mem_cons.mpr ⟨lw_p8, List.forall_mem_cons.mpr ⟨lw_p9, List.forall_mem_cons.mpr ⟨lw_p10, List.forall_mem_cons.mpr ⟨lw_p11, List.forall_mem_cons.mpr ⟨lw_p12, List.forall_mem_cons.mpr ⟨lw_p13, List.forall_mem_cons.mpr ⟨lw_p14, List.forall_mem_cons.mpr ⟨lw_p15, fun _ h => absurd h List.not_mem_nil⟩⟩⟩⟩⟩⟩⟩⟩⟩⟩⟩⟩⟩⟩⟩⟩
theorem lw_p16 : lw_okq (⟨"LampNet$Watch", "takeFailingAway", "(I)Z"⟩, 3) := ⟨⟨by decide +kernel, by decide +kernel⟩, List.mem_of_getElem? (i := 172) (by decide +kernel), List.mem_of_getElem? (i := 553) (by decide +kernel), List.mem_of_getElem? (i := 554) (by decide +kernel)⟩
theorem lw_p17 : lw_okq (⟨"LampNet$Watch", "answersAll", "(I)Z"⟩, 3) := ⟨⟨by decide +kernel, by decide +kernel⟩, List.mem_of_getElem? (i := 172) (by decide +kernel), List.mem_of_getElem? (i := 557) (by decide +kernel), List.mem_of_getElem? (i := 558) (by decide +kernel)⟩
theorem lw_p18 : lw_okq (⟨"LampNet$Watch", "leastAnswer", "(II)I"⟩, 3) := ⟨⟨by decide +kernel, by decide +kernel⟩, List.mem_of_getElem? (i := 172) (by decide +kernel), List.mem_of_getElem? (i := 562) (by decide +kernel), List.mem_of_getElem? (i := 563) (by decide +kernel)⟩
theorem lw_p19 : lw_okq (⟨"LampNetModel", "isPost", "(I)Z"⟩, 15) := ⟨⟨by decide +kernel, by decide +kernel⟩, List.mem_of_getElem? (i := 612) (by decide +kernel), List.mem_of_getElem? (i := 673) (by decide +kernel), List.mem_of_getElem? (i := 674) (by decide +kernel)⟩
theorem lw_p20 : lw_okq (⟨"LampNetModel", "behind", "(I)I"⟩, 15) := ⟨⟨by decide +kernel, by decide +kernel⟩, List.mem_of_getElem? (i := 612) (by decide +kernel), List.mem_of_getElem? (i := 692) (by decide +kernel), List.mem_of_getElem? (i := 693) (by decide +kernel)⟩
theorem lw_p21 : lw_okq (⟨"LampNetModel", "ahead", "(I)I"⟩, 15) := ⟨⟨by decide +kernel, by decide +kernel⟩, List.mem_of_getElem? (i := 612) (by decide +kernel), List.mem_of_getElem? (i := 696) (by decide +kernel), List.mem_of_getElem? (i := 697) (by decide +kernel)⟩
theorem lw_p22 : lw_okq (⟨"LampNetModel", "isSet", "(I)Z"⟩, 15) := ⟨⟨by decide +kernel, by decide +kernel⟩, List.mem_of_getElem? (i := 612) (by decide +kernel), List.mem_of_getElem? (i := 707) (by decide +kernel), List.mem_of_getElem? (i := 708) (by decide +kernel)⟩
theorem lw_p23 : lw_okq (⟨"LampNetModel", "runs", "(II)I"⟩, 15) := ⟨⟨by decide +kernel, by decide +kernel⟩, List.mem_of_getElem? (i := 612) (by decide +kernel), List.mem_of_getElem? (i := 711) (by decide +kernel), List.mem_of_getElem? (i := 712) (by decide +kernel)⟩
theorem lw_p24 : lw_okq (⟨"LampNetModel", "tick", "(III)I"⟩, 15) := ⟨⟨by decide +kernel, by decide +kernel⟩, List.mem_of_getElem? (i := 612) (by decide +kernel), List.mem_of_getElem? (i := 715) (by decide +kernel), List.mem_of_getElem? (i := 716) (by decide +kernel)⟩
theorem lw_p25 : lw_okq (⟨"LampNetModel", "allBehind", "(I)I"⟩, 15) := ⟨⟨by decide +kernel, by decide +kernel⟩, List.mem_of_getElem? (i := 612) (by decide +kernel), List.mem_of_getElem? (i := 719) (by decide +kernel), List.mem_of_getElem? (i := 720) (by decide +kernel)⟩
theorem lw_p26 : lw_okq (⟨"LampNetModel", "comes", "(I)I"⟩, 15) := ⟨⟨by decide +kernel, by decide +kernel⟩, List.mem_of_getElem? (i := 612) (by decide +kernel), List.mem_of_getElem? (i := 734) (by decide +kernel), List.mem_of_getElem? (i := 735) (by decide +kernel)⟩
theorem lw_p27 : lw_okq (⟨"LampNetModel", "isFort", "(II)Z"⟩, 15) := ⟨⟨by decide +kernel, by decide +kernel⟩, List.mem_of_getElem? (i := 612) (by decide +kernel), List.mem_of_getElem? (i := 746) (by decide +kernel), List.mem_of_getElem? (i := 747) (by decide +kernel)⟩
theorem lw_p28 : lw_okq (⟨"LampNetModel", "all", "()I"⟩, 15) := ⟨⟨by decide +kernel, by decide +kernel⟩, List.mem_of_getElem? (i := 612) (by decide +kernel), List.mem_of_getElem? (i := 750) (by decide +kernel), List.mem_of_getElem? (i := 751) (by decide +kernel)⟩
theorem lw_p29 : lw_okq (⟨"LampNetModel", "findForts", "(I)V"⟩, 15) := ⟨⟨by decide +kernel, by decide +kernel⟩, List.mem_of_getElem? (i := 612) (by decide +kernel), List.mem_of_getElem? (i := 758) (by decide +kernel), List.mem_of_getElem? (i := 759) (by decide +kernel)⟩
theorem lw_p30 : lw_okq (⟨"LampNetModel", "isKnown", "(I)Z"⟩, 15) := ⟨⟨by decide +kernel, by decide +kernel⟩, List.mem_of_getElem? (i := 612) (by decide +kernel), List.mem_of_getElem? (i := 762) (by decide +kernel), List.mem_of_getElem? (i := 763) (by decide +kernel)⟩
theorem lw_p31 : lw_okq (⟨"LampNetModel", "setsGoing", "(II)Z"⟩, 15) := ⟨⟨by decide +kernel, by decide +kernel⟩, List.mem_of_getElem? (i := 612) (by decide +kernel), List.mem_of_getElem? (i := 777) (by decide +kernel), List.mem_of_getElem? (i := 778) (by decide +kernel)⟩
def lw_privs_2 : List (MethodName × Nat) := [(⟨"LampNet$Watch", "takeFailingAway", "(I)Z"⟩, 3), (⟨"LampNet$Watch", "answersAll", "(I)Z"⟩, 3), (⟨"LampNet$Watch", "leastAnswer", "(II)I"⟩, 3), (⟨"LampNetModel", "isPost", "(I)Z"⟩, 15), (⟨"LampNetModel", "behind", "(I)I"⟩, 15), (⟨"LampNetModel", "ahead", "(I)I"⟩, 15), (⟨"LampNetModel", "isSet", "(I)Z"⟩, 15), (⟨"LampNetModel", "runs", "(II)I"⟩, 15), (⟨"LampNetModel", "tick", "(III)I"⟩, 15), (⟨"LampNetModel", "allBehind", "(I)I"⟩, 15), (⟨"LampNetModel", "comes", "(I)I"⟩, 15), (⟨"LampNetModel", "isFort", "(II)Z"⟩, 15), (⟨"LampNetModel", "all", "()I"⟩, 15), (⟨"LampNetModel", "findForts", "(I)V"⟩, 15), (⟨"LampNetModel", "isKnown", "(I)Z"⟩, 15), (⟨"LampNetModel", "setsGoing", "(II)Z"⟩, 15)]
theorem lw_r2 : ∀ q ∈ lw_privs_2, lw_okq q := List.forall_mem_cons.mpr ⟨lw_p16, List.forall_mem_cons.mpr ⟨lw_p17, List.forall_mem_cons.mpr ⟨lw_p18, List.forall_mem_cons.mpr ⟨lw_p19, List.forall_mem_cons.mpr ⟨lw_p20, List.forall_mem_cons.mpr ⟨lw_p21, List.forall_mem_cons.mpr ⟨lw_p22, List.forall_mem_cons.mpr ⟨lw_p23, List.forall_mem_cons.mpr ⟨lw_p24, List.forall_mem_cons.mpr ⟨lw_p25, List.forall_mem_cons.mpr ⟨lw_p26, List.forall_mem_cons.mpr ⟨lw_p27, List.forall_mem_cons.mpr ⟨lw_p28, List.forall_mem_cons.mpr ⟨lw_p29, List.forall_mem_cons.mpr ⟨lw_p30, List.forall_mem_cons.mpr ⟨lw_p31, fun _ h => absurd h List.not_mem_nil⟩⟩⟩⟩⟩⟩⟩⟩⟩⟩⟩⟩⟩⟩⟩⟩
theorem lw_p32 : lw_okq (⟨"LampNetModel", "endOf", "(II)I"⟩, 15) := ⟨⟨by decide +kernel, by decide +kernel⟩, List.mem_of_getElem? (i := 612) (by decide +kernel), List.mem_of_getElem? (i := 781) (by decide +kernel), List.mem_of_getElem? (i := 782) (by decide +kernel)⟩
theorem lw_p33 : lw_okq (⟨"LampNetModel", "burns", "()V"⟩, 15) := ⟨⟨by decide +kernel, by decide +kernel⟩, List.mem_of_getElem? (i := 612) (by decide +kernel), List.mem_of_getElem? (i := 803) (by decide +kernel), List.mem_of_getElem? (i := 804) (by decide +kernel)⟩
theorem lw_p34 : lw_okq (⟨"LampNetModel", "saves", "()V"⟩, 15) := ⟨⟨by decide +kernel, by decide +kernel⟩, List.mem_of_getElem? (i := 612) (by decide +kernel), List.mem_of_getElem? (i := 820) (by decide +kernel), List.mem_of_getElem? (i := 821) (by decide +kernel)⟩
theorem lw_p35 : lw_okq (⟨"LampNetModel", "behindWall", "(II)I"⟩, 15) := ⟨⟨by decide +kernel, by decide +kernel⟩, List.mem_of_getElem? (i := 612) (by decide +kernel), List.mem_of_getElem? (i := 824) (by decide +kernel), List.mem_of_getElem? (i := 825) (by decide +kernel)⟩
theorem lw_p36 : lw_okq (⟨"LampNetModel", "next", "(II)I"⟩, 15) := ⟨⟨by decide +kernel, by decide +kernel⟩, List.mem_of_getElem? (i := 612) (by decide +kernel), List.mem_of_getElem? (i := 828) (by decide +kernel), List.mem_of_getElem? (i := 829) (by decide +kernel)⟩
theorem lw_p37 : lw_okq (⟨"LampNetModel", "guard", "()V"⟩, 15) := ⟨⟨by decide +kernel, by decide +kernel⟩, List.mem_of_getElem? (i := 612) (by decide +kernel), List.mem_of_getElem? (i := 840) (by decide +kernel), List.mem_of_getElem? (i := 841) (by decide +kernel)⟩
theorem lw_p38 : lw_okq (⟨"LampNetModel", "answers", "(II)I"⟩, 15) := ⟨⟨by decide +kernel, by decide +kernel⟩, List.mem_of_getElem? (i := 612) (by decide +kernel), List.mem_of_getElem? (i := 844) (by decide +kernel), List.mem_of_getElem? (i := 845) (by decide +kernel)⟩
theorem lw_p39 : lw_okq (⟨"LampNetModel", "play", "(I)V"⟩, 15) := ⟨⟨by decide +kernel, by decide +kernel⟩, List.mem_of_getElem? (i := 612) (by decide +kernel), List.mem_of_getElem? (i := 860) (by decide +kernel), List.mem_of_getElem? (i := 861) (by decide +kernel)⟩
theorem lw_p40 : lw_okq (⟨"LampNetModel", "winsBy", "(II)I"⟩, 15) := ⟨⟨by decide +kernel, by decide +kernel⟩, List.mem_of_getElem? (i := 612) (by decide +kernel), List.mem_of_getElem? (i := 864) (by decide +kernel), List.mem_of_getElem? (i := 865) (by decide +kernel)⟩
def lw_privs_3 : List (MethodName × Nat) := [(⟨"LampNetModel", "endOf", "(II)I"⟩, 15), (⟨"LampNetModel", "burns", "()V"⟩, 15), (⟨"LampNetModel", "saves", "()V"⟩, 15), (⟨"LampNetModel", "behindWall", "(II)I"⟩, 15), (⟨"LampNetModel", "next", "(II)I"⟩, 15), (⟨"LampNetModel", "guard", "()V"⟩, 15), (⟨"LampNetModel", "answers", "(II)I"⟩, 15), (⟨"LampNetModel", "play", "(I)V"⟩, 15), (⟨"LampNetModel", "winsBy", "(II)I"⟩, 15)]
theorem lw_r3 : ∀ q ∈ lw_privs_3, lw_okq q := List.forall_mem_cons.mpr ⟨lw_p32, List.forall_mem_cons.mpr ⟨lw_p33, List.forall_mem_cons.mpr ⟨lw_p34, List.forall_mem_cons.mpr ⟨lw_p35, List.forall_mem_cons.mpr ⟨lw_p36, List.forall_mem_cons.mpr ⟨lw_p37, List.forall_mem_cons.mpr ⟨lw_p38, List.forall_mem_cons.mpr ⟨lw_p39, List.forall_mem_cons.mpr ⟨lw_p40, fun _ h => absurd h List.not_mem_nil⟩⟩⟩⟩⟩⟩⟩⟩⟩
def lw_privs : List (MethodName × Nat) := lw_privs_1 ++ (lw_privs_2 ++ (lw_privs_3))
def lw_tbl : List Cond := k2_sels lw_privs ++ tables_1
theorem lw_privs_ok : ∀ q ∈ lw_privs, lw_okq q := by
  show ∀ q ∈ lw_privs_1 ++ (lw_privs_2 ++ (lw_privs_3)), lw_okq q
  exact List.forall_mem_append.mpr ⟨lw_r1, List.forall_mem_append.mpr ⟨lw_r2, lw_r3⟩⟩
-- ===== end of PART A; then your names; then what follows =====
/-! THE CLAIM OUT OF ONE WALK OF THE LAW'S BODY. Your part is whole_start (and what it stands on); all else here is the same for every law, but numbers. -/
def R_law : String := "LampNetLaw"
def lw_P (b : Addr) (xs : List Int32) (args : Array Value) (s : State) : Prop := args = #[.ref b] ∧ s.IntsAt b xs ∧ xs.length ≤ 2048 ∧ (Jvm.Cond.and given_1 narrow_1).before args s = true
def lw_Q (_ : Array Value) (s : State) (o : Outcome) (t : State) : Prop := o = .returned (some (.int 1)) ∧ Framed s o t [] 99400 8804048
def lw_Z (below : List Frame) (a : Array Value) (s : State) : State → Prop := fun t => ∃ o, t.status = .running ∧ Ended t below o ∧ lw_Q a s o t
/-- the law's own end, with 1 on the stack, nothing written that was there before, its room as the claim has it -/
theorem lw_ret {p : Program} {l : Launch} {e : Env} {s : State} {m : MethodId} {below : List Frame} {meth : Method} {c : Code} {b : Nat} (hx : p.tables.exec = Jvm.exec) (hb : c.code = code) (hr : meth.sig.returnType = ret) (hlocks : meth.locks = false) {pc : Nat} {H : Heap} {ls : Array Slot} (hdg : decode code pc = .ok (.ireturn, 1)) : W p l e room_1 s m #[Value.ref b] below meth c H [] 99400 8804048 (lw_Z below #[Value.ref b] s) (F0 m pc ls [.int 1]) := by
  intro T hT X
  obtain ⟨fs, hret, hrun, hended, hW, hframe⟩ := X.leave (v := some (.int 1)) (hlocks := hlocks) (fun h => by rw [hr] at h; cases h)
  have hmeth' : T.vm.method? m = some meth := X.method'
  refine ⟨T.setFrames fs, ?_, .returned (some (.int 1)), hrun, hended, rfl, ⟨_, rfl⟩, hW, hframe⟩
  jvm_step X.here [X.here.top, hx, hb, hdg, hmeth', hr, ret, narrow_b1]
  (try refine ⟨rfl, ?_⟩); (try refine ⟨rfl, ?_⟩)
  first | (intro acts; rw [hret _ acts rfl rfl rfl]) | rw [hret _ _ rfl rfl rfl]
  exact Steps.refl _
/-- what holds at the law's entry: the machine, the code, the tables' words (any of lw_tbl by 'hts w (by decide +kernel)'), the script of L ints xs at the cell b, what the Statement gives of the start (any of its parts by flat_of_before) -/
def lw_At (p : Program) (s : State) (m : MethodId) (meth : Method) (c : Code) (b L : Nat) (xs : Nat → Int32) : Prop :=
  p.tables.exec = Jvm.exec ∧ c.code = code ∧ meth.sig.returnType = ret ∧ c.maxLocals = 4 ∧ s.vm.findClass R_law = some m.cls ∧ (∀ w ∈ lw_tbl, w.before #[Value.ref b] s = true) ∧ va_X b L xs s s.heap ∧ b < s.heap.size ∧ meth.locks = false ∧ (Jvm.Cond.and given_1 narrow_1).before #[Value.ref b] s = true
end
section
def va_AOA (t : FieldType) (U : State) : Prop := (Cond.arrayOver (.array t)).before #[] U = true
theorem va_AOA.use {t : FieldType} {A : Array Value} {U : State} (h : va_AOA t U) : (Cond.arrayOver (.array t)).before A U = true := h
/-! ===== BEGIN new T[n][m]: the outer array a place, the inner ones among the pooled ===== -/
/-- f, but v at every address of l -/
def vr_up {α : Type} (f : Nat → α) (l : List Nat) (v : α) : Nat → α := fun a => if a ∈ l then v else f a
theorem vr_up_in {α : Type} {f : Nat → α} {l : List Nat} {v : α} {a : Nat} (h : a ∈ l) : vr_up f l v a = v := if_pos h
theorem vr_up_ne {α : Type} {f : Nat → α} {l : List Nat} {v : α} {a : Nat} (h : a ∉ l) : vr_up f l v a = f a := if_neg h
theorem vr_rows {L l : List Nat} {f : Nat → va_E} {e : va_E} (h : ∀ a, a ∈ l → a ∉ L) : va_pl L f ++ l.map (fun a => (a, e)) = va_pl (L ++ l) (vr_up f l e) := by
  unfold va_pl
  rw [List.map_append]
  congr 1
  · apply List.map_congr_left
    intro a ha
    rw [vr_up_ne (fun q => h a q ha)]
  · apply List.map_congr_left
    intro a ha
    rw [vr_up_in ha]
theorem vr_lay {X rows : va_W} {x : Nat × va_E} {pl : va_W} {D : va_G} {cl : List vw_C} {H : Heap} (hP : va_P D cl (((X ++ pl) ++ [x]) ++ rows) H) : va_P D cl ((X ++ [x]) ++ (pl ++ rows)) H := by
  rw [List.append_assoc (X ++ pl)] at hP
  have h := va_P.swap hP
  rw [← List.append_assoc X] at h
  have h2 := va_P.swap h
  rw [List.append_assoc (X ++ [x])] at h2
  exact h2
theorem vr_layD {X rows : va_W} {x : Nat × va_E} {pl : va_W} {A : Nat → Prop} (hD : va_D A (((X ++ pl) ++ [x]) ++ rows)) : va_D A ((X ++ [x]) ++ (pl ++ rows)) := by
  rw [List.append_assoc (X ++ pl)] at hD
  have h := va_D.swap hD
  rw [← List.append_assoc X] at h
  have h2 := va_D.swap h
  rw [List.append_assoc (X ++ [x])] at h2
  exact h2
theorem vr_outer (c : ClassId) (N h0 : Nat) : ∀ i : Nat, Jvm.Free.Multi.outerC c N h0 i = arrV c N (fun j => va_rf (if j < i then some (h0 + 1 + j) else none))
  | 0 => by
    show ({ cls := c, slots := Array.replicate N .null, vm := .none } : Cell) = _
    rw [arrV_new]
    refine congrArg (arrV c N) (funext fun j => ?_)
    simp [va_rf]
  | i + 1 => by
    show (Jvm.Free.Multi.outerC c N h0 i).setSlot i (.ref (h0 + 1 + i)) = _
    rw [vr_outer c N h0 i, arrV_store]
    refine congrArg (arrV c N) (funext fun j => ?_)
    by_cases e : j = i
    · subst e
      simp [updV, va_rf]
    · by_cases h : j < i
      · simp [updV, e, h, Nat.lt_succ_of_lt h]
      · simp [updV, e, h, show ¬ j < i + 1 by omega]
section VGM
variable {p : Program} {l : Launch} {e : Env} {R : Room} {s : State} {m : MethodId} {args : Array Value} {below : List Frame} {meth : Method} {c : Code} {H : Heap} {locs : List Loc} {cells slots : Nat} {Q : State → Prop}
variable {cc : ByteArray} {pc : Nat} {ls : Array Slot} {rest : List Value} {D : va_G} {cl : List vw_C} {A : Nat → Prop} {a : Nat} {tys : List (ClassId × FieldType)} {ws : va_W} {H0 : Heap}
theorem va_mna {X : va_W} {L : List Nat} {f : Nat → va_E} {cc : ByteArray} (hexec : p.tables.exec = Jvm.exec) (hb : c.code = cc) {own : String} {index : Nat} {ty : FieldType} {cy : ClassId} (hown : s.vm.findClass own = some m.cls) (hclink : (Cond.classLink own index ("[" ++ (FieldType.array ty).toString)).before args s = true) (hover : va_AOA ty s) (harr : (Cond.arrayClass ty).before args s = true) (hcy : s.vm.findClass (FieldType.array ty).toString = some cy)
    (hK : va_K D cl tys s) (hP : va_P D cl (X ++ va_pl L f) H) (hD : va_D A (X ++ va_pl L f)) (hS : va_S A H0 H locs) (hA : ∀ q, H0.size ≤ q → A q) {n k : Int32} {N' K' : Nat} {z : vp_A} (hn : ¬ n < 0) (hk : ¬ k < 0) (hN : n.toNatClampNeg = N') (hM : k.toNatClampNeg = K')
    (hb1 : N' * 4 ≤ 536870912) (hb2 : K' * componentBytes ty ≤ 536870912) (hb3 : K' ≤ 536870912) (hdf : fits ty (defaultValue ty) = true) (hdd : (defaultValue ty).isDefault = true) (hcells : cells + (1 + N') ≤ R.cells) (hslots : slots + (N' + N' * K') ≤ R.slots) (hz : ∀ c : ClassId, Jvm.Free.Multi.innerC c K' (defaultValue ty) = vp_cell c z) (hdg : decode cc pc = .ok (.multianewarray index 2, 4))
    (kk : ∀ (q : Nat) (r : Nat → Nat) (cA : ClassId) (H1 : Heap), (∀ i j : Nat, i < N' → j < N' → r i = r j → i = j) → (∀ i : Nat, i < N' → r i ∉ L) → va_K D cl (tys ++ [(cA, .array ty)]) s →
      va_P D cl ((X ++ [(q, .inl (cA, N', .inr (.inr (.inr (.inr (fun i => if i < N' then some (r i) else none))))))]) ++ va_pl (L ++ (List.range N').map r) (vr_up f ((List.range N').map r) (.inl (cy, z)))) H1 → va_D A ((X ++ [(q, .inl (cA, N', .inr (.inr (.inr (.inr (fun i => if i < N' then some (r i) else none))))))]) ++ va_pl (L ++ (List.range N').map r) (vr_up f ((List.range N').map r) (.inl (cy, z)))) → va_S A H0 H1 locs →
      W p l e R s m args below meth c H1 locs (cells + 1 + N') (slots + N' + N' * K') Q (F0 m (pc + 4) ls (.ref q :: rest))) : W p l e R s m args below meth c H locs cells slots Q (F0 m pc ls (.int k :: .int n :: rest)) := by
  subst hN
  subst hM
  intro T hT Xs
  obtain ⟨vm₁, cA, comp, -, fA, fC, hO, -, X', step⟩ := Xs.multianewarray2F hexec hown hclink (va_AOA.use hover) harr (g := F0 m pc ls (.int k :: .int n :: rest)) rfl (by rw [hb]; exact hdg) rfl hn hk hb1 hb2 hb3 hdf hdd hcells hslots
  have ec : some cy = some comp := hcy.symm.trans fC
  cases ec
  generalize hF : Jvm.Free.Multi.fill (T.setVm vm₁) cA cy n.toNatClampNeg k.toNatClampNeg (defaultValue ty) n.toNatClampNeg = F at X' step
  have hTh : (T.setVm vm₁).heap = H := hT
  obtain ⟨f1, f2, -, -⟩ := Jvm.Free.Multi.fill_facts (T.setVm vm₁) cA cy n.toNatClampNeg k.toNatClampNeg (defaultValue ty) n.toNatClampNeg
  rw [hF, hTh] at f1 f2
  have hold : ∀ x : Nat, x < H.size → F.heap[x]? = H[x]? := fun x hx => by
    have := Jvm.Free.Multi.fill_old (T.setVm vm₁) cA cy n.toNatClampNeg k.toNatClampNeg (defaultValue ty) (a := x) (by rw [hTh]; exact hx) n.toNatClampNeg
    rw [hF, hTh] at this
    exact this
  have hrow : ∀ j : Nat, j < n.toNatClampNeg → F.heap[H.size + 1 + j]? = some (vp_cell cy z) := fun j hj => by
    have := Jvm.Free.Multi.fill_inner (T.setVm vm₁) cA cy n.toNatClampNeg k.toNatClampNeg (defaultValue ty) n.toNatClampNeg j hj
    rw [hF, hTh, hz] at this
    exact this
  have hout : Jvm.Free.Multi.outerC cA n.toNatClampNeg H.size n.toNatClampNeg = vp_cell cA (n.toNatClampNeg, .inr (.inr (.inr (.inr (fun i => if i < n.toNatClampNeg then some (H.size + 1 + i) else none))))) := by
    rw [vp_cell_q]
    exact vr_outer cA n.toNatClampNeg H.size n.toNatClampNeg
  rw [hout] at f2
  have hlt : ∀ a, a ∈ L → a < H.size := fun a ha => by
    obtain ⟨k9, hk9⟩ := va_pl_get (X := X) (f := f) ha
    exact (hP k9 _ hk9).lt
  have hnl : ∀ i : Nat, i < n.toNatClampNeg → H.size + 1 + i ∉ L := fun i _ h => by
    have := hlt _ h
    omega
  have hnm : ∀ a, a ∈ (List.range n.toNatClampNeg).map (fun i => H.size + 1 + i) → a ∉ L := fun a ha h => by
    obtain ⟨i, -, rfl⟩ := List.mem_map.mp ha
    have := hlt _ h
    omega
  have hP0 : va_P D cl (X ++ va_pl L f) F.heap := hP.kept (fun k9 x hx => hold x.1 ((hP k9 x hx).lt))
  have hP1 : va_P D cl ((X ++ va_pl L f) ++ [(H.size, .inl (cA, n.toNatClampNeg, .inr (.inr (.inr (.inr (fun i => if i < n.toNatClampNeg then some (H.size + 1 + i) else none))))))]) F.heap := hP0.app (fun k9 x hx => by
    have h0 : k9 < 1 := (List.getElem?_eq_some_iff.mp hx).1
    rw [show k9 = 0 by omega] at hx
    cases hx
    exact f2)
  have hP2 : va_P D cl (((X ++ va_pl L f) ++ [(H.size, .inl (cA, n.toNatClampNeg, .inr (.inr (.inr (.inr (fun i => if i < n.toNatClampNeg then some (H.size + 1 + i) else none))))))]) ++ ((List.range n.toNatClampNeg).map (fun i => H.size + 1 + i)).map (fun a => (a, .inl (cy, z)))) F.heap := hP1.app (fun k9 x hx => by
    obtain ⟨a, ha, rfl⟩ := List.mem_map.mp (List.mem_of_getElem? hx)
    obtain ⟨i, hi, rfl⟩ := List.mem_map.mp ha
    exact hrow i (List.mem_range.mp hi))
  have hD2 : va_D A (((X ++ va_pl L f) ++ [(H.size, .inl (cA, n.toNatClampNeg, .inr (.inr (.inr (.inr (fun i => if i < n.toNatClampNeg then some (H.size + 1 + i) else none))))))]) ++ ((List.range n.toNatClampNeg).map (fun i => H.size + 1 + i)).map (fun a => (a, .inl (cy, z)))) := by
    have hD1 := hD.push (e := .inl (cA, n.toNatClampNeg, .inr (.inr (.inr (.inr (fun i => if i < n.toNatClampNeg then some (H.size + 1 + i) else none)))))) hP rfl (hA _ hS.1)
    generalize hW1 : (X ++ va_pl L f) ++ [(H.size, .inl (cA, n.toNatClampNeg, .inr (.inr (.inr (.inr (fun i => if i < n.toNatClampNeg then some (H.size + 1 + i) else none))))))] = W1 at hD1 hP1 ⊢
    have hle : ∀ (k9 : Nat) (x : Nat × va_E), W1[k9]? = some x → x.1 ≤ H.size := fun k9 x hx => by
      rw [← hW1] at hx
      by_cases hl : k9 < (X ++ va_pl L f).length
      · rw [List.getElem?_append_left hl] at hx
        exact Nat.le_of_lt ((hP k9 x hx).lt)
      · rw [List.getElem?_append_right (by omega)] at hx
        have h0 : k9 - (X ++ va_pl L f).length < 1 := (List.getElem?_eq_some_iff.mp hx).1
        rw [show k9 - (X ++ va_pl L f).length = 0 by omega] at hx
        cases hx
        exact Nat.le_refl _
    have hr : ∀ (k9 : Nat) (x : Nat × va_E), (((List.range n.toNatClampNeg).map (fun i => H.size + 1 + i)).map (fun a => ((a, .inl (cy, z)) : Nat × va_E)))[k9]? = some x → x.1 = H.size + 1 + k9 := fun k9 x hx => by
      rw [List.getElem?_map, List.getElem?_map] at hx
      by_cases h9 : k9 < n.toNatClampNeg
      · rw [List.getElem?_range h9] at hx
        cases hx
        rfl
      · have hn0 : (List.range n.toNatClampNeg)[k9]? = none := List.getElem?_eq_none (by rw [List.length_range]; omega)
        rw [hn0] at hx
        cases hx
    refine ⟨fun i j x y hi hj hxy => ?_, fun k9 x hx => ?_⟩
    · by_cases h1 : i < W1.length <;> by_cases h2 : j < W1.length
      · rw [List.getElem?_append_left h1] at hi
        rw [List.getElem?_append_left h2] at hj
        exact hD1.1 i j x y hi hj hxy
      · rw [List.getElem?_append_left h1] at hi
        rw [List.getElem?_append_right (by omega)] at hj
        have := hle _ _ hi
        have := hr _ _ hj
        omega
      · rw [List.getElem?_append_right (by omega)] at hi
        rw [List.getElem?_append_left h2] at hj
        have := hle _ _ hj
        have := hr _ _ hi
        omega
      · rw [List.getElem?_append_right (by omega)] at hi hj
        have := hr _ _ hi
        have := hr _ _ hj
        omega
    · by_cases h1 : k9 < W1.length
      · rw [List.getElem?_append_left h1] at hx
        exact hD1.2 k9 x hx
      · rw [List.getElem?_append_right (by omega)] at hx
        have := hr _ _ hx
        exact hA _ (by have := hS.1; omega)
  have hAr : ArrOfT s cA (.array ty) := fun N9 z9 => by
    obtain ⟨-, k9, hk9, cm9, hkk9⟩ := (hO 0 0 0).1
    exact ⟨(fun q hq => by cases hq), k9, hk9, cm9, hkk9⟩
  have hK2 : va_K D cl (tys ++ [(cA, .array ty)]) s := ⟨hK.1, fun k9 x hx => by
    by_cases hl : k9 < tys.length
    · rw [List.getElem?_append_left hl] at hx
      exact hK.2 k9 x hx
    · rw [List.getElem?_append_right (by omega)] at hx
      have h0 : k9 - tys.length < 1 := (List.getElem?_eq_some_iff.mp hx).1
      rw [show k9 - tys.length = 0 by omega] at hx
      cases hx
      exact ⟨hAr, fA⟩⟩
  obtain ⟨t, a1, b1⟩ := kk H.size (fun i => H.size + 1 + i) cA F.heap (fun i j _ _ h => by have h9 : H.size + 1 + i = H.size + 1 + j := h; omega) hnl hK2 (by rw [← vr_rows hnm]; exact vr_lay hP2) (by rw [← vr_rows hnm]; exact vr_layD hD2) ⟨by rw [f1]; have := hS.1; omega, fun x h1 h2 => (hold x (Nat.lt_of_lt_of_le h1 hS.1)).trans (hS.2.1 x h1 h2), hS.2.2⟩ F rfl X'
  refine ⟨t, step t ?_, b1⟩
  have e : T.heap.size = H.size := by rw [hT]
  rw [e]
  exact a1
end VGM
/-! ===== END ===== -/
def RX0 : String := "LampNet$Burning"
def TX0 : u_T := fun k => match k with
  | 0 => ("LampNet$Burning", "net", "LLampNet$Net;", true)
  | 1 => ("LampNet$Burning", "ticksLeft", "[I", true)
  | _ => ("LampNet$Burning", "ticksVersion", "I", false)
def tyX0 : Nat → FieldType := fun k => match k with
  | 0 => .object "LampNet$Net"
  | 1 => .array .int
  | _ => .int
theorem nmX0 : ∀ a, a < 3 → ∀ b, b < 3 → a ≠ b → (TX0 a).2.1 ≠ (TX0 b).2.1 := by decide +kernel
theorem tyX0_ok : ∀ k, k < 3 → parseFieldDescriptor (TX0 k).2.2.1 = some (tyX0 k) := by decide +kernel
abbrev cX0_init : ByteArray := prog_2_method_1_code
def yX0_init : MethodName := ⟨RX0, "<init>", "(LLampNet$Net;)V"⟩
abbrev cX0_fewestTicks : ByteArray := prog_2_method_2_code
def yX0_fewestTicks : MethodName := ⟨RX0, "fewestTicks", "()I"⟩
abbrev cX0_bestHand : ByteArray := prog_2_method_3_code
def yX0_bestHand : MethodName := ⟨RX0, "bestHand", "(I)I"⟩
abbrev cX0_bestPost : ByteArray := prog_2_method_4_code
def yX0_bestPost : MethodName := ⟨RX0, "bestPost", "(I)I"⟩
abbrev cX0_renewTicks : ByteArray := prog_2_method_5_code
def yX0_renewTicks : MethodName := ⟨RX0, "renewTicks", "()V"⟩
abbrev cX0_ticksByHands : ByteArray := prog_2_method_6_code
def yX0_ticksByHands : MethodName := ⟨RX0, "ticksByHands", "(J)I"⟩
def RX1 : String := "LampNet$Course"
def TX1 : u_T := fun k => match k with
  | 0 => ("LampNet$Course", "net", "LLampNet$Net;", true)
  | 1 => ("LampNet$Course", "spread", "LLampNet$Spread;", true)
  | 2 => ("LampNet$Course", "onAt", "[I", true)
  | _ => ("LampNet$Course", "end", "I", false)
def tyX1 : Nat → FieldType := fun k => match k with
  | 0 => .object "LampNet$Net"
  | 1 => .object "LampNet$Spread"
  | 2 => .array .int
  | _ => .int
theorem nmX1 : ∀ a, a < 4 → ∀ b, b < 4 → a ≠ b → (TX1 a).2.1 ≠ (TX1 b).2.1 := by decide +kernel
theorem tyX1_ok : ∀ k, k < 4 → parseFieldDescriptor (TX1 k).2.2.1 = some (tyX1 k) := by decide +kernel
abbrev cX1_init : ByteArray := prog_3_method_1_code
def yX1_init : MethodName := ⟨RX1, "<init>", "(LLampNet$Net;LLampNet$Spread;)V"⟩
abbrev cX1_follow : ByteArray := prog_3_method_2_code
def yX1_follow : MethodName := ⟨RX1, "follow", "(II)V"⟩
abbrev cX1_onAtEnd : ByteArray := prog_3_method_3_code
def yX1_onAtEnd : MethodName := ⟨RX1, "onAtEnd", "()I"⟩
abbrev cX1_tickOf : ByteArray := prog_3_method_4_code
def yX1_tickOf : MethodName := ⟨RX1, "tickOf", "(I)I"⟩
abbrev cX1_bringersOf : ByteArray := prog_3_method_5_code
def yX1_bringersOf : MethodName := ⟨RX1, "bringersOf", "(II)I"⟩
abbrev cX1_leastForcing : ByteArray := prog_3_method_6_code
def yX1_leastForcing : MethodName := ⟨RX1, "leastForcing", "(II)I"⟩
def RX2 : String := "LampNet$Fire"
def TX2 : u_T := fun k => match k with
  | _ => ("LampNet$Fire", "net", "LLampNet$Net;", true)
def tyX2 : Nat → FieldType := fun k => match k with
  | _ => .object "LampNet$Net"
theorem nmX2 : ∀ a, a < 1 → ∀ b, b < 1 → a ≠ b → (TX2 a).2.1 ≠ (TX2 b).2.1 := by decide +kernel
theorem tyX2_ok : ∀ k, k < 1 → parseFieldDescriptor (TX2 k).2.2.1 = some (tyX2 k) := by decide +kernel
abbrev cX2_init : ByteArray := prog_4_method_1_code
def yX2_init : MethodName := ⟨RX2, "<init>", "(LLampNet$Net;)V"⟩
abbrev cX2_saved : ByteArray := prog_4_method_2_code
def yX2_saved : MethodName := ⟨RX2, "saved", "(I)I"⟩
abbrev cX2_mostSaved : ByteArray := prog_4_method_3_code
def yX2_mostSaved : MethodName := ⟨RX2, "mostSaved", "(III)I"⟩
abbrev cX2_savedBehind : ByteArray := prog_4_method_4_code
def yX2_savedBehind : MethodName := ⟨RX2, "savedBehind", "(III)I"⟩
abbrev cX2_afterTick : ByteArray := prog_4_method_5_code
def yX2_afterTick : MethodName := ⟨RX2, "afterTick", "(II)I"⟩
abbrev cX2_bestWall : ByteArray := prog_4_method_6_code
def yX2_bestWall : MethodName := ⟨RX2, "bestWall", "(II)I"⟩
abbrev cX2_bestPost : ByteArray := prog_4_method_7_code
def yX2_bestPost : MethodName := ⟨RX2, "bestPost", "(II)I"⟩
def RX3 : String := "LampNet$Game"
def TX3 : u_T := fun k => match k with
  | 0 => ("LampNet$Game", "net", "LLampNet$Net;", true)
  | 1 => ("LampNet$Game", "spread", "LLampNet$Spread;", true)
  | 2 => ("LampNet$Game", "wins", "[[B", true)
  | _ => ("LampNet$Game", "winsVersion", "[I", true)
def tyX3 : Nat → FieldType := fun k => match k with
  | 0 => .object "LampNet$Net"
  | 1 => .object "LampNet$Spread"
  | 2 => .array (.array .byte)
  | _ => .array .int
theorem nmX3 : ∀ a, a < 4 → ∀ b, b < 4 → a ≠ b → (TX3 a).2.1 ≠ (TX3 b).2.1 := by decide +kernel
theorem tyX3_ok : ∀ k, k < 4 → parseFieldDescriptor (TX3 k).2.2.1 = some (tyX3 k) := by decide +kernel
abbrev cX3_init : ByteArray := prog_5_method_1_code
def yX3_init : MethodName := ⟨RX3, "<init>", "(LLampNet$Net;LLampNet$Spread;)V"⟩
abbrev cX3_winsOf : ByteArray := prog_5_method_2_code
def yX3_winsOf : MethodName := ⟨RX3, "winsOf", "(I)[B"⟩
abbrev cX3_winningPost : ByteArray := prog_5_method_3_code
def yX3_winningPost : MethodName := ⟨RX3, "winningPost", "([B[II)I"⟩
def RX4 : String := "LampNet$Net"
def TX4 : u_T := fun k => match k with
  | 0 => ("LampNet$Net", "posts", "I", false)
  | 1 => ("LampNet$Net", "roadsVersion", "I", false)
  | 2 => ("LampNet$Net", "barsVersion", "I", false)
  | 3 => ("LampNet$Net", "bars", "[I", true)
  | 4 => ("LampNet$Net", "prices", "[I", true)
  | 5 => ("LampNet$Net", "weights", "[[I", true)
  | 6 => ("LampNet$Net", "behind", "[I", true)
  | _ => ("LampNet$Net", "ahead", "[I", true)
def tyX4 : Nat → FieldType := fun k => match k with
  | 0 => .int
  | 1 => .int
  | 2 => .int
  | 3 => .array .int
  | 4 => .array .int
  | 5 => .array (.array .int)
  | 6 => .array .int
  | _ => .array .int
theorem nmX4 : ∀ a, a < 8 → ∀ b, b < 8 → a ≠ b → (TX4 a).2.1 ≠ (TX4 b).2.1 := by decide +kernel
theorem tyX4_ok : ∀ k, k < 8 → parseFieldDescriptor (TX4 k).2.2.1 = some (tyX4 k) := by decide +kernel
abbrev cX4_init : ByteArray := prog_6_method_1_code
def yX4_init : MethodName := ⟨RX4, "<init>", "()V"⟩
abbrev cX4_isPost : ByteArray := prog_6_method_2_code
def yX4_isPost : MethodName := ⟨RX4, "isPost", "(I)Z"⟩
abbrev cX4_isSet : ByteArray := prog_6_method_3_code
def yX4_isSet : MethodName := ⟨RX4, "isSet", "(I)Z"⟩
abbrev cX4_allPosts : ByteArray := prog_6_method_4_code
def yX4_allPosts : MethodName := ⟨RX4, "allPosts", "()I"⟩
abbrev cX4_versionOf : ByteArray := prog_6_method_5_code
def yX4_versionOf : MethodName := ⟨RX4, "versionOf", "(I)I"⟩
abbrev cX4_addPost : ByteArray := prog_6_method_6_code
def yX4_addPost : MethodName := ⟨RX4, "addPost", "()I"⟩
abbrev cX4_setWeight : ByteArray := prog_6_method_7_code
def yX4_setWeight : MethodName := ⟨RX4, "setWeight", "(III)I"⟩
abbrev cX4_setBar : ByteArray := prog_6_method_8_code
def yX4_setBar : MethodName := ⟨RX4, "setBar", "(II)I"⟩
abbrev cX4_setPrice : ByteArray := prog_6_method_9_code
def yX4_setPrice : MethodName := ⟨RX4, "setPrice", "(II)I"⟩
abbrev cX4_priceOf : ByteArray := prog_6_method_10_code
def yX4_priceOf : MethodName := ⟨RX4, "priceOf", "(I)I"⟩
abbrev cX4_weightOnto : ByteArray := prog_6_method_11_code
def yX4_weightOnto : MethodName := ⟨RX4, "weightOnto", "(II)I"⟩
abbrev cX4_withBehind : ByteArray := prog_6_method_12_code
def yX4_withBehind : MethodName := ⟨RX4, "withBehind", "(I)I"⟩
def RX5 : String := "LampNet$Seeds"
def TX5 : u_T := fun k => match k with
  | _ => ("LampNet$Seeds", "net", "LLampNet$Net;", true)
def tyX5 : Nat → FieldType := fun k => match k with
  | _ => .object "LampNet$Net"
theorem nmX5 : ∀ a, a < 1 → ∀ b, b < 1 → a ≠ b → (TX5 a).2.1 ≠ (TX5 b).2.1 := by decide +kernel
theorem tyX5_ok : ∀ k, k < 1 → parseFieldDescriptor (TX5 k).2.2.1 = some (tyX5 k) := by decide +kernel
abbrev cX5_init : ByteArray := prog_7_method_1_code
def yX5_init : MethodName := ⟨RX5, "<init>", "(LLampNet$Net;)V"⟩
abbrev cX5_smallest : ByteArray := prog_7_method_2_code
def yX5_smallest : MethodName := ⟨RX5, "smallest", "([I)I"⟩
abbrev cX5_howManySmallest : ByteArray := prog_7_method_3_code
def yX5_howManySmallest : MethodName := ⟨RX5, "howManySmallest", "([I)I"⟩
abbrev cX5_leastPriced : ByteArray := prog_7_method_4_code
def yX5_leastPriced : MethodName := ⟨RX5, "leastPriced", "([I)I"⟩
abbrev cX5_paredDown : ByteArray := prog_7_method_5_code
def yX5_paredDown : MethodName := ⟨RX5, "paredDown", "([I)I"⟩
def RX6 : String := "LampNet$Spread"
def TX6 : u_T := fun k => match k with
  | 0 => ("LampNet$Spread", "net", "LLampNet$Net;", true)
  | 1 => ("LampNet$Spread", "ends", "[[I", true)
  | _ => ("LampNet$Spread", "endsVersion", "[I", true)
def tyX6 : Nat → FieldType := fun k => match k with
  | 0 => .object "LampNet$Net"
  | 1 => .array (.array .int)
  | _ => .array .int
theorem nmX6 : ∀ a, a < 3 → ∀ b, b < 3 → a ≠ b → (TX6 a).2.1 ≠ (TX6 b).2.1 := by decide +kernel
theorem tyX6_ok : ∀ k, k < 3 → parseFieldDescriptor (TX6 k).2.2.1 = some (tyX6 k) := by decide +kernel
abbrev cX6_init : ByteArray := prog_8_method_1_code
def yX6_init : MethodName := ⟨RX6, "<init>", "(LLampNet$Net;)V"⟩
abbrev cX6_afterTick : ByteArray := prog_8_method_2_code
def yX6_afterTick : MethodName := ⟨RX6, "afterTick", "(II)I"⟩
abbrev cX6_afterTickOfBars : ByteArray := prog_8_method_3_code
def yX6_afterTickOfBars : MethodName := ⟨RX6, "afterTickOfBars", "(I)I"⟩
abbrev cX6_afterTickOfForced : ByteArray := prog_8_method_4_code
def yX6_afterTickOfForced : MethodName := ⟨RX6, "afterTickOfForced", "(I)I"⟩
abbrev cX6_endsOf : ByteArray := prog_8_method_5_code
def yX6_endsOf : MethodName := ⟨RX6, "endsOf", "(I)[I"⟩
abbrev cX6_fillPlain : ByteArray := prog_8_method_6_code
def yX6_fillPlain : MethodName := ⟨RX6, "fillPlain", "(I)V"⟩
abbrev cX6_fillSeen : ByteArray := prog_8_method_7_code
def yX6_fillSeen : MethodName := ⟨RX6, "fillSeen", "()V"⟩
def RX7 : String := "LampNet$Strongholds"
def TX7 : u_T := fun k => match k with
  | 0 => ("LampNet$Strongholds", "net", "LLampNet$Net;", true)
  | 1 => ("LampNet$Strongholds", "spread", "LLampNet$Spread;", true)
  | 2 => ("LampNet$Strongholds", "most", "[I", true)
  | 3 => ("LampNet$Strongholds", "mostOfAll", "[I", true)
  | _ => ("LampNet$Strongholds", "mostVersion", "[I", true)
def tyX7 : Nat → FieldType := fun k => match k with
  | 0 => .object "LampNet$Net"
  | 1 => .object "LampNet$Spread"
  | 2 => .array .int
  | 3 => .array .int
  | _ => .array .int
theorem nmX7 : ∀ a, a < 5 → ∀ b, b < 5 → a ≠ b → (TX7 a).2.1 ≠ (TX7 b).2.1 := by decide +kernel
theorem tyX7_ok : ∀ k, k < 5 → parseFieldDescriptor (TX7 k).2.2.1 = some (tyX7 k) := by decide +kernel
abbrev cX7_init : ByteArray := prog_9_method_1_code
def yX7_init : MethodName := ⟨RX7, "<init>", "(LLampNet$Net;LLampNet$Spread;)V"⟩
abbrev cX7_isFort : ByteArray := prog_9_method_2_code
def yX7_isFort : MethodName := ⟨RX7, "isFort", "(II)Z"⟩
abbrev cX7_fortsWithin : ByteArray := prog_9_method_3_code
def yX7_fortsWithin : MethodName := ⟨RX7, "fortsWithin", "([II)I"⟩
abbrev cX7_leastFort : ByteArray := prog_9_method_4_code
def yX7_leastFort : MethodName := ⟨RX7, "leastFort", "(II)I"⟩
abbrev cX7_isLeast : ByteArray := prog_9_method_5_code
def yX7_isLeast : MethodName := ⟨RX7, "isLeast", "([II)Z"⟩
abbrev cX7_mostApart : ByteArray := prog_9_method_6_code
def yX7_mostApart : MethodName := ⟨RX7, "mostApart", "(I)I"⟩
abbrev cX7_mostWithin : ByteArray := prog_9_method_7_code
def yX7_mostWithin : MethodName := ⟨RX7, "mostWithin", "([II)I"⟩
abbrev cX7_mostByLowest : ByteArray := prog_9_method_8_code
def yX7_mostByLowest : MethodName := ⟨RX7, "mostByLowest", "([II)I"⟩
def RX8 : String := "LampNet$Watch"
def TX8 : u_T := fun k => match k with
  | 0 => ("LampNet$Watch", "net", "LLampNet$Net;", true)
  | 1 => ("LampNet$Watch", "holding", "[Z", true)
  | _ => ("LampNet$Watch", "holdingVersion", "I", false)
def tyX8 : Nat → FieldType := fun k => match k with
  | 0 => .object "LampNet$Net"
  | 1 => .array .boolean
  | _ => .int
theorem nmX8 : ∀ a, a < 3 → ∀ b, b < 3 → a ≠ b → (TX8 a).2.1 ≠ (TX8 b).2.1 := by decide +kernel
theorem tyX8_ok : ∀ k, k < 3 → parseFieldDescriptor (TX8 k).2.2.1 = some (tyX8 k) := by decide +kernel
abbrev cX8_init : ByteArray := prog_10_method_1_code
def yX8_init : MethodName := ⟨RX8, "<init>", "(LLampNet$Net;)V"⟩
abbrev cX8_freshHolding : ByteArray := prog_10_method_2_code
def yX8_freshHolding : MethodName := ⟨RX8, "freshHolding", "()[Z"⟩
abbrev cX8_fillHolding : ByteArray := prog_10_method_3_code
def yX8_fillHolding : MethodName := ⟨RX8, "fillHolding", "()V"⟩
abbrev cX8_fewestHolding : ByteArray := prog_10_method_4_code
def yX8_fewestHolding : MethodName := ⟨RX8, "fewestHolding", "()I"⟩
abbrev cX8_answerFrom : ByteArray := prog_10_method_5_code
def yX8_answerFrom : MethodName := ⟨RX8, "answerFrom", "(II)I"⟩
abbrev cX8_leastAnswer : ByteArray := prog_10_method_6_code
def yX8_leastAnswer : MethodName := ⟨RX8, "leastAnswer", "(II)I"⟩
abbrev cX8_takeFailingAway : ByteArray := prog_10_method_7_code
def yX8_takeFailingAway : MethodName := ⟨RX8, "takeFailingAway", "(I)Z"⟩
abbrev cX8_answersAll : ByteArray := prog_10_method_8_code
def yX8_answersAll : MethodName := ⟨RX8, "answersAll", "(I)Z"⟩
def RX9 : String := "LampNet"
def TX9 : u_T := fun k => match k with
  | 0 => ("LampNet", "net", "LLampNet$Net;", true)
  | 1 => ("LampNet", "spread", "LLampNet$Spread;", true)
  | 2 => ("LampNet", "course", "LLampNet$Course;", true)
  | 3 => ("LampNet", "seeds", "LLampNet$Seeds;", true)
  | 4 => ("LampNet", "strongholds", "LLampNet$Strongholds;", true)
  | 5 => ("LampNet", "burning", "LLampNet$Burning;", true)
  | 6 => ("LampNet", "fires", "LLampNet$Fire;", true)
  | 7 => ("LampNet", "watch", "LLampNet$Watch;", true)
  | _ => ("LampNet", "game", "LLampNet$Game;", true)
def tyX9 : Nat → FieldType := fun k => match k with
  | 0 => .object "LampNet$Net"
  | 1 => .object "LampNet$Spread"
  | 2 => .object "LampNet$Course"
  | 3 => .object "LampNet$Seeds"
  | 4 => .object "LampNet$Strongholds"
  | 5 => .object "LampNet$Burning"
  | 6 => .object "LampNet$Fire"
  | 7 => .object "LampNet$Watch"
  | _ => .object "LampNet$Game"
theorem nmX9 : ∀ a, a < 9 → ∀ b, b < 9 → a ≠ b → (TX9 a).2.1 ≠ (TX9 b).2.1 := by decide +kernel
theorem tyX9_ok : ∀ k, k < 9 → parseFieldDescriptor (TX9 k).2.2.1 = some (tyX9 k) := by decide +kernel
abbrev cX9_init : ByteArray := prog_1_method_1_code
def yX9_init : MethodName := ⟨RX9, "<init>", "()V"⟩
abbrev cX9_post : ByteArray := prog_1_method_2_code
def yX9_post : MethodName := ⟨RX9, "post", "()I"⟩
abbrev cX9_road : ByteArray := prog_1_method_3_code
def yX9_road : MethodName := ⟨RX9, "road", "(III)I"⟩
abbrev cX9_bar : ByteArray := prog_1_method_4_code
def yX9_bar : MethodName := ⟨RX9, "bar", "(II)I"⟩
abbrev cX9_price : ByteArray := prog_1_method_5_code
def yX9_price : MethodName := ⟨RX9, "price", "(II)I"⟩
abbrev cX9_of : ByteArray := prog_1_method_6_code
def yX9_of : MethodName := ⟨RX9, "of", "(II)I"⟩
abbrev cX9_go : ByteArray := prog_1_method_7_code
def yX9_go : MethodName := ⟨RX9, "go", "(II)I"⟩
abbrev cX9_ticks : ByteArray := prog_1_method_8_code
def yX9_ticks : MethodName := ⟨RX9, "ticks", "(II)I"⟩
abbrev cX9_when : ByteArray := prog_1_method_9_code
def yX9_when : MethodName := ⟨RX9, "when", "(III)I"⟩
abbrev cX9_brought : ByteArray := prog_1_method_10_code
def yX9_brought : MethodName := ⟨RX9, "brought", "(III)I"⟩
abbrev cX9_fort : ByteArray := prog_1_method_11_code
def yX9_fort : MethodName := ⟨RX9, "fort", "(II)I"⟩
abbrev cX9_forts : ByteArray := prog_1_method_12_code
def yX9_forts : MethodName := ⟨RX9, "forts", "(II)I"⟩
abbrev cX9_apart : ByteArray := prog_1_method_13_code
def yX9_apart : MethodName := ⟨RX9, "apart", "(I)I"⟩
abbrev cX9_least : ByteArray := prog_1_method_14_code
def yX9_least : MethodName := ⟨RX9, "least", "(I)I"⟩
abbrev cX9_many : ByteArray := prog_1_method_15_code
def yX9_many : MethodName := ⟨RX9, "many", "(I)I"⟩
abbrev cX9_cheapest : ByteArray := prog_1_method_16_code
def yX9_cheapest : MethodName := ⟨RX9, "cheapest", "(I)I"⟩
abbrev cX9_pared : ByteArray := prog_1_method_17_code
def yX9_pared : MethodName := ⟨RX9, "pared", "(I)I"⟩
abbrev cX9_burn : ByteArray := prog_1_method_18_code
def yX9_burn : MethodName := ⟨RX9, "burn", "()I"⟩
abbrev cX9_hand : ByteArray := prog_1_method_19_code
def yX9_hand : MethodName := ⟨RX9, "hand", "(I)I"⟩
abbrev cX9_burnt : ByteArray := prog_1_method_20_code
def yX9_burnt : MethodName := ⟨RX9, "burnt", "(J)I"⟩
abbrev cX9_save : ByteArray := prog_1_method_21_code
def yX9_save : MethodName := ⟨RX9, "save", "(I)I"⟩
abbrev cX9_wall : ByteArray := prog_1_method_22_code
def yX9_wall : MethodName := ⟨RX9, "wall", "(II)I"⟩
abbrev cX9_holds : ByteArray := prog_1_method_23_code
def yX9_holds : MethodName := ⟨RX9, "holds", "(I)I"⟩
abbrev cX9_guards : ByteArray := prog_1_method_24_code
def yX9_guards : MethodName := ⟨RX9, "guards", "()I"⟩
abbrev cX9_answer : ByteArray := prog_1_method_25_code
def yX9_answer : MethodName := ⟨RX9, "answer", "(II)I"⟩
abbrev cX9_win : ByteArray := prog_1_method_26_code
def yX9_win : MethodName := ⟨RX9, "win", "(II)I"⟩
abbrev cX9_first : ByteArray := prog_1_method_27_code
def yX9_first : MethodName := ⟨RX9, "first", "(II)I"⟩
abbrev cX9_count : ByteArray := prog_1_method_28_code
def yX9_count : MethodName := ⟨RX9, "count", "()I"⟩
abbrev cX9_isRule : ByteArray := prog_1_method_29_code
def yX9_isRule : MethodName := ⟨RX9, "isRule", "(I)Z"⟩
abbrev cX9_isPlainRule : ByteArray := prog_1_method_30_code
def yX9_isPlainRule : MethodName := ⟨RX9, "isPlainRule", "(I)Z"⟩
abbrev cX9_hasPost : ByteArray := prog_1_method_31_code
def yX9_hasPost : MethodName := ⟨RX9, "hasPost", "(II)Z"⟩
def RX10 : String := "LampNetModel"
def TX10 : u_T := fun k => match k with
  | 0 => ("LampNetModel", "posts", "I", false)
  | 1 => ("LampNetModel", "weights", "[I", true)
  | 2 => ("LampNetModel", "bars", "[I", true)
  | 3 => ("LampNetModel", "prices", "[I", true)
  | 4 => ("LampNetModel", "behinds", "[I", true)
  | 5 => ("LampNetModel", "known", "I", false)
  | 6 => ("LampNetModel", "stands", "[I", true)
  | 7 => ("LampNetModel", "end", "I", false)
  | 8 => ("LampNetModel", "ends", "[I", true)
  | 9 => ("LampNetModel", "isLeast", "[Z", true)
  | 10 => ("LampNetModel", "best", "[I", true)
  | 11 => ("LampNetModel", "fewest", "[I", true)
  | 12 => ("LampNetModel", "saved", "[I", true)
  | 13 => ("LampNetModel", "hold", "[Z", true)
  | _ => ("LampNetModel", "wins", "[Z", true)
def tyX10 : Nat → FieldType := fun k => match k with
  | 0 => .int
  | 1 => .array .int
  | 2 => .array .int
  | 3 => .array .int
  | 4 => .array .int
  | 5 => .int
  | 6 => .array .int
  | 7 => .int
  | 8 => .array .int
  | 9 => .array .boolean
  | 10 => .array .int
  | 11 => .array .int
  | 12 => .array .int
  | 13 => .array .boolean
  | _ => .array .boolean
theorem nmX10 : ∀ a, a < 15 → ∀ b, b < 15 → a ≠ b → (TX10 a).2.1 ≠ (TX10 b).2.1 := by decide +kernel
theorem tyX10_ok : ∀ k, k < 15 → parseFieldDescriptor (TX10 k).2.2.1 = some (tyX10 k) := by decide +kernel
abbrev cX10_init : ByteArray := prog_12_method_1_code
def yX10_init : MethodName := ⟨RX10, "<init>", "()V"⟩
abbrev cX10_in : ByteArray := prog_12_method_3_code
def yX10_in : MethodName := ⟨RX10, "in", "(III)Z"⟩
abbrev cX10_isPost : ByteArray := prog_12_method_4_code
def yX10_isPost : MethodName := ⟨RX10, "isPost", "(I)Z"⟩
abbrev cX10_isSet : ByteArray := prog_12_method_5_code
def yX10_isSet : MethodName := ⟨RX10, "isSet", "(I)Z"⟩
abbrev cX10_all : ByteArray := prog_12_method_6_code
def yX10_all : MethodName := ⟨RX10, "all", "()I"⟩
abbrev cX10_has : ByteArray := prog_12_method_7_code
def yX10_has : MethodName := ⟨RX10, "has", "(II)Z"⟩
abbrev cX10_ones : ByteArray := prog_12_method_8_code
def yX10_ones : MethodName := ⟨RX10, "ones", "(I)I"⟩
abbrev cX10_post : ByteArray := prog_12_method_9_code
def yX10_post : MethodName := ⟨RX10, "post", "()I"⟩
abbrev cX10_road : ByteArray := prog_12_method_10_code
def yX10_road : MethodName := ⟨RX10, "road", "(III)I"⟩
abbrev cX10_bar : ByteArray := prog_12_method_11_code
def yX10_bar : MethodName := ⟨RX10, "bar", "(II)I"⟩
abbrev cX10_price : ByteArray := prog_12_method_12_code
def yX10_price : MethodName := ⟨RX10, "price", "(II)I"⟩
abbrev cX10_isKnown : ByteArray := prog_12_method_13_code
def yX10_isKnown : MethodName := ⟨RX10, "isKnown", "(I)Z"⟩
abbrev cX10_behind : ByteArray := prog_12_method_14_code
def yX10_behind : MethodName := ⟨RX10, "behind", "(I)I"⟩
abbrev cX10_ahead : ByteArray := prog_12_method_15_code
def yX10_ahead : MethodName := ⟨RX10, "ahead", "(I)I"⟩
abbrev cX10_of : ByteArray := prog_12_method_16_code
def yX10_of : MethodName := ⟨RX10, "of", "(II)I"⟩
abbrev cX10_allBehind : ByteArray := prog_12_method_17_code
def yX10_allBehind : MethodName := ⟨RX10, "allBehind", "(I)I"⟩
abbrev cX10_tick : ByteArray := prog_12_method_18_code
def yX10_tick : MethodName := ⟨RX10, "tick", "(III)I"⟩
abbrev cX10_runs : ByteArray := prog_12_method_19_code
def yX10_runs : MethodName := ⟨RX10, "runs", "(II)I"⟩
abbrev cX10_endOf : ByteArray := prog_12_method_20_code
def yX10_endOf : MethodName := ⟨RX10, "endOf", "(II)I"⟩
abbrev cX10_isRule : ByteArray := prog_12_method_21_code
def yX10_isRule : MethodName := ⟨RX10, "isRule", "(I)Z"⟩
abbrev cX10_go : ByteArray := prog_12_method_22_code
def yX10_go : MethodName := ⟨RX10, "go", "(II)I"⟩
abbrev cX10_ticks : ByteArray := prog_12_method_23_code
def yX10_ticks : MethodName := ⟨RX10, "ticks", "(II)I"⟩
abbrev cX10_comes : ByteArray := prog_12_method_24_code
def yX10_comes : MethodName := ⟨RX10, "comes", "(I)I"⟩
abbrev cX10_when : ByteArray := prog_12_method_25_code
def yX10_when : MethodName := ⟨RX10, "when", "(III)I"⟩
abbrev cX10_brought : ByteArray := prog_12_method_26_code
def yX10_brought : MethodName := ⟨RX10, "brought", "(III)I"⟩
abbrev cX10_isFort : ByteArray := prog_12_method_27_code
def yX10_isFort : MethodName := ⟨RX10, "isFort", "(II)Z"⟩
abbrev cX10_fort : ByteArray := prog_12_method_28_code
def yX10_fort : MethodName := ⟨RX10, "fort", "(II)I"⟩
abbrev cX10_findForts : ByteArray := prog_12_method_29_code
def yX10_findForts : MethodName := ⟨RX10, "findForts", "(I)V"⟩
abbrev cX10_forts : ByteArray := prog_12_method_30_code
def yX10_forts : MethodName := ⟨RX10, "forts", "(II)I"⟩
abbrev cX10_apart : ByteArray := prog_12_method_31_code
def yX10_apart : MethodName := ⟨RX10, "apart", "(I)I"⟩
abbrev cX10_setsGoing : ByteArray := prog_12_method_32_code
def yX10_setsGoing : MethodName := ⟨RX10, "setsGoing", "(II)Z"⟩
abbrev cX10_least : ByteArray := prog_12_method_33_code
def yX10_least : MethodName := ⟨RX10, "least", "(I)I"⟩
abbrev cX10_many : ByteArray := prog_12_method_34_code
def yX10_many : MethodName := ⟨RX10, "many", "(I)I"⟩
abbrev cX10_cheapest : ByteArray := prog_12_method_35_code
def yX10_cheapest : MethodName := ⟨RX10, "cheapest", "(I)I"⟩
abbrev cX10_pared : ByteArray := prog_12_method_36_code
def yX10_pared : MethodName := ⟨RX10, "pared", "(I)I"⟩
abbrev cX10_burns : ByteArray := prog_12_method_37_code
def yX10_burns : MethodName := ⟨RX10, "burns", "()V"⟩
abbrev cX10_burn : ByteArray := prog_12_method_38_code
def yX10_burn : MethodName := ⟨RX10, "burn", "()I"⟩
abbrev cX10_hand : ByteArray := prog_12_method_39_code
def yX10_hand : MethodName := ⟨RX10, "hand", "(I)I"⟩
abbrev cX10_burnt : ByteArray := prog_12_method_40_code
def yX10_burnt : MethodName := ⟨RX10, "burnt", "(J)I"⟩
abbrev cX10_next : ByteArray := prog_12_method_41_code
def yX10_next : MethodName := ⟨RX10, "next", "(II)I"⟩
abbrev cX10_behindWall : ByteArray := prog_12_method_42_code
def yX10_behindWall : MethodName := ⟨RX10, "behindWall", "(II)I"⟩
abbrev cX10_saves : ByteArray := prog_12_method_43_code
def yX10_saves : MethodName := ⟨RX10, "saves", "()V"⟩
abbrev cX10_save : ByteArray := prog_12_method_44_code
def yX10_save : MethodName := ⟨RX10, "save", "(I)I"⟩
abbrev cX10_wall : ByteArray := prog_12_method_45_code
def yX10_wall : MethodName := ⟨RX10, "wall", "(II)I"⟩
abbrev cX10_answers : ByteArray := prog_12_method_46_code
def yX10_answers : MethodName := ⟨RX10, "answers", "(II)I"⟩
abbrev cX10_guard : ByteArray := prog_12_method_47_code
def yX10_guard : MethodName := ⟨RX10, "guard", "()V"⟩
abbrev cX10_holds : ByteArray := prog_12_method_48_code
def yX10_holds : MethodName := ⟨RX10, "holds", "(I)I"⟩
abbrev cX10_guards : ByteArray := prog_12_method_49_code
def yX10_guards : MethodName := ⟨RX10, "guards", "()I"⟩
abbrev cX10_answer : ByteArray := prog_12_method_50_code
def yX10_answer : MethodName := ⟨RX10, "answer", "(II)I"⟩
abbrev cX10_play : ByteArray := prog_12_method_51_code
def yX10_play : MethodName := ⟨RX10, "play", "(I)V"⟩
abbrev cX10_winsBy : ByteArray := prog_12_method_52_code
def yX10_winsBy : MethodName := ⟨RX10, "winsBy", "(II)I"⟩
abbrev cX10_win : ByteArray := prog_12_method_53_code
def yX10_win : MethodName := ⟨RX10, "win", "(II)I"⟩
abbrev cX10_first : ByteArray := prog_12_method_54_code
def yX10_first : MethodName := ⟨RX10, "first", "(II)I"⟩
abbrev cX10_count : ByteArray := prog_12_method_55_code
def yX10_count : MethodName := ⟨RX10, "count", "()I"⟩
def RJ6 : String := "java/lang/Integer"
def TJ6 : u_T := fun k => match k with
  | _ => ("", "", "", false)
def tyJ6 : Nat → FieldType := fun k => match k with
  | _ => .int
theorem nmJ6 : ∀ a, a < 0 → ∀ b, b < 0 → a ≠ b → (TJ6 a).2.1 ≠ (TJ6 b).2.1 := by decide +kernel
theorem tyJ6_ok : ∀ k, k < 0 → parseFieldDescriptor (TJ6 k).2.2.1 = some (tyJ6 k) := by decide +kernel
abbrev cJ6_bitCount_0f7a4 : ByteArray := prog_13_method_49_code
def yJ6_bitCount_0f7a4 : MethodName := ⟨RJ6, "bitCount", "(I)I"⟩
def RJ9 : String := "java/lang/Math"
def TJ9 : u_T := fun k => match k with
  | _ => ("", "", "", false)
def tyJ9 : Nat → FieldType := fun k => match k with
  | _ => .int
theorem nmJ9 : ∀ a, a < 0 → ∀ b, b < 0 → a ≠ b → (TJ9 a).2.1 ≠ (TJ9 b).2.1 := by decide +kernel
theorem tyJ9_ok : ∀ k, k < 0 → parseFieldDescriptor (TJ9 k).2.2.1 = some (tyJ9 k) := by decide +kernel
abbrev cJ9_max_7cf53 : ByteArray := prog_14_method_65_code
def yJ9_max_7cf53 : MethodName := ⟨RJ9, "max", "(II)I"⟩
abbrev cJ9_min_7cf53 : ByteArray := prog_14_method_69_code
def yJ9_min_7cf53 : MethodName := ⟨RJ9, "min", "(II)I"⟩
def RL : String := "LampNetLaw"
abbrev cL_law : ByteArray := code
def yL_law : MethodName := ⟨RL, "law", "([I)Z"⟩
end
section
/-- a word that speaks of a link to a nest mate's private member -/
def ln_nest : Cond → Bool
  | .fieldLinkNest _ _ _ _ _ _ => true
  | .methodLinkNest _ _ _ _ => true
  | _ => false
theorem mE_X6_afterTickOfBars : Cond.selects RX6 yX6_afterTickOfBars yX6_afterTickOfBars ∈ lw_tbl := List.mem_of_getElem? (i := 0) (by decide +kernel)
theorem mE_X6_afterTickOfForced : Cond.selects RX6 yX6_afterTickOfForced yX6_afterTickOfForced ∈ lw_tbl := List.mem_of_getElem? (i := 1) (by decide +kernel)
theorem mE_X1_leastForcing : Cond.selects RX1 yX1_leastForcing yX1_leastForcing ∈ lw_tbl := List.mem_of_getElem? (i := 2) (by decide +kernel)
theorem mE_X6_fillPlain : Cond.selects RX6 yX6_fillPlain yX6_fillPlain ∈ lw_tbl := List.mem_of_getElem? (i := 3) (by decide +kernel)
theorem mE_X6_fillSeen : Cond.selects RX6 yX6_fillSeen yX6_fillSeen ∈ lw_tbl := List.mem_of_getElem? (i := 4) (by decide +kernel)
theorem mE_X7_fortsWithin : Cond.selects RX7 yX7_fortsWithin yX7_fortsWithin ∈ lw_tbl := List.mem_of_getElem? (i := 5) (by decide +kernel)
theorem mE_X7_isLeast : Cond.selects RX7 yX7_isLeast yX7_isLeast ∈ lw_tbl := List.mem_of_getElem? (i := 6) (by decide +kernel)
theorem mE_X7_mostWithin : Cond.selects RX7 yX7_mostWithin yX7_mostWithin ∈ lw_tbl := List.mem_of_getElem? (i := 7) (by decide +kernel)
theorem mE_X7_mostByLowest : Cond.selects RX7 yX7_mostByLowest yX7_mostByLowest ∈ lw_tbl := List.mem_of_getElem? (i := 8) (by decide +kernel)
theorem mE_X0_renewTicks : Cond.selects RX0 yX0_renewTicks yX0_renewTicks ∈ lw_tbl := List.mem_of_getElem? (i := 9) (by decide +kernel)
theorem mE_X0_bestPost : Cond.selects RX0 yX0_bestPost yX0_bestPost ∈ lw_tbl := List.mem_of_getElem? (i := 10) (by decide +kernel)
theorem mE_X2_mostSaved : Cond.selects RX2 yX2_mostSaved yX2_mostSaved ∈ lw_tbl := List.mem_of_getElem? (i := 11) (by decide +kernel)
theorem mE_X2_savedBehind : Cond.selects RX2 yX2_savedBehind yX2_savedBehind ∈ lw_tbl := List.mem_of_getElem? (i := 12) (by decide +kernel)
theorem mE_X2_afterTick : Cond.selects RX2 yX2_afterTick yX2_afterTick ∈ lw_tbl := List.mem_of_getElem? (i := 13) (by decide +kernel)
theorem mE_X2_bestPost : Cond.selects RX2 yX2_bestPost yX2_bestPost ∈ lw_tbl := List.mem_of_getElem? (i := 14) (by decide +kernel)
theorem mE_X8_fillHolding : Cond.selects RX8 yX8_fillHolding yX8_fillHolding ∈ lw_tbl := List.mem_of_getElem? (i := 15) (by decide +kernel)
theorem mE_X8_takeFailingAway : Cond.selects RX8 yX8_takeFailingAway yX8_takeFailingAway ∈ lw_tbl := List.mem_of_getElem? (i := 16) (by decide +kernel)
theorem mE_X8_answersAll : Cond.selects RX8 yX8_answersAll yX8_answersAll ∈ lw_tbl := List.mem_of_getElem? (i := 17) (by decide +kernel)
theorem mE_X8_leastAnswer : Cond.selects RX8 yX8_leastAnswer yX8_leastAnswer ∈ lw_tbl := List.mem_of_getElem? (i := 18) (by decide +kernel)
theorem mE_X10_isPost : Cond.selects RX10 yX10_isPost yX10_isPost ∈ lw_tbl := List.mem_of_getElem? (i := 19) (by decide +kernel)
theorem mE_X10_behind : Cond.selects RX10 yX10_behind yX10_behind ∈ lw_tbl := List.mem_of_getElem? (i := 20) (by decide +kernel)
theorem mE_X10_ahead : Cond.selects RX10 yX10_ahead yX10_ahead ∈ lw_tbl := List.mem_of_getElem? (i := 21) (by decide +kernel)
theorem mE_X10_isSet : Cond.selects RX10 yX10_isSet yX10_isSet ∈ lw_tbl := List.mem_of_getElem? (i := 22) (by decide +kernel)
theorem mE_X10_runs : Cond.selects RX10 yX10_runs yX10_runs ∈ lw_tbl := List.mem_of_getElem? (i := 23) (by decide +kernel)
theorem mE_X10_tick : Cond.selects RX10 yX10_tick yX10_tick ∈ lw_tbl := List.mem_of_getElem? (i := 24) (by decide +kernel)
theorem mE_X10_allBehind : Cond.selects RX10 yX10_allBehind yX10_allBehind ∈ lw_tbl := List.mem_of_getElem? (i := 25) (by decide +kernel)
theorem mE_X10_comes : Cond.selects RX10 yX10_comes yX10_comes ∈ lw_tbl := List.mem_of_getElem? (i := 26) (by decide +kernel)
theorem mE_X10_isFort : Cond.selects RX10 yX10_isFort yX10_isFort ∈ lw_tbl := List.mem_of_getElem? (i := 27) (by decide +kernel)
theorem mE_X10_all : Cond.selects RX10 yX10_all yX10_all ∈ lw_tbl := List.mem_of_getElem? (i := 28) (by decide +kernel)
theorem mE_X10_findForts : Cond.selects RX10 yX10_findForts yX10_findForts ∈ lw_tbl := List.mem_of_getElem? (i := 29) (by decide +kernel)
theorem mE_X10_isKnown : Cond.selects RX10 yX10_isKnown yX10_isKnown ∈ lw_tbl := List.mem_of_getElem? (i := 30) (by decide +kernel)
theorem mE_X10_setsGoing : Cond.selects RX10 yX10_setsGoing yX10_setsGoing ∈ lw_tbl := List.mem_of_getElem? (i := 31) (by decide +kernel)
theorem mE_X10_endOf : Cond.selects RX10 yX10_endOf yX10_endOf ∈ lw_tbl := List.mem_of_getElem? (i := 32) (by decide +kernel)
theorem mE_X10_burns : Cond.selects RX10 yX10_burns yX10_burns ∈ lw_tbl := List.mem_of_getElem? (i := 33) (by decide +kernel)
theorem mE_X10_saves : Cond.selects RX10 yX10_saves yX10_saves ∈ lw_tbl := List.mem_of_getElem? (i := 34) (by decide +kernel)
theorem mE_X10_behindWall : Cond.selects RX10 yX10_behindWall yX10_behindWall ∈ lw_tbl := List.mem_of_getElem? (i := 35) (by decide +kernel)
theorem mE_X10_next : Cond.selects RX10 yX10_next yX10_next ∈ lw_tbl := List.mem_of_getElem? (i := 36) (by decide +kernel)
theorem mE_X10_guard : Cond.selects RX10 yX10_guard yX10_guard ∈ lw_tbl := List.mem_of_getElem? (i := 37) (by decide +kernel)
theorem mE_X10_answers : Cond.selects RX10 yX10_answers yX10_answers ∈ lw_tbl := List.mem_of_getElem? (i := 38) (by decide +kernel)
theorem mE_X10_play : Cond.selects RX10 yX10_play yX10_play ∈ lw_tbl := List.mem_of_getElem? (i := 39) (by decide +kernel)
theorem mE_X10_winsBy : Cond.selects RX10 yX10_winsBy yX10_winsBy ∈ lw_tbl := List.mem_of_getElem? (i := 40) (by decide +kernel)
theorem mI_L : Cond.initialized RL ∈ lw_tbl := List.mem_of_getElem? (i := 41) (by decide +kernel)
theorem mI_X9 : Cond.initialized RX9 ∈ lw_tbl := List.mem_of_getElem? (i := 42) (by decide +kernel)
theorem mI_X4 : Cond.initialized RX4 ∈ lw_tbl := List.mem_of_getElem? (i := 43) (by decide +kernel)
theorem mI_X6 : Cond.initialized RX6 ∈ lw_tbl := List.mem_of_getElem? (i := 44) (by decide +kernel)
theorem mI_X1 : Cond.initialized RX1 ∈ lw_tbl := List.mem_of_getElem? (i := 45) (by decide +kernel)
theorem mI_X5 : Cond.initialized RX5 ∈ lw_tbl := List.mem_of_getElem? (i := 46) (by decide +kernel)
theorem mI_X7 : Cond.initialized RX7 ∈ lw_tbl := List.mem_of_getElem? (i := 47) (by decide +kernel)
theorem mI_X0 : Cond.initialized RX0 ∈ lw_tbl := List.mem_of_getElem? (i := 48) (by decide +kernel)
theorem mI_X2 : Cond.initialized RX2 ∈ lw_tbl := List.mem_of_getElem? (i := 49) (by decide +kernel)
theorem mI_X8 : Cond.initialized RX8 ∈ lw_tbl := List.mem_of_getElem? (i := 50) (by decide +kernel)
theorem mI_X3 : Cond.initialized RX3 ∈ lw_tbl := List.mem_of_getElem? (i := 51) (by decide +kernel)
theorem mI_X10 : Cond.initialized RX10 ∈ lw_tbl := List.mem_of_getElem? (i := 52) (by decide +kernel)
theorem mI_J6 : Cond.initialized RJ6 ∈ lw_tbl := List.mem_of_getElem? (i := 53) (by decide +kernel)
theorem mI_J9 : Cond.initialized RJ9 ∈ lw_tbl := List.mem_of_getElem? (i := 54) (by decide +kernel)
theorem mL_L_7 : Cond.classLink RL 7 RX9 ∈ lw_tbl := List.mem_of_getElem? (i := 55) (by decide +kernel)
theorem mN_X9 : Cond.instantiable RX9 9 ∈ lw_tbl := List.mem_of_getElem? (i := 56) (by decide +kernel)
theorem mM_L_9 : Cond.methodLink RL 9 yX9_init ∈ lw_tbl := List.mem_of_getElem? (i := 57) (by decide +kernel)
theorem mV_X9_init : Cond.instanceMethod yX9_init ∈ lw_tbl := List.mem_of_getElem? (i := 58) (by decide +kernel)
theorem mC_X9_init : Cond.code yX9_init cX9_init 1 none ∈ lw_tbl := List.mem_of_getElem? (i := 59) (by decide +kernel)
theorem mM_X9_3 : Cond.methodLink RX9 3 Lib.objectInit ∈ lw_tbl := List.mem_of_getElem? (i := 60) (by decide +kernel)
theorem mV_objInit : Cond.instanceMethod Lib.objectInit ∈ lw_tbl := List.mem_of_getElem? (i := 61) (by decide +kernel)
theorem mC_objInit : Cond.code Lib.objectInit ⟨#[0xb1]⟩ 1 none ∈ lw_tbl := List.mem_of_getElem? (i := 62) (by decide +kernel)
theorem mL_X9_9 : Cond.classLink RX9 9 RX4 ∈ lw_tbl := List.mem_of_getElem? (i := 63) (by decide +kernel)
theorem mN_X4 : Cond.instantiable RX4 8 ∈ lw_tbl := List.mem_of_getElem? (i := 64) (by decide +kernel)
theorem mM_X9_11 : Cond.methodLinkNest RX9 11 yX4_init "LampNet" ∈ lw_tbl := List.mem_of_getElem? (i := 65) (by decide +kernel)
theorem mV_X4_init : Cond.instanceMethod yX4_init ∈ lw_tbl := List.mem_of_getElem? (i := 66) (by decide +kernel)
theorem mC_X4_init : Cond.code yX4_init cX4_init 1 none ∈ lw_tbl := List.mem_of_getElem? (i := 67) (by decide +kernel)
theorem mM_X4_3 : Cond.methodLink RX4 3 Lib.objectInit ∈ lw_tbl := List.mem_of_getElem? (i := 68) (by decide +kernel)
theorem mL_X4_22 : Cond.classLink RX4 22 "[[I" ∈ lw_tbl := List.mem_of_getElem? (i := 69) (by decide +kernel)
theorem mO_array_int : Cond.arrayOver (.array .int) ∈ lw_tbl := List.mem_of_getElem? (i := 70) (by decide +kernel)
theorem mF_X9_76 : Cond.fieldLinkNest RX9 76 "LampNet$Net" "posts" "I" "LampNet" ∈ lw_tbl := List.mem_of_getElem? (i := 71) (by decide +kernel)
theorem mF_X4_33 : Cond.fieldLink RX4 33 "LampNet$Net" "posts" "I" ∈ lw_tbl := List.mem_of_getElem? (i := 72) (by decide +kernel)
theorem mF_X6_31 : Cond.fieldLinkNest RX6 31 "LampNet$Net" "posts" "I" "LampNet" ∈ lw_tbl := List.mem_of_getElem? (i := 73) (by decide +kernel)
theorem mF_X3_48 : Cond.fieldLinkNest RX3 48 "LampNet$Net" "posts" "I" "LampNet" ∈ lw_tbl := List.mem_of_getElem? (i := 74) (by decide +kernel)
theorem mF_X2_25 : Cond.fieldLinkNest RX2 25 "LampNet$Net" "posts" "I" "LampNet" ∈ lw_tbl := List.mem_of_getElem? (i := 75) (by decide +kernel)
theorem mF_X0_35 : Cond.fieldLinkNest RX0 35 "LampNet$Net" "posts" "I" "LampNet" ∈ lw_tbl := List.mem_of_getElem? (i := 76) (by decide +kernel)
theorem mF_X8_43 : Cond.fieldLinkNest RX8 43 "LampNet$Net" "posts" "I" "LampNet" ∈ lw_tbl := List.mem_of_getElem? (i := 77) (by decide +kernel)
theorem mF_X7_45 : Cond.fieldLinkNest RX7 45 "LampNet$Net" "posts" "I" "LampNet" ∈ lw_tbl := List.mem_of_getElem? (i := 78) (by decide +kernel)
theorem mF_X5_32 : Cond.fieldLinkNest RX5 32 "LampNet$Net" "posts" "I" "LampNet" ∈ lw_tbl := List.mem_of_getElem? (i := 79) (by decide +kernel)
theorem mF_X1_52 : Cond.fieldLinkNest RX1 52 "LampNet$Net" "posts" "I" "LampNet" ∈ lw_tbl := List.mem_of_getElem? (i := 80) (by decide +kernel)
theorem mF_X4_9 : Cond.fieldLink RX4 9 "LampNet$Net" "roadsVersion" "I" ∈ lw_tbl := List.mem_of_getElem? (i := 81) (by decide +kernel)
theorem mF_X8_23 : Cond.fieldLinkNest RX8 23 "LampNet$Net" "roadsVersion" "I" "LampNet" ∈ lw_tbl := List.mem_of_getElem? (i := 82) (by decide +kernel)
theorem mF_X0_46 : Cond.fieldLinkNest RX0 46 "LampNet$Net" "roadsVersion" "I" "LampNet" ∈ lw_tbl := List.mem_of_getElem? (i := 83) (by decide +kernel)
theorem mF_X4_40 : Cond.fieldLink RX4 40 "LampNet$Net" "barsVersion" "I" ∈ lw_tbl := List.mem_of_getElem? (i := 84) (by decide +kernel)
theorem mF_X4_15 : Cond.fieldLink RX4 15 "LampNet$Net" "bars" "[I" ∈ lw_tbl := List.mem_of_getElem? (i := 85) (by decide +kernel)
theorem mF_X6_45 : Cond.fieldLinkNest RX6 45 "LampNet$Net" "bars" "[I" "LampNet" ∈ lw_tbl := List.mem_of_getElem? (i := 86) (by decide +kernel)
theorem mF_X9_99 : Cond.fieldLinkNest RX9 99 "LampNet$Net" "bars" "[I" "LampNet" ∈ lw_tbl := List.mem_of_getElem? (i := 87) (by decide +kernel)
theorem mF_X4_19 : Cond.fieldLink RX4 19 "LampNet$Net" "prices" "[I" ∈ lw_tbl := List.mem_of_getElem? (i := 88) (by decide +kernel)
theorem mF_X9_103 : Cond.fieldLinkNest RX9 103 "LampNet$Net" "prices" "[I" "LampNet" ∈ lw_tbl := List.mem_of_getElem? (i := 89) (by decide +kernel)
theorem mF_X4_24 : Cond.fieldLink RX4 24 "LampNet$Net" "weights" "[[I" ∈ lw_tbl := List.mem_of_getElem? (i := 90) (by decide +kernel)
theorem mF_X4_27 : Cond.fieldLink RX4 27 "LampNet$Net" "behind" "[I" ∈ lw_tbl := List.mem_of_getElem? (i := 91) (by decide +kernel)
theorem mF_X6_48 : Cond.fieldLinkNest RX6 48 "LampNet$Net" "behind" "[I" "LampNet" ∈ lw_tbl := List.mem_of_getElem? (i := 92) (by decide +kernel)
theorem mF_X1_55 : Cond.fieldLinkNest RX1 55 "LampNet$Net" "behind" "[I" "LampNet" ∈ lw_tbl := List.mem_of_getElem? (i := 93) (by decide +kernel)
theorem mF_X9_106 : Cond.fieldLinkNest RX9 106 "LampNet$Net" "behind" "[I" "LampNet" ∈ lw_tbl := List.mem_of_getElem? (i := 94) (by decide +kernel)
theorem mF_X4_30 : Cond.fieldLink RX4 30 "LampNet$Net" "ahead" "[I" ∈ lw_tbl := List.mem_of_getElem? (i := 95) (by decide +kernel)
theorem mF_X1_46 : Cond.fieldLinkNest RX1 46 "LampNet$Net" "ahead" "[I" "LampNet" ∈ lw_tbl := List.mem_of_getElem? (i := 96) (by decide +kernel)
theorem mF_X8_65 : Cond.fieldLinkNest RX8 65 "LampNet$Net" "ahead" "[I" "LampNet" ∈ lw_tbl := List.mem_of_getElem? (i := 97) (by decide +kernel)
theorem mF_X9_109 : Cond.fieldLinkNest RX9 109 "LampNet$Net" "ahead" "[I" "LampNet" ∈ lw_tbl := List.mem_of_getElem? (i := 98) (by decide +kernel)
theorem mA_int : Cond.arrayClass .int ∈ lw_tbl := List.mem_of_getElem? (i := 116) (by decide +kernel)
theorem mL_X9_16 : Cond.classLink RX9 16 RX6 ∈ lw_tbl := List.mem_of_getElem? (i := 117) (by decide +kernel)
theorem mN_X6 : Cond.instantiable RX6 3 ∈ lw_tbl := List.mem_of_getElem? (i := 118) (by decide +kernel)
theorem mM_X9_18 : Cond.methodLink RX9 18 yX6_init ∈ lw_tbl := List.mem_of_getElem? (i := 119) (by decide +kernel)
theorem mV_X6_init : Cond.instanceMethod yX6_init ∈ lw_tbl := List.mem_of_getElem? (i := 120) (by decide +kernel)
theorem mC_X6_init : Cond.code yX6_init cX6_init 2 none ∈ lw_tbl := List.mem_of_getElem? (i := 121) (by decide +kernel)
theorem mM_X6_3 : Cond.methodLink RX6 3 Lib.objectInit ∈ lw_tbl := List.mem_of_getElem? (i := 122) (by decide +kernel)
theorem mL_X6_9 : Cond.classLink RX6 9 "[[I" ∈ lw_tbl := List.mem_of_getElem? (i := 123) (by decide +kernel)
theorem mF_X6_20 : Cond.fieldLink RX6 20 "LampNet$Spread" "net" "LLampNet$Net;" ∈ lw_tbl := List.mem_of_getElem? (i := 124) (by decide +kernel)
theorem mF_X6_11 : Cond.fieldLink RX6 11 "LampNet$Spread" "ends" "[[I" ∈ lw_tbl := List.mem_of_getElem? (i := 125) (by decide +kernel)
theorem mF_X6_16 : Cond.fieldLink RX6 16 "LampNet$Spread" "endsVersion" "[I" ∈ lw_tbl := List.mem_of_getElem? (i := 126) (by decide +kernel)
theorem mL_X9_25 : Cond.classLink RX9 25 RX1 ∈ lw_tbl := List.mem_of_getElem? (i := 134) (by decide +kernel)
theorem mN_X1 : Cond.instantiable RX1 4 ∈ lw_tbl := List.mem_of_getElem? (i := 135) (by decide +kernel)
theorem mM_X9_27 : Cond.methodLink RX9 27 yX1_init ∈ lw_tbl := List.mem_of_getElem? (i := 136) (by decide +kernel)
theorem mV_X1_init : Cond.instanceMethod yX1_init ∈ lw_tbl := List.mem_of_getElem? (i := 137) (by decide +kernel)
theorem mC_X1_init : Cond.code yX1_init cX1_init 3 none ∈ lw_tbl := List.mem_of_getElem? (i := 138) (by decide +kernel)
theorem mM_X1_3 : Cond.methodLink RX1 3 Lib.objectInit ∈ lw_tbl := List.mem_of_getElem? (i := 139) (by decide +kernel)
theorem mF_X1_15 : Cond.fieldLink RX1 15 "LampNet$Course" "net" "LLampNet$Net;" ∈ lw_tbl := List.mem_of_getElem? (i := 140) (by decide +kernel)
theorem mF_X1_19 : Cond.fieldLink RX1 19 "LampNet$Course" "spread" "LLampNet$Spread;" ∈ lw_tbl := List.mem_of_getElem? (i := 141) (by decide +kernel)
theorem mF_X1_9 : Cond.fieldLink RX1 9 "LampNet$Course" "onAt" "[I" ∈ lw_tbl := List.mem_of_getElem? (i := 142) (by decide +kernel)
theorem mF_X1_23 : Cond.fieldLink RX1 23 "LampNet$Course" "end" "I" ∈ lw_tbl := List.mem_of_getElem? (i := 143) (by decide +kernel)
theorem mF_X9_125 : Cond.fieldLinkNest RX9 125 "LampNet$Course" "end" "I" "LampNet" ∈ lw_tbl := List.mem_of_getElem? (i := 144) (by decide +kernel)
theorem mL_X9_34 : Cond.classLink RX9 34 RX5 ∈ lw_tbl := List.mem_of_getElem? (i := 154) (by decide +kernel)
theorem mN_X5 : Cond.instantiable RX5 1 ∈ lw_tbl := List.mem_of_getElem? (i := 155) (by decide +kernel)
theorem mM_X9_36 : Cond.methodLink RX9 36 yX5_init ∈ lw_tbl := List.mem_of_getElem? (i := 156) (by decide +kernel)
theorem mV_X5_init : Cond.instanceMethod yX5_init ∈ lw_tbl := List.mem_of_getElem? (i := 157) (by decide +kernel)
theorem mC_X5_init : Cond.code yX5_init cX5_init 2 none ∈ lw_tbl := List.mem_of_getElem? (i := 158) (by decide +kernel)
theorem mM_X5_1 : Cond.methodLink RX5 1 Lib.objectInit ∈ lw_tbl := List.mem_of_getElem? (i := 159) (by decide +kernel)
theorem mF_X5_7 : Cond.fieldLink RX5 7 "LampNet$Seeds" "net" "LLampNet$Net;" ∈ lw_tbl := List.mem_of_getElem? (i := 160) (by decide +kernel)
theorem mL_X9_41 : Cond.classLink RX9 41 RX7 ∈ lw_tbl := List.mem_of_getElem? (i := 164) (by decide +kernel)
theorem mN_X7 : Cond.instantiable RX7 5 ∈ lw_tbl := List.mem_of_getElem? (i := 165) (by decide +kernel)
theorem mM_X9_43 : Cond.methodLink RX9 43 yX7_init ∈ lw_tbl := List.mem_of_getElem? (i := 166) (by decide +kernel)
theorem mV_X7_init : Cond.instanceMethod yX7_init ∈ lw_tbl := List.mem_of_getElem? (i := 167) (by decide +kernel)
theorem mC_X7_init : Cond.code yX7_init cX7_init 3 none ∈ lw_tbl := List.mem_of_getElem? (i := 168) (by decide +kernel)
theorem mM_X7_3 : Cond.methodLink RX7 3 Lib.objectInit ∈ lw_tbl := List.mem_of_getElem? (i := 169) (by decide +kernel)
theorem mF_X7_21 : Cond.fieldLink RX7 21 "LampNet$Strongholds" "net" "LLampNet$Net;" ∈ lw_tbl := List.mem_of_getElem? (i := 170) (by decide +kernel)
theorem mF_X7_25 : Cond.fieldLink RX7 25 "LampNet$Strongholds" "spread" "LLampNet$Spread;" ∈ lw_tbl := List.mem_of_getElem? (i := 171) (by decide +kernel)
theorem mF_X7_9 : Cond.fieldLink RX7 9 "LampNet$Strongholds" "most" "[I" ∈ lw_tbl := List.mem_of_getElem? (i := 172) (by decide +kernel)
theorem mF_X7_15 : Cond.fieldLink RX7 15 "LampNet$Strongholds" "mostOfAll" "[I" ∈ lw_tbl := List.mem_of_getElem? (i := 173) (by decide +kernel)
theorem mF_X7_18 : Cond.fieldLink RX7 18 "LampNet$Strongholds" "mostVersion" "[I" ∈ lw_tbl := List.mem_of_getElem? (i := 174) (by decide +kernel)
theorem mL_X9_48 : Cond.classLink RX9 48 RX0 ∈ lw_tbl := List.mem_of_getElem? (i := 186) (by decide +kernel)
theorem mN_X0 : Cond.instantiable RX0 3 ∈ lw_tbl := List.mem_of_getElem? (i := 187) (by decide +kernel)
theorem mM_X9_50 : Cond.methodLink RX9 50 yX0_init ∈ lw_tbl := List.mem_of_getElem? (i := 188) (by decide +kernel)
theorem mV_X0_init : Cond.instanceMethod yX0_init ∈ lw_tbl := List.mem_of_getElem? (i := 189) (by decide +kernel)
theorem mC_X0_init : Cond.code yX0_init cX0_init 2 none ∈ lw_tbl := List.mem_of_getElem? (i := 190) (by decide +kernel)
theorem mM_X0_3 : Cond.methodLink RX0 3 Lib.objectInit ∈ lw_tbl := List.mem_of_getElem? (i := 191) (by decide +kernel)
theorem mF_X0_15 : Cond.fieldLink RX0 15 "LampNet$Burning" "net" "LLampNet$Net;" ∈ lw_tbl := List.mem_of_getElem? (i := 192) (by decide +kernel)
theorem mF_X0_9 : Cond.fieldLink RX0 9 "LampNet$Burning" "ticksLeft" "[I" ∈ lw_tbl := List.mem_of_getElem? (i := 193) (by decide +kernel)
theorem mF_X0_43 : Cond.fieldLink RX0 43 "LampNet$Burning" "ticksVersion" "I" ∈ lw_tbl := List.mem_of_getElem? (i := 194) (by decide +kernel)
theorem mL_X9_55 : Cond.classLink RX9 55 RX2 ∈ lw_tbl := List.mem_of_getElem? (i := 202) (by decide +kernel)
theorem mN_X2 : Cond.instantiable RX2 1 ∈ lw_tbl := List.mem_of_getElem? (i := 203) (by decide +kernel)
theorem mM_X9_57 : Cond.methodLink RX9 57 yX2_init ∈ lw_tbl := List.mem_of_getElem? (i := 204) (by decide +kernel)
theorem mV_X2_init : Cond.instanceMethod yX2_init ∈ lw_tbl := List.mem_of_getElem? (i := 205) (by decide +kernel)
theorem mC_X2_init : Cond.code yX2_init cX2_init 2 none ∈ lw_tbl := List.mem_of_getElem? (i := 206) (by decide +kernel)
theorem mM_X2_3 : Cond.methodLink RX2 3 Lib.objectInit ∈ lw_tbl := List.mem_of_getElem? (i := 207) (by decide +kernel)
theorem mF_X2_9 : Cond.fieldLink RX2 9 "LampNet$Fire" "net" "LLampNet$Net;" ∈ lw_tbl := List.mem_of_getElem? (i := 208) (by decide +kernel)
theorem mL_X9_62 : Cond.classLink RX9 62 RX8 ∈ lw_tbl := List.mem_of_getElem? (i := 212) (by decide +kernel)
theorem mN_X8 : Cond.instantiable RX8 3 ∈ lw_tbl := List.mem_of_getElem? (i := 213) (by decide +kernel)
theorem mM_X9_64 : Cond.methodLink RX9 64 yX8_init ∈ lw_tbl := List.mem_of_getElem? (i := 214) (by decide +kernel)
theorem mV_X8_init : Cond.instanceMethod yX8_init ∈ lw_tbl := List.mem_of_getElem? (i := 215) (by decide +kernel)
theorem mC_X8_init : Cond.code yX8_init cX8_init 2 none ∈ lw_tbl := List.mem_of_getElem? (i := 216) (by decide +kernel)
theorem mM_X8_3 : Cond.methodLink RX8 3 Lib.objectInit ∈ lw_tbl := List.mem_of_getElem? (i := 217) (by decide +kernel)
theorem mF_X8_15 : Cond.fieldLink RX8 15 "LampNet$Watch" "net" "LLampNet$Net;" ∈ lw_tbl := List.mem_of_getElem? (i := 218) (by decide +kernel)
theorem mF_X8_9 : Cond.fieldLink RX8 9 "LampNet$Watch" "holding" "[Z" ∈ lw_tbl := List.mem_of_getElem? (i := 219) (by decide +kernel)
theorem mF_X8_19 : Cond.fieldLink RX8 19 "LampNet$Watch" "holdingVersion" "I" ∈ lw_tbl := List.mem_of_getElem? (i := 220) (by decide +kernel)
theorem mA_boolean : Cond.arrayClass .boolean ∈ lw_tbl := List.mem_of_getElem? (i := 228) (by decide +kernel)
theorem mL_X9_69 : Cond.classLink RX9 69 RX3 ∈ lw_tbl := List.mem_of_getElem? (i := 229) (by decide +kernel)
theorem mN_X3 : Cond.instantiable RX3 4 ∈ lw_tbl := List.mem_of_getElem? (i := 230) (by decide +kernel)
theorem mM_X9_71 : Cond.methodLink RX9 71 yX3_init ∈ lw_tbl := List.mem_of_getElem? (i := 231) (by decide +kernel)
theorem mV_X3_init : Cond.instanceMethod yX3_init ∈ lw_tbl := List.mem_of_getElem? (i := 232) (by decide +kernel)
theorem mC_X3_init : Cond.code yX3_init cX3_init 3 none ∈ lw_tbl := List.mem_of_getElem? (i := 233) (by decide +kernel)
theorem mM_X3_3 : Cond.methodLink RX3 3 Lib.objectInit ∈ lw_tbl := List.mem_of_getElem? (i := 234) (by decide +kernel)
theorem mL_X3_9 : Cond.classLink RX3 9 "[[B" ∈ lw_tbl := List.mem_of_getElem? (i := 235) (by decide +kernel)
theorem mO_array_byte : Cond.arrayOver (.array .byte) ∈ lw_tbl := List.mem_of_getElem? (i := 236) (by decide +kernel)
theorem mF_X3_20 : Cond.fieldLink RX3 20 "LampNet$Game" "net" "LLampNet$Net;" ∈ lw_tbl := List.mem_of_getElem? (i := 237) (by decide +kernel)
theorem mF_X3_24 : Cond.fieldLink RX3 24 "LampNet$Game" "spread" "LLampNet$Spread;" ∈ lw_tbl := List.mem_of_getElem? (i := 238) (by decide +kernel)
theorem mF_X3_11 : Cond.fieldLink RX3 11 "LampNet$Game" "wins" "[[B" ∈ lw_tbl := List.mem_of_getElem? (i := 239) (by decide +kernel)
theorem mF_X3_16 : Cond.fieldLink RX3 16 "LampNet$Game" "winsVersion" "[I" ∈ lw_tbl := List.mem_of_getElem? (i := 240) (by decide +kernel)
theorem mA_byte : Cond.arrayClass .byte ∈ lw_tbl := List.mem_of_getElem? (i := 250) (by decide +kernel)
theorem mF_X9_12 : Cond.fieldLink RX9 12 "LampNet" "net" "LLampNet$Net;" ∈ lw_tbl := List.mem_of_getElem? (i := 251) (by decide +kernel)
theorem mF_X9_21 : Cond.fieldLink RX9 21 "LampNet" "spread" "LLampNet$Spread;" ∈ lw_tbl := List.mem_of_getElem? (i := 252) (by decide +kernel)
theorem mF_X9_30 : Cond.fieldLink RX9 30 "LampNet" "course" "LLampNet$Course;" ∈ lw_tbl := List.mem_of_getElem? (i := 253) (by decide +kernel)
theorem mF_X9_37 : Cond.fieldLink RX9 37 "LampNet" "seeds" "LLampNet$Seeds;" ∈ lw_tbl := List.mem_of_getElem? (i := 254) (by decide +kernel)
theorem mF_X9_44 : Cond.fieldLink RX9 44 "LampNet" "strongholds" "LLampNet$Strongholds;" ∈ lw_tbl := List.mem_of_getElem? (i := 255) (by decide +kernel)
theorem mF_X9_51 : Cond.fieldLink RX9 51 "LampNet" "burning" "LLampNet$Burning;" ∈ lw_tbl := List.mem_of_getElem? (i := 256) (by decide +kernel)
theorem mF_X9_58 : Cond.fieldLink RX9 58 "LampNet" "fires" "LLampNet$Fire;" ∈ lw_tbl := List.mem_of_getElem? (i := 257) (by decide +kernel)
theorem mF_X9_65 : Cond.fieldLink RX9 65 "LampNet" "watch" "LLampNet$Watch;" ∈ lw_tbl := List.mem_of_getElem? (i := 258) (by decide +kernel)
theorem mF_X9_72 : Cond.fieldLink RX9 72 "LampNet" "game" "LLampNet$Game;" ∈ lw_tbl := List.mem_of_getElem? (i := 259) (by decide +kernel)
theorem mM_L_13 : Cond.methodLink RL 13 yX9_post ∈ lw_tbl := List.mem_of_getElem? (i := 279) (by decide +kernel)
theorem mV_X9_post : Cond.instanceMethod yX9_post ∈ lw_tbl := List.mem_of_getElem? (i := 280) (by decide +kernel)
theorem mE_X9_post : Cond.selects RX9 yX9_post yX9_post ∈ lw_tbl := List.mem_of_getElem? (i := 281) (by decide +kernel)
theorem mC_X9_post : Cond.code yX9_post cX9_post 1 (some .int) ∈ lw_tbl := List.mem_of_getElem? (i := 282) (by decide +kernel)
theorem mM_X9_80 : Cond.methodLink RX9 80 yX4_addPost ∈ lw_tbl := List.mem_of_getElem? (i := 283) (by decide +kernel)
theorem mV_X4_addPost : Cond.instanceMethod yX4_addPost ∈ lw_tbl := List.mem_of_getElem? (i := 284) (by decide +kernel)
theorem mE_X4_addPost : Cond.selects RX4 yX4_addPost yX4_addPost ∈ lw_tbl := List.mem_of_getElem? (i := 285) (by decide +kernel)
theorem mC_X4_addPost : Cond.code yX4_addPost cX4_addPost 2 (some .int) ∈ lw_tbl := List.mem_of_getElem? (i := 286) (by decide +kernel)
theorem mM_L_18 : Cond.methodLink RL 18 yX9_road ∈ lw_tbl := List.mem_of_getElem? (i := 287) (by decide +kernel)
theorem mV_X9_road : Cond.instanceMethod yX9_road ∈ lw_tbl := List.mem_of_getElem? (i := 288) (by decide +kernel)
theorem mE_X9_road : Cond.selects RX9 yX9_road yX9_road ∈ lw_tbl := List.mem_of_getElem? (i := 289) (by decide +kernel)
theorem mC_X9_road : Cond.code yX9_road cX9_road 4 (some .int) ∈ lw_tbl := List.mem_of_getElem? (i := 290) (by decide +kernel)
theorem mM_X9_84 : Cond.methodLink RX9 84 yX4_isPost ∈ lw_tbl := List.mem_of_getElem? (i := 291) (by decide +kernel)
theorem mV_X4_isPost : Cond.instanceMethod yX4_isPost ∈ lw_tbl := List.mem_of_getElem? (i := 292) (by decide +kernel)
theorem mE_X4_isPost : Cond.selects RX4 yX4_isPost yX4_isPost ∈ lw_tbl := List.mem_of_getElem? (i := 293) (by decide +kernel)
theorem mC_X4_isPost : Cond.code yX4_isPost cX4_isPost 2 (some .boolean) ∈ lw_tbl := List.mem_of_getElem? (i := 294) (by decide +kernel)
theorem mM_X9_88 : Cond.methodLink RX9 88 yX4_setWeight ∈ lw_tbl := List.mem_of_getElem? (i := 295) (by decide +kernel)
theorem mV_X4_setWeight : Cond.instanceMethod yX4_setWeight ∈ lw_tbl := List.mem_of_getElem? (i := 296) (by decide +kernel)
theorem mE_X4_setWeight : Cond.selects RX4 yX4_setWeight yX4_setWeight ∈ lw_tbl := List.mem_of_getElem? (i := 297) (by decide +kernel)
theorem mC_X4_setWeight : Cond.code yX4_setWeight cX4_setWeight 5 (some .int) ∈ lw_tbl := List.mem_of_getElem? (i := 298) (by decide +kernel)
theorem mM_L_23 : Cond.methodLink RL 23 yX9_bar ∈ lw_tbl := List.mem_of_getElem? (i := 299) (by decide +kernel)
theorem mV_X9_bar : Cond.instanceMethod yX9_bar ∈ lw_tbl := List.mem_of_getElem? (i := 300) (by decide +kernel)
theorem mE_X9_bar : Cond.selects RX9 yX9_bar yX9_bar ∈ lw_tbl := List.mem_of_getElem? (i := 301) (by decide +kernel)
theorem mC_X9_bar : Cond.code yX9_bar cX9_bar 3 (some .int) ∈ lw_tbl := List.mem_of_getElem? (i := 302) (by decide +kernel)
theorem mM_X9_92 : Cond.methodLink RX9 92 yX4_setBar ∈ lw_tbl := List.mem_of_getElem? (i := 303) (by decide +kernel)
theorem mV_X4_setBar : Cond.instanceMethod yX4_setBar ∈ lw_tbl := List.mem_of_getElem? (i := 304) (by decide +kernel)
theorem mE_X4_setBar : Cond.selects RX4 yX4_setBar yX4_setBar ∈ lw_tbl := List.mem_of_getElem? (i := 305) (by decide +kernel)
theorem mC_X4_setBar : Cond.code yX4_setBar cX4_setBar 4 (some .int) ∈ lw_tbl := List.mem_of_getElem? (i := 306) (by decide +kernel)
theorem mM_L_28 : Cond.methodLink RL 28 yX9_price ∈ lw_tbl := List.mem_of_getElem? (i := 307) (by decide +kernel)
theorem mV_X9_price : Cond.instanceMethod yX9_price ∈ lw_tbl := List.mem_of_getElem? (i := 308) (by decide +kernel)
theorem mE_X9_price : Cond.selects RX9 yX9_price yX9_price ∈ lw_tbl := List.mem_of_getElem? (i := 309) (by decide +kernel)
theorem mC_X9_price : Cond.code yX9_price cX9_price 3 (some .int) ∈ lw_tbl := List.mem_of_getElem? (i := 310) (by decide +kernel)
theorem mM_X9_96 : Cond.methodLink RX9 96 yX4_setPrice ∈ lw_tbl := List.mem_of_getElem? (i := 311) (by decide +kernel)
theorem mV_X4_setPrice : Cond.instanceMethod yX4_setPrice ∈ lw_tbl := List.mem_of_getElem? (i := 312) (by decide +kernel)
theorem mE_X4_setPrice : Cond.selects RX4 yX4_setPrice yX4_setPrice ∈ lw_tbl := List.mem_of_getElem? (i := 313) (by decide +kernel)
theorem mC_X4_setPrice : Cond.code yX4_setPrice cX4_setPrice 4 (some .int) ∈ lw_tbl := List.mem_of_getElem? (i := 314) (by decide +kernel)
theorem mM_L_32 : Cond.methodLink RL 32 yX9_of ∈ lw_tbl := List.mem_of_getElem? (i := 315) (by decide +kernel)
theorem mV_X9_of : Cond.instanceMethod yX9_of ∈ lw_tbl := List.mem_of_getElem? (i := 316) (by decide +kernel)
theorem mE_X9_of : Cond.selects RX9 yX9_of yX9_of ∈ lw_tbl := List.mem_of_getElem? (i := 317) (by decide +kernel)
theorem mC_X9_of : Cond.code yX9_of cX9_of 3 (some .int) ∈ lw_tbl := List.mem_of_getElem? (i := 318) (by decide +kernel)
theorem mM_L_36 : Cond.methodLink RL 36 yX9_go ∈ lw_tbl := List.mem_of_getElem? (i := 319) (by decide +kernel)
theorem mV_X9_go : Cond.instanceMethod yX9_go ∈ lw_tbl := List.mem_of_getElem? (i := 320) (by decide +kernel)
theorem mE_X9_go : Cond.selects RX9 yX9_go yX9_go ∈ lw_tbl := List.mem_of_getElem? (i := 321) (by decide +kernel)
theorem mC_X9_go : Cond.code yX9_go cX9_go 3 (some .int) ∈ lw_tbl := List.mem_of_getElem? (i := 322) (by decide +kernel)
theorem mM_X9_112 : Cond.methodLink RX9 112 yX9_isRule ∈ lw_tbl := List.mem_of_getElem? (i := 323) (by decide +kernel)
theorem mS_X9_isRule : Cond.static yX9_isRule ∈ lw_tbl := List.mem_of_getElem? (i := 324) (by decide +kernel)
theorem mC_X9_isRule : Cond.code yX9_isRule cX9_isRule 1 (some .boolean) ∈ lw_tbl := List.mem_of_getElem? (i := 325) (by decide +kernel)
theorem mM_X9_115 : Cond.methodLink RX9 115 yX4_isSet ∈ lw_tbl := List.mem_of_getElem? (i := 326) (by decide +kernel)
theorem mV_X4_isSet : Cond.instanceMethod yX4_isSet ∈ lw_tbl := List.mem_of_getElem? (i := 327) (by decide +kernel)
theorem mE_X4_isSet : Cond.selects RX4 yX4_isSet yX4_isSet ∈ lw_tbl := List.mem_of_getElem? (i := 328) (by decide +kernel)
theorem mC_X4_isSet : Cond.code yX4_isSet cX4_isSet 2 (some .boolean) ∈ lw_tbl := List.mem_of_getElem? (i := 329) (by decide +kernel)
theorem mM_X4_36 : Cond.methodLink RX4 36 yX4_allPosts ∈ lw_tbl := List.mem_of_getElem? (i := 330) (by decide +kernel)
theorem mV_X4_allPosts : Cond.instanceMethod yX4_allPosts ∈ lw_tbl := List.mem_of_getElem? (i := 331) (by decide +kernel)
theorem mE_X4_allPosts : Cond.selects RX4 yX4_allPosts yX4_allPosts ∈ lw_tbl := List.mem_of_getElem? (i := 332) (by decide +kernel)
theorem mC_X4_allPosts : Cond.code yX4_allPosts cX4_allPosts 1 (some .int) ∈ lw_tbl := List.mem_of_getElem? (i := 333) (by decide +kernel)
theorem mM_X9_118 : Cond.methodLink RX9 118 yX1_follow ∈ lw_tbl := List.mem_of_getElem? (i := 334) (by decide +kernel)
theorem mV_X1_follow : Cond.instanceMethod yX1_follow ∈ lw_tbl := List.mem_of_getElem? (i := 335) (by decide +kernel)
theorem mE_X1_follow : Cond.selects RX1 yX1_follow yX1_follow ∈ lw_tbl := List.mem_of_getElem? (i := 336) (by decide +kernel)
theorem mC_X1_follow : Cond.code yX1_follow cX1_follow 6 none ∈ lw_tbl := List.mem_of_getElem? (i := 337) (by decide +kernel)
theorem mM_X1_27 : Cond.methodLink RX1 27 yX4_withBehind ∈ lw_tbl := List.mem_of_getElem? (i := 338) (by decide +kernel)
theorem mV_X4_withBehind : Cond.instanceMethod yX4_withBehind ∈ lw_tbl := List.mem_of_getElem? (i := 339) (by decide +kernel)
theorem mE_X4_withBehind : Cond.selects RX4 yX4_withBehind yX4_withBehind ∈ lw_tbl := List.mem_of_getElem? (i := 340) (by decide +kernel)
theorem mC_X4_withBehind : Cond.code yX4_withBehind cX4_withBehind 4 (some .int) ∈ lw_tbl := List.mem_of_getElem? (i := 341) (by decide +kernel)
theorem mM_X4_43 : Cond.methodLinkNest RX4 43 yX9_hasPost "LampNet" ∈ lw_tbl := List.mem_of_getElem? (i := 342) (by decide +kernel)
theorem mS_X9_hasPost : Cond.static yX9_hasPost ∈ lw_tbl := List.mem_of_getElem? (i := 343) (by decide +kernel)
theorem mC_X9_hasPost : Cond.code yX9_hasPost cX9_hasPost 2 (some .boolean) ∈ lw_tbl := List.mem_of_getElem? (i := 344) (by decide +kernel)
theorem mM_X1_33 : Cond.methodLink RX1 33 yX6_afterTick ∈ lw_tbl := List.mem_of_getElem? (i := 345) (by decide +kernel)
theorem mV_X6_afterTick : Cond.instanceMethod yX6_afterTick ∈ lw_tbl := List.mem_of_getElem? (i := 346) (by decide +kernel)
theorem mE_X6_afterTick : Cond.selects RX6 yX6_afterTick yX6_afterTick ∈ lw_tbl := List.mem_of_getElem? (i := 347) (by decide +kernel)
theorem mC_X6_afterTick : Cond.code yX6_afterTick cX6_afterTick 3 (some .int) ∈ lw_tbl := List.mem_of_getElem? (i := 348) (by decide +kernel)
theorem mM_X6_24 : Cond.methodLink RX6 24 yX6_afterTickOfBars ∈ lw_tbl := List.mem_of_getElem? (i := 349) (by decide +kernel)
theorem mV_X6_afterTickOfBars : Cond.instanceMethod yX6_afterTickOfBars ∈ lw_tbl := List.mem_of_getElem? (i := 351) (by decide +kernel)
theorem mC_X6_afterTickOfBars : Cond.code yX6_afterTickOfBars cX6_afterTickOfBars 4 (some .int) ∈ lw_tbl := List.mem_of_getElem? (i := 352) (by decide +kernel)
theorem mM_X6_37 : Cond.methodLinkNest RX6 37 yX9_hasPost "LampNet" ∈ lw_tbl := List.mem_of_getElem? (i := 353) (by decide +kernel)
theorem mM_X6_41 : Cond.methodLink RX6 41 yX4_weightOnto ∈ lw_tbl := List.mem_of_getElem? (i := 354) (by decide +kernel)
theorem mV_X4_weightOnto : Cond.instanceMethod yX4_weightOnto ∈ lw_tbl := List.mem_of_getElem? (i := 355) (by decide +kernel)
theorem mE_X4_weightOnto : Cond.selects RX4 yX4_weightOnto yX4_weightOnto ∈ lw_tbl := List.mem_of_getElem? (i := 356) (by decide +kernel)
theorem mC_X4_weightOnto : Cond.code yX4_weightOnto cX4_weightOnto 6 (some .int) ∈ lw_tbl := List.mem_of_getElem? (i := 357) (by decide +kernel)
theorem mM_X6_28 : Cond.methodLink RX6 28 yX6_afterTickOfForced ∈ lw_tbl := List.mem_of_getElem? (i := 358) (by decide +kernel)
theorem mV_X6_afterTickOfForced : Cond.instanceMethod yX6_afterTickOfForced ∈ lw_tbl := List.mem_of_getElem? (i := 360) (by decide +kernel)
theorem mC_X6_afterTickOfForced : Cond.code yX6_afterTickOfForced cX6_afterTickOfForced 6 (some .int) ∈ lw_tbl := List.mem_of_getElem? (i := 361) (by decide +kernel)
theorem mM_X9_122 : Cond.methodLink RX9 122 yX1_onAtEnd ∈ lw_tbl := List.mem_of_getElem? (i := 362) (by decide +kernel)
theorem mV_X1_onAtEnd : Cond.instanceMethod yX1_onAtEnd ∈ lw_tbl := List.mem_of_getElem? (i := 363) (by decide +kernel)
theorem mE_X1_onAtEnd : Cond.selects RX1 yX1_onAtEnd yX1_onAtEnd ∈ lw_tbl := List.mem_of_getElem? (i := 364) (by decide +kernel)
theorem mC_X1_onAtEnd : Cond.code yX1_onAtEnd cX1_onAtEnd 1 (some .int) ∈ lw_tbl := List.mem_of_getElem? (i := 365) (by decide +kernel)
theorem mM_L_40 : Cond.methodLink RL 40 yX9_ticks ∈ lw_tbl := List.mem_of_getElem? (i := 366) (by decide +kernel)
theorem mV_X9_ticks : Cond.instanceMethod yX9_ticks ∈ lw_tbl := List.mem_of_getElem? (i := 367) (by decide +kernel)
theorem mE_X9_ticks : Cond.selects RX9 yX9_ticks yX9_ticks ∈ lw_tbl := List.mem_of_getElem? (i := 368) (by decide +kernel)
theorem mC_X9_ticks : Cond.code yX9_ticks cX9_ticks 3 (some .int) ∈ lw_tbl := List.mem_of_getElem? (i := 369) (by decide +kernel)
theorem mM_L_44 : Cond.methodLink RL 44 yX9_when ∈ lw_tbl := List.mem_of_getElem? (i := 370) (by decide +kernel)
theorem mV_X9_when : Cond.instanceMethod yX9_when ∈ lw_tbl := List.mem_of_getElem? (i := 371) (by decide +kernel)
theorem mE_X9_when : Cond.selects RX9 yX9_when yX9_when ∈ lw_tbl := List.mem_of_getElem? (i := 372) (by decide +kernel)
theorem mC_X9_when : Cond.code yX9_when cX9_when 4 (some .int) ∈ lw_tbl := List.mem_of_getElem? (i := 373) (by decide +kernel)
theorem mM_X9_128 : Cond.methodLink RX9 128 yX1_tickOf ∈ lw_tbl := List.mem_of_getElem? (i := 374) (by decide +kernel)
theorem mV_X1_tickOf : Cond.instanceMethod yX1_tickOf ∈ lw_tbl := List.mem_of_getElem? (i := 375) (by decide +kernel)
theorem mE_X1_tickOf : Cond.selects RX1 yX1_tickOf yX1_tickOf ∈ lw_tbl := List.mem_of_getElem? (i := 376) (by decide +kernel)
theorem mC_X1_tickOf : Cond.code yX1_tickOf cX1_tickOf 3 (some .int) ∈ lw_tbl := List.mem_of_getElem? (i := 377) (by decide +kernel)
theorem mM_X1_39 : Cond.methodLinkNest RX1 39 yX9_hasPost "LampNet" ∈ lw_tbl := List.mem_of_getElem? (i := 378) (by decide +kernel)
theorem mM_L_48 : Cond.methodLink RL 48 yX9_brought ∈ lw_tbl := List.mem_of_getElem? (i := 379) (by decide +kernel)
theorem mV_X9_brought : Cond.instanceMethod yX9_brought ∈ lw_tbl := List.mem_of_getElem? (i := 380) (by decide +kernel)
theorem mE_X9_brought : Cond.selects RX9 yX9_brought yX9_brought ∈ lw_tbl := List.mem_of_getElem? (i := 381) (by decide +kernel)
theorem mC_X9_brought : Cond.code yX9_brought cX9_brought 4 (some .int) ∈ lw_tbl := List.mem_of_getElem? (i := 382) (by decide +kernel)
theorem mM_X9_132 : Cond.methodLink RX9 132 yX1_bringersOf ∈ lw_tbl := List.mem_of_getElem? (i := 383) (by decide +kernel)
theorem mV_X1_bringersOf : Cond.instanceMethod yX1_bringersOf ∈ lw_tbl := List.mem_of_getElem? (i := 384) (by decide +kernel)
theorem mE_X1_bringersOf : Cond.selects RX1 yX1_bringersOf yX1_bringersOf ∈ lw_tbl := List.mem_of_getElem? (i := 385) (by decide +kernel)
theorem mC_X1_bringersOf : Cond.code yX1_bringersOf cX1_bringersOf 6 (some .int) ∈ lw_tbl := List.mem_of_getElem? (i := 386) (by decide +kernel)
theorem mM_X1_43 : Cond.methodLink RX1 43 yX1_tickOf ∈ lw_tbl := List.mem_of_getElem? (i := 387) (by decide +kernel)
theorem mM_X1_49 : Cond.methodLink RX1 49 yX1_leastForcing ∈ lw_tbl := List.mem_of_getElem? (i := 388) (by decide +kernel)
theorem mV_X1_leastForcing : Cond.instanceMethod yX1_leastForcing ∈ lw_tbl := List.mem_of_getElem? (i := 390) (by decide +kernel)
theorem mC_X1_leastForcing : Cond.code yX1_leastForcing cX1_leastForcing 4 (some .int) ∈ lw_tbl := List.mem_of_getElem? (i := 391) (by decide +kernel)
theorem mM_L_52 : Cond.methodLink RL 52 yX9_fort ∈ lw_tbl := List.mem_of_getElem? (i := 392) (by decide +kernel)
theorem mV_X9_fort : Cond.instanceMethod yX9_fort ∈ lw_tbl := List.mem_of_getElem? (i := 393) (by decide +kernel)
theorem mE_X9_fort : Cond.selects RX9 yX9_fort yX9_fort ∈ lw_tbl := List.mem_of_getElem? (i := 394) (by decide +kernel)
theorem mC_X9_fort : Cond.code yX9_fort cX9_fort 3 (some .int) ∈ lw_tbl := List.mem_of_getElem? (i := 395) (by decide +kernel)
theorem mM_X9_135 : Cond.methodLink RX9 135 yX9_isPlainRule ∈ lw_tbl := List.mem_of_getElem? (i := 396) (by decide +kernel)
theorem mS_X9_isPlainRule : Cond.static yX9_isPlainRule ∈ lw_tbl := List.mem_of_getElem? (i := 397) (by decide +kernel)
theorem mC_X9_isPlainRule : Cond.code yX9_isPlainRule cX9_isPlainRule 1 (some .boolean) ∈ lw_tbl := List.mem_of_getElem? (i := 398) (by decide +kernel)
theorem mM_X9_138 : Cond.methodLink RX9 138 yX7_isFort ∈ lw_tbl := List.mem_of_getElem? (i := 399) (by decide +kernel)
theorem mV_X7_isFort : Cond.instanceMethod yX7_isFort ∈ lw_tbl := List.mem_of_getElem? (i := 400) (by decide +kernel)
theorem mE_X7_isFort : Cond.selects RX7 yX7_isFort yX7_isFort ∈ lw_tbl := List.mem_of_getElem? (i := 401) (by decide +kernel)
theorem mC_X7_isFort : Cond.code yX7_isFort cX7_isFort 3 (some .boolean) ∈ lw_tbl := List.mem_of_getElem? (i := 402) (by decide +kernel)
theorem mM_X7_29 : Cond.methodLink RX7 29 yX6_endsOf ∈ lw_tbl := List.mem_of_getElem? (i := 403) (by decide +kernel)
theorem mV_X6_endsOf : Cond.instanceMethod yX6_endsOf ∈ lw_tbl := List.mem_of_getElem? (i := 404) (by decide +kernel)
theorem mE_X6_endsOf : Cond.selects RX6 yX6_endsOf yX6_endsOf ∈ lw_tbl := List.mem_of_getElem? (i := 405) (by decide +kernel)
theorem mC_X6_endsOf : Cond.code yX6_endsOf cX6_endsOf 2 (some (.array .int)) ∈ lw_tbl := List.mem_of_getElem? (i := 406) (by decide +kernel)
theorem mM_X6_51 : Cond.methodLink RX6 51 yX4_versionOf ∈ lw_tbl := List.mem_of_getElem? (i := 407) (by decide +kernel)
theorem mV_X4_versionOf : Cond.instanceMethod yX4_versionOf ∈ lw_tbl := List.mem_of_getElem? (i := 408) (by decide +kernel)
theorem mE_X4_versionOf : Cond.selects RX4 yX4_versionOf yX4_versionOf ∈ lw_tbl := List.mem_of_getElem? (i := 409) (by decide +kernel)
theorem mC_X4_versionOf : Cond.code yX4_versionOf cX4_versionOf 2 (some .int) ∈ lw_tbl := List.mem_of_getElem? (i := 410) (by decide +kernel)
theorem mM_X6_54 : Cond.methodLink RX6 54 yX6_fillPlain ∈ lw_tbl := List.mem_of_getElem? (i := 411) (by decide +kernel)
theorem mV_X6_fillPlain : Cond.instanceMethod yX6_fillPlain ∈ lw_tbl := List.mem_of_getElem? (i := 413) (by decide +kernel)
theorem mC_X6_fillPlain : Cond.code yX6_fillPlain cX6_fillPlain 5 none ∈ lw_tbl := List.mem_of_getElem? (i := 414) (by decide +kernel)
theorem mM_X6_61 : Cond.methodLink RX6 61 yX4_allPosts ∈ lw_tbl := List.mem_of_getElem? (i := 415) (by decide +kernel)
theorem mM_X6_65 : Cond.methodLink RX6 65 yX6_afterTick ∈ lw_tbl := List.mem_of_getElem? (i := 416) (by decide +kernel)
theorem mM_X6_58 : Cond.methodLink RX6 58 yX6_fillSeen ∈ lw_tbl := List.mem_of_getElem? (i := 417) (by decide +kernel)
theorem mV_X6_fillSeen : Cond.instanceMethod yX6_fillSeen ∈ lw_tbl := List.mem_of_getElem? (i := 419) (by decide +kernel)
theorem mC_X6_fillSeen : Cond.code yX6_fillSeen cX6_fillSeen 3 none ∈ lw_tbl := List.mem_of_getElem? (i := 420) (by decide +kernel)
theorem mM_X6_68 : Cond.methodLink RX6 68 yX4_withBehind ∈ lw_tbl := List.mem_of_getElem? (i := 421) (by decide +kernel)
theorem mM_X7_35 : Cond.methodLink RX7 35 yX7_fortsWithin ∈ lw_tbl := List.mem_of_getElem? (i := 422) (by decide +kernel)
theorem mV_X7_fortsWithin : Cond.instanceMethod yX7_fortsWithin ∈ lw_tbl := List.mem_of_getElem? (i := 424) (by decide +kernel)
theorem mC_X7_fortsWithin : Cond.code yX7_fortsWithin cX7_fortsWithin 4 (some .int) ∈ lw_tbl := List.mem_of_getElem? (i := 425) (by decide +kernel)
theorem mM_X7_39 : Cond.methodLink RX7 39 yX4_allPosts ∈ lw_tbl := List.mem_of_getElem? (i := 426) (by decide +kernel)
theorem mM_L_56 : Cond.methodLink RL 56 yX9_forts ∈ lw_tbl := List.mem_of_getElem? (i := 427) (by decide +kernel)
theorem mV_X9_forts : Cond.instanceMethod yX9_forts ∈ lw_tbl := List.mem_of_getElem? (i := 428) (by decide +kernel)
theorem mE_X9_forts : Cond.selects RX9 yX9_forts yX9_forts ∈ lw_tbl := List.mem_of_getElem? (i := 429) (by decide +kernel)
theorem mC_X9_forts : Cond.code yX9_forts cX9_forts 3 (some .int) ∈ lw_tbl := List.mem_of_getElem? (i := 430) (by decide +kernel)
theorem mM_X9_142 : Cond.methodLink RX9 142 yX7_leastFort ∈ lw_tbl := List.mem_of_getElem? (i := 431) (by decide +kernel)
theorem mV_X7_leastFort : Cond.instanceMethod yX7_leastFort ∈ lw_tbl := List.mem_of_getElem? (i := 432) (by decide +kernel)
theorem mE_X7_leastFort : Cond.selects RX7 yX7_leastFort yX7_leastFort ∈ lw_tbl := List.mem_of_getElem? (i := 433) (by decide +kernel)
theorem mC_X7_leastFort : Cond.code yX7_leastFort cX7_leastFort 8 (some .int) ∈ lw_tbl := List.mem_of_getElem? (i := 434) (by decide +kernel)
theorem mM_X7_49 : Cond.methodLink RX7 49 yX7_isLeast ∈ lw_tbl := List.mem_of_getElem? (i := 435) (by decide +kernel)
theorem mV_X7_isLeast : Cond.instanceMethod yX7_isLeast ∈ lw_tbl := List.mem_of_getElem? (i := 437) (by decide +kernel)
theorem mC_X7_isLeast : Cond.code yX7_isLeast cX7_isLeast 4 (some .boolean) ∈ lw_tbl := List.mem_of_getElem? (i := 438) (by decide +kernel)
theorem mM_X7_59 : Cond.methodLinkNest RX7 59 yX9_hasPost "LampNet" ∈ lw_tbl := List.mem_of_getElem? (i := 439) (by decide +kernel)
theorem mM_X7_53 : Cond.methodLink RX7 53 yJ6_bitCount_0f7a4 ∈ lw_tbl := List.mem_of_getElem? (i := 440) (by decide +kernel)
theorem mS_J6_bitCount_0f7a4 : Cond.static yJ6_bitCount_0f7a4 ∈ lw_tbl := List.mem_of_getElem? (i := 441) (by decide +kernel)
theorem mC_J6_bitCount_0f7a4 : Cond.code yJ6_bitCount_0f7a4 cJ6_bitCount_0f7a4 1 (some .int) ∈ lw_tbl := List.mem_of_getElem? (i := 442) (by decide +kernel)
theorem mK_J6_265 : Cond.constant RJ6 265 (1431655765 : Int32) ∈ lw_tbl := List.mem_of_getElem? (i := 443) (by decide +kernel)
theorem mK_J6_266 : Cond.constant RJ6 266 (858993459 : Int32) ∈ lw_tbl := List.mem_of_getElem? (i := 444) (by decide +kernel)
theorem mK_J6_267 : Cond.constant RJ6 267 (252645135 : Int32) ∈ lw_tbl := List.mem_of_getElem? (i := 445) (by decide +kernel)
theorem mM_L_60 : Cond.methodLink RL 60 yX9_apart ∈ lw_tbl := List.mem_of_getElem? (i := 446) (by decide +kernel)
theorem mV_X9_apart : Cond.instanceMethod yX9_apart ∈ lw_tbl := List.mem_of_getElem? (i := 447) (by decide +kernel)
theorem mE_X9_apart : Cond.selects RX9 yX9_apart yX9_apart ∈ lw_tbl := List.mem_of_getElem? (i := 448) (by decide +kernel)
theorem mC_X9_apart : Cond.code yX9_apart cX9_apart 2 (some .int) ∈ lw_tbl := List.mem_of_getElem? (i := 449) (by decide +kernel)
theorem mM_X9_145 : Cond.methodLink RX9 145 yX7_mostApart ∈ lw_tbl := List.mem_of_getElem? (i := 450) (by decide +kernel)
theorem mV_X7_mostApart : Cond.instanceMethod yX7_mostApart ∈ lw_tbl := List.mem_of_getElem? (i := 451) (by decide +kernel)
theorem mE_X7_mostApart : Cond.selects RX7 yX7_mostApart yX7_mostApart ∈ lw_tbl := List.mem_of_getElem? (i := 452) (by decide +kernel)
theorem mC_X7_mostApart : Cond.code yX7_mostApart cX7_mostApart 5 (some .int) ∈ lw_tbl := List.mem_of_getElem? (i := 453) (by decide +kernel)
theorem mM_X7_63 : Cond.methodLink RX7 63 yX4_versionOf ∈ lw_tbl := List.mem_of_getElem? (i := 454) (by decide +kernel)
theorem mM_X7_66 : Cond.methodLink RX7 66 yX7_mostWithin ∈ lw_tbl := List.mem_of_getElem? (i := 455) (by decide +kernel)
theorem mV_X7_mostWithin : Cond.instanceMethod yX7_mostWithin ∈ lw_tbl := List.mem_of_getElem? (i := 457) (by decide +kernel)
theorem mC_X7_mostWithin : Cond.code yX7_mostWithin cX7_mostWithin 4 (some .int) ∈ lw_tbl := List.mem_of_getElem? (i := 458) (by decide +kernel)
theorem mM_X7_69 : Cond.methodLink RX7 69 yX7_mostByLowest ∈ lw_tbl := List.mem_of_getElem? (i := 459) (by decide +kernel)
theorem mV_X7_mostByLowest : Cond.instanceMethod yX7_mostByLowest ∈ lw_tbl := List.mem_of_getElem? (i := 461) (by decide +kernel)
theorem mC_X7_mostByLowest : Cond.code yX7_mostByLowest cX7_mostByLowest 8 (some .int) ∈ lw_tbl := List.mem_of_getElem? (i := 462) (by decide +kernel)
theorem mM_X7_72 : Cond.methodLink RX7 72 Lib.Math.max.name ∈ lw_tbl := List.mem_of_getElem? (i := 463) (by decide +kernel)
theorem mS_J9_max_7cf53 : Cond.static Lib.Math.max.name ∈ lw_tbl := List.mem_of_getElem? (i := 464) (by decide +kernel)
theorem mC_J9_max_7cf53 : Cond.code Lib.Math.max.name Lib.Math.max.code 2 (some .int) ∈ lw_tbl := List.mem_of_getElem? (i := 465) (by decide +kernel)
theorem mM_L_65 : Cond.methodLink RL 65 yX9_least ∈ lw_tbl := List.mem_of_getElem? (i := 466) (by decide +kernel)
theorem mV_X9_least : Cond.instanceMethod yX9_least ∈ lw_tbl := List.mem_of_getElem? (i := 467) (by decide +kernel)
theorem mE_X9_least : Cond.selects RX9 yX9_least yX9_least ∈ lw_tbl := List.mem_of_getElem? (i := 468) (by decide +kernel)
theorem mC_X9_least : Cond.code yX9_least cX9_least 2 (some .int) ∈ lw_tbl := List.mem_of_getElem? (i := 469) (by decide +kernel)
theorem mM_X9_148 : Cond.methodLink RX9 148 yX6_endsOf ∈ lw_tbl := List.mem_of_getElem? (i := 470) (by decide +kernel)
theorem mM_X9_152 : Cond.methodLink RX9 152 yX5_smallest ∈ lw_tbl := List.mem_of_getElem? (i := 471) (by decide +kernel)
theorem mV_X5_smallest : Cond.instanceMethod yX5_smallest ∈ lw_tbl := List.mem_of_getElem? (i := 472) (by decide +kernel)
theorem mE_X5_smallest : Cond.selects RX5 yX5_smallest yX5_smallest ∈ lw_tbl := List.mem_of_getElem? (i := 473) (by decide +kernel)
theorem mC_X5_smallest : Cond.code yX5_smallest cX5_smallest 5 (some .int) ∈ lw_tbl := List.mem_of_getElem? (i := 474) (by decide +kernel)
theorem mM_X5_13 : Cond.methodLink RX5 13 yX4_allPosts ∈ lw_tbl := List.mem_of_getElem? (i := 475) (by decide +kernel)
theorem mM_X5_19 : Cond.methodLink RX5 19 yJ6_bitCount_0f7a4 ∈ lw_tbl := List.mem_of_getElem? (i := 476) (by decide +kernel)
theorem mM_L_69 : Cond.methodLink RL 69 yX9_many ∈ lw_tbl := List.mem_of_getElem? (i := 477) (by decide +kernel)
theorem mV_X9_many : Cond.instanceMethod yX9_many ∈ lw_tbl := List.mem_of_getElem? (i := 478) (by decide +kernel)
theorem mE_X9_many : Cond.selects RX9 yX9_many yX9_many ∈ lw_tbl := List.mem_of_getElem? (i := 479) (by decide +kernel)
theorem mC_X9_many : Cond.code yX9_many cX9_many 2 (some .int) ∈ lw_tbl := List.mem_of_getElem? (i := 480) (by decide +kernel)
theorem mM_X9_156 : Cond.methodLink RX9 156 yX5_howManySmallest ∈ lw_tbl := List.mem_of_getElem? (i := 481) (by decide +kernel)
theorem mV_X5_howManySmallest : Cond.instanceMethod yX5_howManySmallest ∈ lw_tbl := List.mem_of_getElem? (i := 482) (by decide +kernel)
theorem mE_X5_howManySmallest : Cond.selects RX5 yX5_howManySmallest yX5_howManySmallest ∈ lw_tbl := List.mem_of_getElem? (i := 483) (by decide +kernel)
theorem mC_X5_howManySmallest : Cond.code yX5_howManySmallest cX5_howManySmallest 6 (some .int) ∈ lw_tbl := List.mem_of_getElem? (i := 484) (by decide +kernel)
theorem mM_X5_25 : Cond.methodLink RX5 25 yX5_smallest ∈ lw_tbl := List.mem_of_getElem? (i := 485) (by decide +kernel)
theorem mM_L_73 : Cond.methodLink RL 73 yX9_cheapest ∈ lw_tbl := List.mem_of_getElem? (i := 486) (by decide +kernel)
theorem mV_X9_cheapest : Cond.instanceMethod yX9_cheapest ∈ lw_tbl := List.mem_of_getElem? (i := 487) (by decide +kernel)
theorem mE_X9_cheapest : Cond.selects RX9 yX9_cheapest yX9_cheapest ∈ lw_tbl := List.mem_of_getElem? (i := 488) (by decide +kernel)
theorem mC_X9_cheapest : Cond.code yX9_cheapest cX9_cheapest 2 (some .int) ∈ lw_tbl := List.mem_of_getElem? (i := 489) (by decide +kernel)
theorem mM_X9_159 : Cond.methodLink RX9 159 yX5_leastPriced ∈ lw_tbl := List.mem_of_getElem? (i := 490) (by decide +kernel)
theorem mV_X5_leastPriced : Cond.instanceMethod yX5_leastPriced ∈ lw_tbl := List.mem_of_getElem? (i := 491) (by decide +kernel)
theorem mE_X5_leastPriced : Cond.selects RX5 yX5_leastPriced yX5_leastPriced ∈ lw_tbl := List.mem_of_getElem? (i := 492) (by decide +kernel)
theorem mC_X5_leastPriced : Cond.code yX5_leastPriced cX5_leastPriced 6 (some .int) ∈ lw_tbl := List.mem_of_getElem? (i := 493) (by decide +kernel)
theorem mM_X5_29 : Cond.methodLink RX5 29 yX4_priceOf ∈ lw_tbl := List.mem_of_getElem? (i := 494) (by decide +kernel)
theorem mV_X4_priceOf : Cond.instanceMethod yX4_priceOf ∈ lw_tbl := List.mem_of_getElem? (i := 495) (by decide +kernel)
theorem mE_X4_priceOf : Cond.selects RX4 yX4_priceOf yX4_priceOf ∈ lw_tbl := List.mem_of_getElem? (i := 496) (by decide +kernel)
theorem mC_X4_priceOf : Cond.code yX4_priceOf cX4_priceOf 4 (some .int) ∈ lw_tbl := List.mem_of_getElem? (i := 497) (by decide +kernel)
theorem mM_L_77 : Cond.methodLink RL 77 yX9_pared ∈ lw_tbl := List.mem_of_getElem? (i := 498) (by decide +kernel)
theorem mV_X9_pared : Cond.instanceMethod yX9_pared ∈ lw_tbl := List.mem_of_getElem? (i := 499) (by decide +kernel)
theorem mE_X9_pared : Cond.selects RX9 yX9_pared yX9_pared ∈ lw_tbl := List.mem_of_getElem? (i := 500) (by decide +kernel)
theorem mC_X9_pared : Cond.code yX9_pared cX9_pared 2 (some .int) ∈ lw_tbl := List.mem_of_getElem? (i := 501) (by decide +kernel)
theorem mM_X9_162 : Cond.methodLink RX9 162 yX5_paredDown ∈ lw_tbl := List.mem_of_getElem? (i := 502) (by decide +kernel)
theorem mV_X5_paredDown : Cond.instanceMethod yX5_paredDown ∈ lw_tbl := List.mem_of_getElem? (i := 503) (by decide +kernel)
theorem mE_X5_paredDown : Cond.selects RX5 yX5_paredDown yX5_paredDown ∈ lw_tbl := List.mem_of_getElem? (i := 504) (by decide +kernel)
theorem mC_X5_paredDown : Cond.code yX5_paredDown cX5_paredDown 6 (some .int) ∈ lw_tbl := List.mem_of_getElem? (i := 505) (by decide +kernel)
theorem mM_L_81 : Cond.methodLink RL 81 yX9_burn ∈ lw_tbl := List.mem_of_getElem? (i := 506) (by decide +kernel)
theorem mV_X9_burn : Cond.instanceMethod yX9_burn ∈ lw_tbl := List.mem_of_getElem? (i := 507) (by decide +kernel)
theorem mE_X9_burn : Cond.selects RX9 yX9_burn yX9_burn ∈ lw_tbl := List.mem_of_getElem? (i := 508) (by decide +kernel)
theorem mC_X9_burn : Cond.code yX9_burn cX9_burn 1 (some .int) ∈ lw_tbl := List.mem_of_getElem? (i := 509) (by decide +kernel)
theorem mM_X9_165 : Cond.methodLink RX9 165 yX0_fewestTicks ∈ lw_tbl := List.mem_of_getElem? (i := 510) (by decide +kernel)
theorem mV_X0_fewestTicks : Cond.instanceMethod yX0_fewestTicks ∈ lw_tbl := List.mem_of_getElem? (i := 511) (by decide +kernel)
theorem mE_X0_fewestTicks : Cond.selects RX0 yX0_fewestTicks yX0_fewestTicks ∈ lw_tbl := List.mem_of_getElem? (i := 512) (by decide +kernel)
theorem mC_X0_fewestTicks : Cond.code yX0_fewestTicks cX0_fewestTicks 1 (some .int) ∈ lw_tbl := List.mem_of_getElem? (i := 513) (by decide +kernel)
theorem mM_X0_19 : Cond.methodLink RX0 19 yX0_renewTicks ∈ lw_tbl := List.mem_of_getElem? (i := 514) (by decide +kernel)
theorem mV_X0_renewTicks : Cond.instanceMethod yX0_renewTicks ∈ lw_tbl := List.mem_of_getElem? (i := 516) (by decide +kernel)
theorem mC_X0_renewTicks : Cond.code yX0_renewTicks cX0_renewTicks 4 none ∈ lw_tbl := List.mem_of_getElem? (i := 517) (by decide +kernel)
theorem mM_X0_22 : Cond.methodLink RX0 22 yX4_allPosts ∈ lw_tbl := List.mem_of_getElem? (i := 518) (by decide +kernel)
theorem mM_X0_28 : Cond.methodLink RX0 28 yX4_withBehind ∈ lw_tbl := List.mem_of_getElem? (i := 519) (by decide +kernel)
theorem mM_X0_32 : Cond.methodLink RX0 32 yX0_bestPost ∈ lw_tbl := List.mem_of_getElem? (i := 520) (by decide +kernel)
theorem mV_X0_bestPost : Cond.instanceMethod yX0_bestPost ∈ lw_tbl := List.mem_of_getElem? (i := 522) (by decide +kernel)
theorem mC_X0_bestPost : Cond.code yX0_bestPost cX0_bestPost 5 (some .int) ∈ lw_tbl := List.mem_of_getElem? (i := 523) (by decide +kernel)
theorem mM_X0_39 : Cond.methodLinkNest RX0 39 yX9_hasPost "LampNet" ∈ lw_tbl := List.mem_of_getElem? (i := 524) (by decide +kernel)
theorem mM_L_85 : Cond.methodLink RL 85 yX9_hand ∈ lw_tbl := List.mem_of_getElem? (i := 525) (by decide +kernel)
theorem mV_X9_hand : Cond.instanceMethod yX9_hand ∈ lw_tbl := List.mem_of_getElem? (i := 526) (by decide +kernel)
theorem mE_X9_hand : Cond.selects RX9 yX9_hand yX9_hand ∈ lw_tbl := List.mem_of_getElem? (i := 527) (by decide +kernel)
theorem mC_X9_hand : Cond.code yX9_hand cX9_hand 2 (some .int) ∈ lw_tbl := List.mem_of_getElem? (i := 528) (by decide +kernel)
theorem mM_X9_168 : Cond.methodLink RX9 168 yX0_bestHand ∈ lw_tbl := List.mem_of_getElem? (i := 529) (by decide +kernel)
theorem mV_X0_bestHand : Cond.instanceMethod yX0_bestHand ∈ lw_tbl := List.mem_of_getElem? (i := 530) (by decide +kernel)
theorem mE_X0_bestHand : Cond.selects RX0 yX0_bestHand yX0_bestHand ∈ lw_tbl := List.mem_of_getElem? (i := 531) (by decide +kernel)
theorem mC_X0_bestHand : Cond.code yX0_bestHand cX0_bestHand 7 (some .int) ∈ lw_tbl := List.mem_of_getElem? (i := 532) (by decide +kernel)
theorem mM_L_91 : Cond.methodLink RL 91 yX9_burnt ∈ lw_tbl := List.mem_of_getElem? (i := 533) (by decide +kernel)
theorem mV_X9_burnt : Cond.instanceMethod yX9_burnt ∈ lw_tbl := List.mem_of_getElem? (i := 534) (by decide +kernel)
theorem mE_X9_burnt : Cond.selects RX9 yX9_burnt yX9_burnt ∈ lw_tbl := List.mem_of_getElem? (i := 535) (by decide +kernel)
theorem mC_X9_burnt : Cond.code yX9_burnt cX9_burnt 3 (some .int) ∈ lw_tbl := List.mem_of_getElem? (i := 536) (by decide +kernel)
theorem mM_X9_171 : Cond.methodLink RX9 171 yX0_ticksByHands ∈ lw_tbl := List.mem_of_getElem? (i := 537) (by decide +kernel)
theorem mV_X0_ticksByHands : Cond.instanceMethod yX0_ticksByHands ∈ lw_tbl := List.mem_of_getElem? (i := 538) (by decide +kernel)
theorem mE_X0_ticksByHands : Cond.selects RX0 yX0_ticksByHands yX0_ticksByHands ∈ lw_tbl := List.mem_of_getElem? (i := 539) (by decide +kernel)
theorem mC_X0_ticksByHands : Cond.code yX0_ticksByHands cX0_ticksByHands 10 (some .int) ∈ lw_tbl := List.mem_of_getElem? (i := 540) (by decide +kernel)
theorem mK_X0_49 : Cond.constantLong RX0 49 (13 : Int64) ∈ lw_tbl := List.mem_of_getElem? (i := 541) (by decide +kernel)
theorem mM_X0_51 : Cond.methodLink RX0 51 yX4_isPost ∈ lw_tbl := List.mem_of_getElem? (i := 542) (by decide +kernel)
theorem mM_L_96 : Cond.methodLink RL 96 yX9_save ∈ lw_tbl := List.mem_of_getElem? (i := 543) (by decide +kernel)
theorem mV_X9_save : Cond.instanceMethod yX9_save ∈ lw_tbl := List.mem_of_getElem? (i := 544) (by decide +kernel)
theorem mE_X9_save : Cond.selects RX9 yX9_save yX9_save ∈ lw_tbl := List.mem_of_getElem? (i := 545) (by decide +kernel)
theorem mC_X9_save : Cond.code yX9_save cX9_save 2 (some .int) ∈ lw_tbl := List.mem_of_getElem? (i := 546) (by decide +kernel)
theorem mM_X9_175 : Cond.methodLink RX9 175 yX2_saved ∈ lw_tbl := List.mem_of_getElem? (i := 547) (by decide +kernel)
theorem mV_X2_saved : Cond.instanceMethod yX2_saved ∈ lw_tbl := List.mem_of_getElem? (i := 548) (by decide +kernel)
theorem mE_X2_saved : Cond.selects RX2 yX2_saved yX2_saved ∈ lw_tbl := List.mem_of_getElem? (i := 549) (by decide +kernel)
theorem mC_X2_saved : Cond.code yX2_saved cX2_saved 2 (some .int) ∈ lw_tbl := List.mem_of_getElem? (i := 550) (by decide +kernel)
theorem mM_X2_15 : Cond.methodLink RX2 15 yX2_mostSaved ∈ lw_tbl := List.mem_of_getElem? (i := 551) (by decide +kernel)
theorem mV_X2_mostSaved : Cond.instanceMethod yX2_mostSaved ∈ lw_tbl := List.mem_of_getElem? (i := 553) (by decide +kernel)
theorem mC_X2_mostSaved : Cond.code yX2_mostSaved cX2_mostSaved 7 (some .int) ∈ lw_tbl := List.mem_of_getElem? (i := 554) (by decide +kernel)
theorem mM_X2_19 : Cond.methodLink RX2 19 yX4_allPosts ∈ lw_tbl := List.mem_of_getElem? (i := 555) (by decide +kernel)
theorem mM_X2_29 : Cond.methodLink RX2 29 yJ6_bitCount_0f7a4 ∈ lw_tbl := List.mem_of_getElem? (i := 556) (by decide +kernel)
theorem mM_X2_35 : Cond.methodLinkNest RX2 35 yX9_hasPost "LampNet" ∈ lw_tbl := List.mem_of_getElem? (i := 557) (by decide +kernel)
theorem mM_X2_39 : Cond.methodLink RX2 39 yX2_savedBehind ∈ lw_tbl := List.mem_of_getElem? (i := 558) (by decide +kernel)
theorem mV_X2_savedBehind : Cond.instanceMethod yX2_savedBehind ∈ lw_tbl := List.mem_of_getElem? (i := 560) (by decide +kernel)
theorem mC_X2_savedBehind : Cond.code yX2_savedBehind cX2_savedBehind 5 (some .int) ∈ lw_tbl := List.mem_of_getElem? (i := 561) (by decide +kernel)
theorem mM_X2_48 : Cond.methodLink RX2 48 yX2_afterTick ∈ lw_tbl := List.mem_of_getElem? (i := 562) (by decide +kernel)
theorem mV_X2_afterTick : Cond.instanceMethod yX2_afterTick ∈ lw_tbl := List.mem_of_getElem? (i := 564) (by decide +kernel)
theorem mC_X2_afterTick : Cond.code yX2_afterTick cX2_afterTick 3 (some .int) ∈ lw_tbl := List.mem_of_getElem? (i := 565) (by decide +kernel)
theorem mM_X2_51 : Cond.methodLink RX2 51 yX4_withBehind ∈ lw_tbl := List.mem_of_getElem? (i := 566) (by decide +kernel)
theorem mM_X2_42 : Cond.methodLink RX2 42 Lib.Math.max.name ∈ lw_tbl := List.mem_of_getElem? (i := 567) (by decide +kernel)
theorem mM_L_100 : Cond.methodLink RL 100 yX9_wall ∈ lw_tbl := List.mem_of_getElem? (i := 568) (by decide +kernel)
theorem mV_X9_wall : Cond.instanceMethod yX9_wall ∈ lw_tbl := List.mem_of_getElem? (i := 569) (by decide +kernel)
theorem mE_X9_wall : Cond.selects RX9 yX9_wall yX9_wall ∈ lw_tbl := List.mem_of_getElem? (i := 570) (by decide +kernel)
theorem mC_X9_wall : Cond.code yX9_wall cX9_wall 3 (some .int) ∈ lw_tbl := List.mem_of_getElem? (i := 571) (by decide +kernel)
theorem mM_X9_178 : Cond.methodLink RX9 178 yX2_bestWall ∈ lw_tbl := List.mem_of_getElem? (i := 572) (by decide +kernel)
theorem mV_X2_bestWall : Cond.instanceMethod yX2_bestWall ∈ lw_tbl := List.mem_of_getElem? (i := 573) (by decide +kernel)
theorem mE_X2_bestWall : Cond.selects RX2 yX2_bestWall yX2_bestWall ∈ lw_tbl := List.mem_of_getElem? (i := 574) (by decide +kernel)
theorem mC_X2_bestWall : Cond.code yX2_bestWall cX2_bestWall 8 (some .int) ∈ lw_tbl := List.mem_of_getElem? (i := 575) (by decide +kernel)
theorem mM_X2_54 : Cond.methodLink RX2 54 yX2_bestPost ∈ lw_tbl := List.mem_of_getElem? (i := 576) (by decide +kernel)
theorem mV_X2_bestPost : Cond.instanceMethod yX2_bestPost ∈ lw_tbl := List.mem_of_getElem? (i := 578) (by decide +kernel)
theorem mC_X2_bestPost : Cond.code yX2_bestPost cX2_bestPost 7 (some .int) ∈ lw_tbl := List.mem_of_getElem? (i := 579) (by decide +kernel)
theorem mM_L_104 : Cond.methodLink RL 104 yX9_holds ∈ lw_tbl := List.mem_of_getElem? (i := 580) (by decide +kernel)
theorem mV_X9_holds : Cond.instanceMethod yX9_holds ∈ lw_tbl := List.mem_of_getElem? (i := 581) (by decide +kernel)
theorem mE_X9_holds : Cond.selects RX9 yX9_holds yX9_holds ∈ lw_tbl := List.mem_of_getElem? (i := 582) (by decide +kernel)
theorem mC_X9_holds : Cond.code yX9_holds cX9_holds 2 (some .int) ∈ lw_tbl := List.mem_of_getElem? (i := 583) (by decide +kernel)
theorem mM_X9_181 : Cond.methodLink RX9 181 yX8_freshHolding ∈ lw_tbl := List.mem_of_getElem? (i := 584) (by decide +kernel)
theorem mV_X8_freshHolding : Cond.instanceMethod yX8_freshHolding ∈ lw_tbl := List.mem_of_getElem? (i := 585) (by decide +kernel)
theorem mE_X8_freshHolding : Cond.selects RX8 yX8_freshHolding yX8_freshHolding ∈ lw_tbl := List.mem_of_getElem? (i := 586) (by decide +kernel)
theorem mC_X8_freshHolding : Cond.code yX8_freshHolding cX8_freshHolding 1 (some (.array .boolean)) ∈ lw_tbl := List.mem_of_getElem? (i := 587) (by decide +kernel)
theorem mM_X8_28 : Cond.methodLink RX8 28 yX8_fillHolding ∈ lw_tbl := List.mem_of_getElem? (i := 588) (by decide +kernel)
theorem mV_X8_fillHolding : Cond.instanceMethod yX8_fillHolding ∈ lw_tbl := List.mem_of_getElem? (i := 590) (by decide +kernel)
theorem mC_X8_fillHolding : Cond.code yX8_fillHolding cX8_fillHolding 4 none ∈ lw_tbl := List.mem_of_getElem? (i := 591) (by decide +kernel)
theorem mM_X8_31 : Cond.methodLink RX8 31 yX4_allPosts ∈ lw_tbl := List.mem_of_getElem? (i := 592) (by decide +kernel)
theorem mM_X8_35 : Cond.methodLink RX8 35 yX8_takeFailingAway ∈ lw_tbl := List.mem_of_getElem? (i := 593) (by decide +kernel)
theorem mV_X8_takeFailingAway : Cond.instanceMethod yX8_takeFailingAway ∈ lw_tbl := List.mem_of_getElem? (i := 595) (by decide +kernel)
theorem mC_X8_takeFailingAway : Cond.code yX8_takeFailingAway cX8_takeFailingAway 4 (some .boolean) ∈ lw_tbl := List.mem_of_getElem? (i := 596) (by decide +kernel)
theorem mM_X8_69 : Cond.methodLink RX8 69 yX8_answersAll ∈ lw_tbl := List.mem_of_getElem? (i := 597) (by decide +kernel)
theorem mV_X8_answersAll : Cond.instanceMethod yX8_answersAll ∈ lw_tbl := List.mem_of_getElem? (i := 599) (by decide +kernel)
theorem mC_X8_answersAll : Cond.code yX8_answersAll cX8_answersAll 3 (some .boolean) ∈ lw_tbl := List.mem_of_getElem? (i := 600) (by decide +kernel)
theorem mM_X8_58 : Cond.methodLinkNest RX8 58 yX9_hasPost "LampNet" ∈ lw_tbl := List.mem_of_getElem? (i := 601) (by decide +kernel)
theorem mM_X8_62 : Cond.methodLink RX8 62 yX8_leastAnswer ∈ lw_tbl := List.mem_of_getElem? (i := 602) (by decide +kernel)
theorem mV_X8_leastAnswer : Cond.instanceMethod yX8_leastAnswer ∈ lw_tbl := List.mem_of_getElem? (i := 604) (by decide +kernel)
theorem mC_X8_leastAnswer : Cond.code yX8_leastAnswer cX8_leastAnswer 5 (some .int) ∈ lw_tbl := List.mem_of_getElem? (i := 605) (by decide +kernel)
theorem mM_L_108 : Cond.methodLink RL 108 yX9_guards ∈ lw_tbl := List.mem_of_getElem? (i := 606) (by decide +kernel)
theorem mV_X9_guards : Cond.instanceMethod yX9_guards ∈ lw_tbl := List.mem_of_getElem? (i := 607) (by decide +kernel)
theorem mE_X9_guards : Cond.selects RX9 yX9_guards yX9_guards ∈ lw_tbl := List.mem_of_getElem? (i := 608) (by decide +kernel)
theorem mC_X9_guards : Cond.code yX9_guards cX9_guards 1 (some .int) ∈ lw_tbl := List.mem_of_getElem? (i := 609) (by decide +kernel)
theorem mM_X9_185 : Cond.methodLink RX9 185 yX8_fewestHolding ∈ lw_tbl := List.mem_of_getElem? (i := 610) (by decide +kernel)
theorem mV_X8_fewestHolding : Cond.instanceMethod yX8_fewestHolding ∈ lw_tbl := List.mem_of_getElem? (i := 611) (by decide +kernel)
theorem mE_X8_fewestHolding : Cond.selects RX8 yX8_fewestHolding yX8_fewestHolding ∈ lw_tbl := List.mem_of_getElem? (i := 612) (by decide +kernel)
theorem mC_X8_fewestHolding : Cond.code yX8_fewestHolding cX8_fewestHolding 5 (some .int) ∈ lw_tbl := List.mem_of_getElem? (i := 613) (by decide +kernel)
theorem mM_X8_39 : Cond.methodLink RX8 39 yX8_freshHolding ∈ lw_tbl := List.mem_of_getElem? (i := 614) (by decide +kernel)
theorem mM_X8_46 : Cond.methodLink RX8 46 yJ6_bitCount_0f7a4 ∈ lw_tbl := List.mem_of_getElem? (i := 615) (by decide +kernel)
theorem mM_X8_52 : Cond.methodLink RX8 52 Lib.Math.min.name ∈ lw_tbl := List.mem_of_getElem? (i := 616) (by decide +kernel)
theorem mS_J9_min_7cf53 : Cond.static Lib.Math.min.name ∈ lw_tbl := List.mem_of_getElem? (i := 617) (by decide +kernel)
theorem mC_J9_min_7cf53 : Cond.code Lib.Math.min.name Lib.Math.min.code 2 (some .int) ∈ lw_tbl := List.mem_of_getElem? (i := 618) (by decide +kernel)
theorem mM_L_112 : Cond.methodLink RL 112 yX9_answer ∈ lw_tbl := List.mem_of_getElem? (i := 619) (by decide +kernel)
theorem mV_X9_answer : Cond.instanceMethod yX9_answer ∈ lw_tbl := List.mem_of_getElem? (i := 620) (by decide +kernel)
theorem mE_X9_answer : Cond.selects RX9 yX9_answer yX9_answer ∈ lw_tbl := List.mem_of_getElem? (i := 621) (by decide +kernel)
theorem mC_X9_answer : Cond.code yX9_answer cX9_answer 3 (some .int) ∈ lw_tbl := List.mem_of_getElem? (i := 622) (by decide +kernel)
theorem mM_X9_188 : Cond.methodLink RX9 188 yX8_answerFrom ∈ lw_tbl := List.mem_of_getElem? (i := 623) (by decide +kernel)
theorem mV_X8_answerFrom : Cond.instanceMethod yX8_answerFrom ∈ lw_tbl := List.mem_of_getElem? (i := 624) (by decide +kernel)
theorem mE_X8_answerFrom : Cond.selects RX8 yX8_answerFrom yX8_answerFrom ∈ lw_tbl := List.mem_of_getElem? (i := 625) (by decide +kernel)
theorem mC_X8_answerFrom : Cond.code yX8_answerFrom cX8_answerFrom 4 (some .int) ∈ lw_tbl := List.mem_of_getElem? (i := 626) (by decide +kernel)
theorem mM_L_116 : Cond.methodLink RL 116 yX9_win ∈ lw_tbl := List.mem_of_getElem? (i := 627) (by decide +kernel)
theorem mV_X9_win : Cond.instanceMethod yX9_win ∈ lw_tbl := List.mem_of_getElem? (i := 628) (by decide +kernel)
theorem mE_X9_win : Cond.selects RX9 yX9_win yX9_win ∈ lw_tbl := List.mem_of_getElem? (i := 629) (by decide +kernel)
theorem mC_X9_win : Cond.code yX9_win cX9_win 3 (some .int) ∈ lw_tbl := List.mem_of_getElem? (i := 630) (by decide +kernel)
theorem mM_X9_191 : Cond.methodLink RX9 191 yX3_winsOf ∈ lw_tbl := List.mem_of_getElem? (i := 631) (by decide +kernel)
theorem mV_X3_winsOf : Cond.instanceMethod yX3_winsOf ∈ lw_tbl := List.mem_of_getElem? (i := 632) (by decide +kernel)
theorem mE_X3_winsOf : Cond.selects RX3 yX3_winsOf yX3_winsOf ∈ lw_tbl := List.mem_of_getElem? (i := 633) (by decide +kernel)
theorem mC_X3_winsOf : Cond.code yX3_winsOf cX3_winsOf 5 (some (.array .byte)) ∈ lw_tbl := List.mem_of_getElem? (i := 634) (by decide +kernel)
theorem mM_X3_28 : Cond.methodLink RX3 28 yX4_versionOf ∈ lw_tbl := List.mem_of_getElem? (i := 635) (by decide +kernel)
theorem mM_X3_34 : Cond.methodLink RX3 34 yX6_endsOf ∈ lw_tbl := List.mem_of_getElem? (i := 636) (by decide +kernel)
theorem mM_X3_40 : Cond.methodLink RX3 40 yX4_allPosts ∈ lw_tbl := List.mem_of_getElem? (i := 637) (by decide +kernel)
theorem mM_X3_44 : Cond.methodLink RX3 44 yX3_winningPost ∈ lw_tbl := List.mem_of_getElem? (i := 638) (by decide +kernel)
theorem mV_X3_winningPost : Cond.instanceMethod yX3_winningPost ∈ lw_tbl := List.mem_of_getElem? (i := 639) (by decide +kernel)
theorem mE_X3_winningPost : Cond.selects RX3 yX3_winningPost yX3_winningPost ∈ lw_tbl := List.mem_of_getElem? (i := 640) (by decide +kernel)
theorem mC_X3_winningPost : Cond.code yX3_winningPost cX3_winningPost 5 (some .int) ∈ lw_tbl := List.mem_of_getElem? (i := 641) (by decide +kernel)
theorem mM_X3_52 : Cond.methodLinkNest RX3 52 yX9_hasPost "LampNet" ∈ lw_tbl := List.mem_of_getElem? (i := 642) (by decide +kernel)
theorem mM_L_120 : Cond.methodLink RL 120 yX9_first ∈ lw_tbl := List.mem_of_getElem? (i := 643) (by decide +kernel)
theorem mV_X9_first : Cond.instanceMethod yX9_first ∈ lw_tbl := List.mem_of_getElem? (i := 644) (by decide +kernel)
theorem mE_X9_first : Cond.selects RX9 yX9_first yX9_first ∈ lw_tbl := List.mem_of_getElem? (i := 645) (by decide +kernel)
theorem mC_X9_first : Cond.code yX9_first cX9_first 3 (some .int) ∈ lw_tbl := List.mem_of_getElem? (i := 646) (by decide +kernel)
theorem mM_X9_195 : Cond.methodLink RX9 195 yX3_winningPost ∈ lw_tbl := List.mem_of_getElem? (i := 647) (by decide +kernel)
theorem mM_L_124 : Cond.methodLink RL 124 yX9_count ∈ lw_tbl := List.mem_of_getElem? (i := 648) (by decide +kernel)
theorem mV_X9_count : Cond.instanceMethod yX9_count ∈ lw_tbl := List.mem_of_getElem? (i := 649) (by decide +kernel)
theorem mE_X9_count : Cond.selects RX9 yX9_count yX9_count ∈ lw_tbl := List.mem_of_getElem? (i := 650) (by decide +kernel)
theorem mC_X9_count : Cond.code yX9_count cX9_count 1 (some .int) ∈ lw_tbl := List.mem_of_getElem? (i := 651) (by decide +kernel)
theorem mL_L_10 : Cond.classLink RL 10 RX10 ∈ lw_tbl := List.mem_of_getElem? (i := 652) (by decide +kernel)
theorem mN_X10 : Cond.instantiable RX10 15 ∈ lw_tbl := List.mem_of_getElem? (i := 653) (by decide +kernel)
theorem mM_L_12 : Cond.methodLink RL 12 yX10_init ∈ lw_tbl := List.mem_of_getElem? (i := 654) (by decide +kernel)
theorem mV_X10_init : Cond.instanceMethod yX10_init ∈ lw_tbl := List.mem_of_getElem? (i := 655) (by decide +kernel)
theorem mC_X10_init : Cond.code yX10_init cX10_init 1 none ∈ lw_tbl := List.mem_of_getElem? (i := 656) (by decide +kernel)
theorem mM_X10_1 : Cond.methodLink RX10 1 Lib.objectInit ∈ lw_tbl := List.mem_of_getElem? (i := 657) (by decide +kernel)
theorem mK_X10_38 : Cond.constant RX10 38 (1048576 : Int32) ∈ lw_tbl := List.mem_of_getElem? (i := 658) (by decide +kernel)
theorem mF_X10_48 : Cond.fieldLink RX10 48 "LampNetModel" "posts" "I" ∈ lw_tbl := List.mem_of_getElem? (i := 659) (by decide +kernel)
theorem mF_X10_7 : Cond.fieldLink RX10 7 "LampNetModel" "weights" "[I" ∈ lw_tbl := List.mem_of_getElem? (i := 660) (by decide +kernel)
theorem mF_X10_13 : Cond.fieldLink RX10 13 "LampNetModel" "bars" "[I" ∈ lw_tbl := List.mem_of_getElem? (i := 661) (by decide +kernel)
theorem mF_X10_16 : Cond.fieldLink RX10 16 "LampNetModel" "prices" "[I" ∈ lw_tbl := List.mem_of_getElem? (i := 662) (by decide +kernel)
theorem mF_X10_19 : Cond.fieldLink RX10 19 "LampNetModel" "behinds" "[I" ∈ lw_tbl := List.mem_of_getElem? (i := 663) (by decide +kernel)
theorem mF_X10_56 : Cond.fieldLink RX10 56 "LampNetModel" "known" "I" ∈ lw_tbl := List.mem_of_getElem? (i := 664) (by decide +kernel)
theorem mF_X10_22 : Cond.fieldLink RX10 22 "LampNetModel" "stands" "[I" ∈ lw_tbl := List.mem_of_getElem? (i := 665) (by decide +kernel)
theorem mF_X10_77 : Cond.fieldLink RX10 77 "LampNetModel" "end" "I" ∈ lw_tbl := List.mem_of_getElem? (i := 666) (by decide +kernel)
theorem mF_X10_25 : Cond.fieldLink RX10 25 "LampNetModel" "ends" "[I" ∈ lw_tbl := List.mem_of_getElem? (i := 667) (by decide +kernel)
theorem mF_X10_28 : Cond.fieldLink RX10 28 "LampNetModel" "isLeast" "[Z" ∈ lw_tbl := List.mem_of_getElem? (i := 668) (by decide +kernel)
theorem mF_X10_32 : Cond.fieldLink RX10 32 "LampNetModel" "best" "[I" ∈ lw_tbl := List.mem_of_getElem? (i := 669) (by decide +kernel)
theorem mF_X10_35 : Cond.fieldLink RX10 35 "LampNetModel" "fewest" "[I" ∈ lw_tbl := List.mem_of_getElem? (i := 670) (by decide +kernel)
theorem mF_X10_39 : Cond.fieldLink RX10 39 "LampNetModel" "saved" "[I" ∈ lw_tbl := List.mem_of_getElem? (i := 671) (by decide +kernel)
theorem mF_X10_42 : Cond.fieldLink RX10 42 "LampNetModel" "hold" "[Z" ∈ lw_tbl := List.mem_of_getElem? (i := 672) (by decide +kernel)
theorem mF_X10_45 : Cond.fieldLink RX10 45 "LampNetModel" "wins" "[Z" ∈ lw_tbl := List.mem_of_getElem? (i := 673) (by decide +kernel)
theorem mM_L_17 : Cond.methodLink RL 17 yX10_post ∈ lw_tbl := List.mem_of_getElem? (i := 705) (by decide +kernel)
theorem mV_X10_post : Cond.instanceMethod yX10_post ∈ lw_tbl := List.mem_of_getElem? (i := 706) (by decide +kernel)
theorem mE_X10_post : Cond.selects RX10 yX10_post yX10_post ∈ lw_tbl := List.mem_of_getElem? (i := 707) (by decide +kernel)
theorem mC_X10_post : Cond.code yX10_post cX10_post 1 (some .int) ∈ lw_tbl := List.mem_of_getElem? (i := 708) (by decide +kernel)
theorem mM_L_22 : Cond.methodLink RL 22 yX10_road ∈ lw_tbl := List.mem_of_getElem? (i := 709) (by decide +kernel)
theorem mV_X10_road : Cond.instanceMethod yX10_road ∈ lw_tbl := List.mem_of_getElem? (i := 710) (by decide +kernel)
theorem mE_X10_road : Cond.selects RX10 yX10_road yX10_road ∈ lw_tbl := List.mem_of_getElem? (i := 711) (by decide +kernel)
theorem mC_X10_road : Cond.code yX10_road cX10_road 5 (some .int) ∈ lw_tbl := List.mem_of_getElem? (i := 712) (by decide +kernel)
theorem mM_X10_59 : Cond.methodLink RX10 59 yX10_isPost ∈ lw_tbl := List.mem_of_getElem? (i := 713) (by decide +kernel)
theorem mV_X10_isPost : Cond.instanceMethod yX10_isPost ∈ lw_tbl := List.mem_of_getElem? (i := 715) (by decide +kernel)
theorem mC_X10_isPost : Cond.code yX10_isPost cX10_isPost 2 (some .boolean) ∈ lw_tbl := List.mem_of_getElem? (i := 716) (by decide +kernel)
theorem mM_X10_52 : Cond.methodLink RX10 52 yX10_in ∈ lw_tbl := List.mem_of_getElem? (i := 717) (by decide +kernel)
theorem mS_X10_in : Cond.static yX10_in ∈ lw_tbl := List.mem_of_getElem? (i := 718) (by decide +kernel)
theorem mC_X10_in : Cond.code yX10_in cX10_in 3 (some .boolean) ∈ lw_tbl := List.mem_of_getElem? (i := 719) (by decide +kernel)
theorem mM_L_27 : Cond.methodLink RL 27 yX10_bar ∈ lw_tbl := List.mem_of_getElem? (i := 720) (by decide +kernel)
theorem mV_X10_bar : Cond.instanceMethod yX10_bar ∈ lw_tbl := List.mem_of_getElem? (i := 721) (by decide +kernel)
theorem mE_X10_bar : Cond.selects RX10 yX10_bar yX10_bar ∈ lw_tbl := List.mem_of_getElem? (i := 722) (by decide +kernel)
theorem mC_X10_bar : Cond.code yX10_bar cX10_bar 4 (some .int) ∈ lw_tbl := List.mem_of_getElem? (i := 723) (by decide +kernel)
theorem mM_L_31 : Cond.methodLink RL 31 yX10_price ∈ lw_tbl := List.mem_of_getElem? (i := 724) (by decide +kernel)
theorem mV_X10_price : Cond.instanceMethod yX10_price ∈ lw_tbl := List.mem_of_getElem? (i := 725) (by decide +kernel)
theorem mE_X10_price : Cond.selects RX10 yX10_price yX10_price ∈ lw_tbl := List.mem_of_getElem? (i := 726) (by decide +kernel)
theorem mC_X10_price : Cond.code yX10_price cX10_price 4 (some .int) ∈ lw_tbl := List.mem_of_getElem? (i := 727) (by decide +kernel)
theorem mM_L_35 : Cond.methodLink RL 35 yX10_of ∈ lw_tbl := List.mem_of_getElem? (i := 728) (by decide +kernel)
theorem mV_X10_of : Cond.instanceMethod yX10_of ∈ lw_tbl := List.mem_of_getElem? (i := 729) (by decide +kernel)
theorem mE_X10_of : Cond.selects RX10 yX10_of yX10_of ∈ lw_tbl := List.mem_of_getElem? (i := 730) (by decide +kernel)
theorem mC_X10_of : Cond.code yX10_of cX10_of 3 (some .int) ∈ lw_tbl := List.mem_of_getElem? (i := 731) (by decide +kernel)
theorem mM_X10_63 : Cond.methodLink RX10 63 yX10_behind ∈ lw_tbl := List.mem_of_getElem? (i := 732) (by decide +kernel)
theorem mV_X10_behind : Cond.instanceMethod yX10_behind ∈ lw_tbl := List.mem_of_getElem? (i := 734) (by decide +kernel)
theorem mC_X10_behind : Cond.code yX10_behind cX10_behind 2 (some .int) ∈ lw_tbl := List.mem_of_getElem? (i := 735) (by decide +kernel)
theorem mM_X10_67 : Cond.methodLink RX10 67 yX10_ahead ∈ lw_tbl := List.mem_of_getElem? (i := 736) (by decide +kernel)
theorem mV_X10_ahead : Cond.instanceMethod yX10_ahead ∈ lw_tbl := List.mem_of_getElem? (i := 738) (by decide +kernel)
theorem mC_X10_ahead : Cond.code yX10_ahead cX10_ahead 4 (some .int) ∈ lw_tbl := List.mem_of_getElem? (i := 739) (by decide +kernel)
theorem mM_L_39 : Cond.methodLink RL 39 yX10_go ∈ lw_tbl := List.mem_of_getElem? (i := 740) (by decide +kernel)
theorem mV_X10_go : Cond.instanceMethod yX10_go ∈ lw_tbl := List.mem_of_getElem? (i := 741) (by decide +kernel)
theorem mE_X10_go : Cond.selects RX10 yX10_go yX10_go ∈ lw_tbl := List.mem_of_getElem? (i := 742) (by decide +kernel)
theorem mC_X10_go : Cond.code yX10_go cX10_go 3 (some .int) ∈ lw_tbl := List.mem_of_getElem? (i := 743) (by decide +kernel)
theorem mM_X10_95 : Cond.methodLink RX10 95 yX10_isRule ∈ lw_tbl := List.mem_of_getElem? (i := 744) (by decide +kernel)
theorem mS_X10_isRule : Cond.static yX10_isRule ∈ lw_tbl := List.mem_of_getElem? (i := 745) (by decide +kernel)
theorem mC_X10_isRule : Cond.code yX10_isRule cX10_isRule 1 (some .boolean) ∈ lw_tbl := List.mem_of_getElem? (i := 746) (by decide +kernel)
theorem mM_X10_98 : Cond.methodLink RX10 98 yX10_isSet ∈ lw_tbl := List.mem_of_getElem? (i := 747) (by decide +kernel)
theorem mV_X10_isSet : Cond.instanceMethod yX10_isSet ∈ lw_tbl := List.mem_of_getElem? (i := 749) (by decide +kernel)
theorem mC_X10_isSet : Cond.code yX10_isSet cX10_isSet 2 (some .boolean) ∈ lw_tbl := List.mem_of_getElem? (i := 750) (by decide +kernel)
theorem mM_X10_91 : Cond.methodLink RX10 91 yX10_runs ∈ lw_tbl := List.mem_of_getElem? (i := 751) (by decide +kernel)
theorem mV_X10_runs : Cond.instanceMethod yX10_runs ∈ lw_tbl := List.mem_of_getElem? (i := 753) (by decide +kernel)
theorem mC_X10_runs : Cond.code yX10_runs cX10_runs 6 (some .int) ∈ lw_tbl := List.mem_of_getElem? (i := 754) (by decide +kernel)
theorem mM_X10_80 : Cond.methodLink RX10 80 yX10_tick ∈ lw_tbl := List.mem_of_getElem? (i := 755) (by decide +kernel)
theorem mV_X10_tick : Cond.instanceMethod yX10_tick ∈ lw_tbl := List.mem_of_getElem? (i := 757) (by decide +kernel)
theorem mC_X10_tick : Cond.code yX10_tick cX10_tick 8 (some .int) ∈ lw_tbl := List.mem_of_getElem? (i := 758) (by decide +kernel)
theorem mM_X10_74 : Cond.methodLink RX10 74 yX10_allBehind ∈ lw_tbl := List.mem_of_getElem? (i := 759) (by decide +kernel)
theorem mV_X10_allBehind : Cond.instanceMethod yX10_allBehind ∈ lw_tbl := List.mem_of_getElem? (i := 761) (by decide +kernel)
theorem mC_X10_allBehind : Cond.code yX10_allBehind cX10_allBehind 4 (some .int) ∈ lw_tbl := List.mem_of_getElem? (i := 762) (by decide +kernel)
theorem mM_X10_70 : Cond.methodLink RX10 70 yX10_has ∈ lw_tbl := List.mem_of_getElem? (i := 763) (by decide +kernel)
theorem mS_X10_has : Cond.static yX10_has ∈ lw_tbl := List.mem_of_getElem? (i := 764) (by decide +kernel)
theorem mC_X10_has : Cond.code yX10_has cX10_has 2 (some .boolean) ∈ lw_tbl := List.mem_of_getElem? (i := 765) (by decide +kernel)
theorem mM_L_43 : Cond.methodLink RL 43 yX10_ticks ∈ lw_tbl := List.mem_of_getElem? (i := 766) (by decide +kernel)
theorem mV_X10_ticks : Cond.instanceMethod yX10_ticks ∈ lw_tbl := List.mem_of_getElem? (i := 767) (by decide +kernel)
theorem mE_X10_ticks : Cond.selects RX10 yX10_ticks yX10_ticks ∈ lw_tbl := List.mem_of_getElem? (i := 768) (by decide +kernel)
theorem mC_X10_ticks : Cond.code yX10_ticks cX10_ticks 4 (some .int) ∈ lw_tbl := List.mem_of_getElem? (i := 769) (by decide +kernel)
theorem mM_L_47 : Cond.methodLink RL 47 yX10_when ∈ lw_tbl := List.mem_of_getElem? (i := 770) (by decide +kernel)
theorem mV_X10_when : Cond.instanceMethod yX10_when ∈ lw_tbl := List.mem_of_getElem? (i := 771) (by decide +kernel)
theorem mE_X10_when : Cond.selects RX10 yX10_when yX10_when ∈ lw_tbl := List.mem_of_getElem? (i := 772) (by decide +kernel)
theorem mC_X10_when : Cond.code yX10_when cX10_when 5 (some .int) ∈ lw_tbl := List.mem_of_getElem? (i := 773) (by decide +kernel)
theorem mM_X10_101 : Cond.methodLink RX10 101 yX10_comes ∈ lw_tbl := List.mem_of_getElem? (i := 774) (by decide +kernel)
theorem mV_X10_comes : Cond.instanceMethod yX10_comes ∈ lw_tbl := List.mem_of_getElem? (i := 776) (by decide +kernel)
theorem mC_X10_comes : Cond.code yX10_comes cX10_comes 3 (some .int) ∈ lw_tbl := List.mem_of_getElem? (i := 777) (by decide +kernel)
theorem mM_L_51 : Cond.methodLink RL 51 yX10_brought ∈ lw_tbl := List.mem_of_getElem? (i := 778) (by decide +kernel)
theorem mV_X10_brought : Cond.instanceMethod yX10_brought ∈ lw_tbl := List.mem_of_getElem? (i := 779) (by decide +kernel)
theorem mE_X10_brought : Cond.selects RX10 yX10_brought yX10_brought ∈ lw_tbl := List.mem_of_getElem? (i := 780) (by decide +kernel)
theorem mC_X10_brought : Cond.code yX10_brought cX10_brought 8 (some .int) ∈ lw_tbl := List.mem_of_getElem? (i := 781) (by decide +kernel)
theorem mM_L_55 : Cond.methodLink RL 55 yX10_fort ∈ lw_tbl := List.mem_of_getElem? (i := 782) (by decide +kernel)
theorem mV_X10_fort : Cond.instanceMethod yX10_fort ∈ lw_tbl := List.mem_of_getElem? (i := 783) (by decide +kernel)
theorem mE_X10_fort : Cond.selects RX10 yX10_fort yX10_fort ∈ lw_tbl := List.mem_of_getElem? (i := 784) (by decide +kernel)
theorem mC_X10_fort : Cond.code yX10_fort cX10_fort 3 (some .int) ∈ lw_tbl := List.mem_of_getElem? (i := 785) (by decide +kernel)
theorem mM_X10_104 : Cond.methodLink RX10 104 yX10_isFort ∈ lw_tbl := List.mem_of_getElem? (i := 786) (by decide +kernel)
theorem mV_X10_isFort : Cond.instanceMethod yX10_isFort ∈ lw_tbl := List.mem_of_getElem? (i := 788) (by decide +kernel)
theorem mC_X10_isFort : Cond.code yX10_isFort cX10_isFort 4 (some .boolean) ∈ lw_tbl := List.mem_of_getElem? (i := 789) (by decide +kernel)
theorem mM_X10_87 : Cond.methodLink RX10 87 yX10_all ∈ lw_tbl := List.mem_of_getElem? (i := 790) (by decide +kernel)
theorem mV_X10_all : Cond.instanceMethod yX10_all ∈ lw_tbl := List.mem_of_getElem? (i := 792) (by decide +kernel)
theorem mC_X10_all : Cond.code yX10_all cX10_all 1 (some .int) ∈ lw_tbl := List.mem_of_getElem? (i := 793) (by decide +kernel)
theorem mM_L_59 : Cond.methodLink RL 59 yX10_forts ∈ lw_tbl := List.mem_of_getElem? (i := 794) (by decide +kernel)
theorem mV_X10_forts : Cond.instanceMethod yX10_forts ∈ lw_tbl := List.mem_of_getElem? (i := 795) (by decide +kernel)
theorem mE_X10_forts : Cond.selects RX10 yX10_forts yX10_forts ∈ lw_tbl := List.mem_of_getElem? (i := 796) (by decide +kernel)
theorem mC_X10_forts : Cond.code yX10_forts cX10_forts 6 (some .int) ∈ lw_tbl := List.mem_of_getElem? (i := 797) (by decide +kernel)
theorem mM_X10_107 : Cond.methodLink RX10 107 yX10_findForts ∈ lw_tbl := List.mem_of_getElem? (i := 798) (by decide +kernel)
theorem mV_X10_findForts : Cond.instanceMethod yX10_findForts ∈ lw_tbl := List.mem_of_getElem? (i := 800) (by decide +kernel)
theorem mC_X10_findForts : Cond.code yX10_findForts cX10_findForts 6 none ∈ lw_tbl := List.mem_of_getElem? (i := 801) (by decide +kernel)
theorem mM_X10_84 : Cond.methodLink RX10 84 yX10_isKnown ∈ lw_tbl := List.mem_of_getElem? (i := 802) (by decide +kernel)
theorem mV_X10_isKnown : Cond.instanceMethod yX10_isKnown ∈ lw_tbl := List.mem_of_getElem? (i := 804) (by decide +kernel)
theorem mC_X10_isKnown : Cond.code yX10_isKnown cX10_isKnown 3 (some .boolean) ∈ lw_tbl := List.mem_of_getElem? (i := 805) (by decide +kernel)
theorem mM_X10_111 : Cond.methodLink RX10 111 yX10_ones ∈ lw_tbl := List.mem_of_getElem? (i := 806) (by decide +kernel)
theorem mS_X10_ones : Cond.static yX10_ones ∈ lw_tbl := List.mem_of_getElem? (i := 807) (by decide +kernel)
theorem mC_X10_ones : Cond.code yX10_ones cX10_ones 3 (some .int) ∈ lw_tbl := List.mem_of_getElem? (i := 808) (by decide +kernel)
theorem mM_L_64 : Cond.methodLink RL 64 yX10_apart ∈ lw_tbl := List.mem_of_getElem? (i := 809) (by decide +kernel)
theorem mV_X10_apart : Cond.instanceMethod yX10_apart ∈ lw_tbl := List.mem_of_getElem? (i := 810) (by decide +kernel)
theorem mE_X10_apart : Cond.selects RX10 yX10_apart yX10_apart ∈ lw_tbl := List.mem_of_getElem? (i := 811) (by decide +kernel)
theorem mC_X10_apart : Cond.code yX10_apart cX10_apart 6 (some .int) ∈ lw_tbl := List.mem_of_getElem? (i := 812) (by decide +kernel)
theorem mM_L_68 : Cond.methodLink RL 68 yX10_least ∈ lw_tbl := List.mem_of_getElem? (i := 813) (by decide +kernel)
theorem mV_X10_least : Cond.instanceMethod yX10_least ∈ lw_tbl := List.mem_of_getElem? (i := 814) (by decide +kernel)
theorem mE_X10_least : Cond.selects RX10 yX10_least yX10_least ∈ lw_tbl := List.mem_of_getElem? (i := 815) (by decide +kernel)
theorem mC_X10_least : Cond.code yX10_least cX10_least 4 (some .int) ∈ lw_tbl := List.mem_of_getElem? (i := 816) (by decide +kernel)
theorem mM_X10_117 : Cond.methodLink RX10 117 yX10_setsGoing ∈ lw_tbl := List.mem_of_getElem? (i := 817) (by decide +kernel)
theorem mV_X10_setsGoing : Cond.instanceMethod yX10_setsGoing ∈ lw_tbl := List.mem_of_getElem? (i := 819) (by decide +kernel)
theorem mC_X10_setsGoing : Cond.code yX10_setsGoing cX10_setsGoing 3 (some .boolean) ∈ lw_tbl := List.mem_of_getElem? (i := 820) (by decide +kernel)
theorem mM_X10_114 : Cond.methodLink RX10 114 yX10_endOf ∈ lw_tbl := List.mem_of_getElem? (i := 821) (by decide +kernel)
theorem mV_X10_endOf : Cond.instanceMethod yX10_endOf ∈ lw_tbl := List.mem_of_getElem? (i := 823) (by decide +kernel)
theorem mC_X10_endOf : Cond.code yX10_endOf cX10_endOf 4 (some .int) ∈ lw_tbl := List.mem_of_getElem? (i := 824) (by decide +kernel)
theorem mM_L_72 : Cond.methodLink RL 72 yX10_many ∈ lw_tbl := List.mem_of_getElem? (i := 825) (by decide +kernel)
theorem mV_X10_many : Cond.instanceMethod yX10_many ∈ lw_tbl := List.mem_of_getElem? (i := 826) (by decide +kernel)
theorem mE_X10_many : Cond.selects RX10 yX10_many yX10_many ∈ lw_tbl := List.mem_of_getElem? (i := 827) (by decide +kernel)
theorem mC_X10_many : Cond.code yX10_many cX10_many 5 (some .int) ∈ lw_tbl := List.mem_of_getElem? (i := 828) (by decide +kernel)
theorem mM_X10_120 : Cond.methodLink RX10 120 yX10_least ∈ lw_tbl := List.mem_of_getElem? (i := 829) (by decide +kernel)
theorem mM_L_76 : Cond.methodLink RL 76 yX10_cheapest ∈ lw_tbl := List.mem_of_getElem? (i := 830) (by decide +kernel)
theorem mV_X10_cheapest : Cond.instanceMethod yX10_cheapest ∈ lw_tbl := List.mem_of_getElem? (i := 831) (by decide +kernel)
theorem mE_X10_cheapest : Cond.selects RX10 yX10_cheapest yX10_cheapest ∈ lw_tbl := List.mem_of_getElem? (i := 832) (by decide +kernel)
theorem mC_X10_cheapest : Cond.code yX10_cheapest cX10_cheapest 7 (some .int) ∈ lw_tbl := List.mem_of_getElem? (i := 833) (by decide +kernel)
theorem mK_X10_123 : Cond.constant RX10 123 (1000000 : Int32) ∈ lw_tbl := List.mem_of_getElem? (i := 834) (by decide +kernel)
theorem mM_L_80 : Cond.methodLink RL 80 yX10_pared ∈ lw_tbl := List.mem_of_getElem? (i := 835) (by decide +kernel)
theorem mV_X10_pared : Cond.instanceMethod yX10_pared ∈ lw_tbl := List.mem_of_getElem? (i := 836) (by decide +kernel)
theorem mE_X10_pared : Cond.selects RX10 yX10_pared yX10_pared ∈ lw_tbl := List.mem_of_getElem? (i := 837) (by decide +kernel)
theorem mC_X10_pared : Cond.code yX10_pared cX10_pared 4 (some .int) ∈ lw_tbl := List.mem_of_getElem? (i := 838) (by decide +kernel)
theorem mM_L_84 : Cond.methodLink RL 84 yX10_burn ∈ lw_tbl := List.mem_of_getElem? (i := 839) (by decide +kernel)
theorem mV_X10_burn : Cond.instanceMethod yX10_burn ∈ lw_tbl := List.mem_of_getElem? (i := 840) (by decide +kernel)
theorem mE_X10_burn : Cond.selects RX10 yX10_burn yX10_burn ∈ lw_tbl := List.mem_of_getElem? (i := 841) (by decide +kernel)
theorem mC_X10_burn : Cond.code yX10_burn cX10_burn 1 (some .int) ∈ lw_tbl := List.mem_of_getElem? (i := 842) (by decide +kernel)
theorem mM_X10_124 : Cond.methodLink RX10 124 yX10_burns ∈ lw_tbl := List.mem_of_getElem? (i := 843) (by decide +kernel)
theorem mV_X10_burns : Cond.instanceMethod yX10_burns ∈ lw_tbl := List.mem_of_getElem? (i := 845) (by decide +kernel)
theorem mC_X10_burns : Cond.code yX10_burns cX10_burns 4 none ∈ lw_tbl := List.mem_of_getElem? (i := 846) (by decide +kernel)
theorem mM_L_88 : Cond.methodLink RL 88 yX10_hand ∈ lw_tbl := List.mem_of_getElem? (i := 847) (by decide +kernel)
theorem mV_X10_hand : Cond.instanceMethod yX10_hand ∈ lw_tbl := List.mem_of_getElem? (i := 848) (by decide +kernel)
theorem mE_X10_hand : Cond.selects RX10 yX10_hand yX10_hand ∈ lw_tbl := List.mem_of_getElem? (i := 849) (by decide +kernel)
theorem mC_X10_hand : Cond.code yX10_hand cX10_hand 6 (some .int) ∈ lw_tbl := List.mem_of_getElem? (i := 850) (by decide +kernel)
theorem mM_L_95 : Cond.methodLink RL 95 yX10_burnt ∈ lw_tbl := List.mem_of_getElem? (i := 851) (by decide +kernel)
theorem mV_X10_burnt : Cond.instanceMethod yX10_burnt ∈ lw_tbl := List.mem_of_getElem? (i := 852) (by decide +kernel)
theorem mE_X10_burnt : Cond.selects RX10 yX10_burnt yX10_burnt ∈ lw_tbl := List.mem_of_getElem? (i := 853) (by decide +kernel)
theorem mC_X10_burnt : Cond.code yX10_burnt cX10_burnt 9 (some .int) ∈ lw_tbl := List.mem_of_getElem? (i := 854) (by decide +kernel)
theorem mK_X10_127 : Cond.constantLong RX10 127 (13 : Int64) ∈ lw_tbl := List.mem_of_getElem? (i := 855) (by decide +kernel)
theorem mM_L_99 : Cond.methodLink RL 99 yX10_save ∈ lw_tbl := List.mem_of_getElem? (i := 856) (by decide +kernel)
theorem mV_X10_save : Cond.instanceMethod yX10_save ∈ lw_tbl := List.mem_of_getElem? (i := 857) (by decide +kernel)
theorem mE_X10_save : Cond.selects RX10 yX10_save yX10_save ∈ lw_tbl := List.mem_of_getElem? (i := 858) (by decide +kernel)
theorem mC_X10_save : Cond.code yX10_save cX10_save 2 (some .int) ∈ lw_tbl := List.mem_of_getElem? (i := 859) (by decide +kernel)
theorem mM_X10_135 : Cond.methodLink RX10 135 yX10_saves ∈ lw_tbl := List.mem_of_getElem? (i := 860) (by decide +kernel)
theorem mV_X10_saves : Cond.instanceMethod yX10_saves ∈ lw_tbl := List.mem_of_getElem? (i := 862) (by decide +kernel)
theorem mC_X10_saves : Cond.code yX10_saves cX10_saves 6 none ∈ lw_tbl := List.mem_of_getElem? (i := 863) (by decide +kernel)
theorem mM_X10_132 : Cond.methodLink RX10 132 yX10_behindWall ∈ lw_tbl := List.mem_of_getElem? (i := 864) (by decide +kernel)
theorem mV_X10_behindWall : Cond.instanceMethod yX10_behindWall ∈ lw_tbl := List.mem_of_getElem? (i := 866) (by decide +kernel)
theorem mC_X10_behindWall : Cond.code yX10_behindWall cX10_behindWall 4 (some .int) ∈ lw_tbl := List.mem_of_getElem? (i := 867) (by decide +kernel)
theorem mM_X10_129 : Cond.methodLink RX10 129 yX10_next ∈ lw_tbl := List.mem_of_getElem? (i := 868) (by decide +kernel)
theorem mV_X10_next : Cond.instanceMethod yX10_next ∈ lw_tbl := List.mem_of_getElem? (i := 870) (by decide +kernel)
theorem mC_X10_next : Cond.code yX10_next cX10_next 3 (some .int) ∈ lw_tbl := List.mem_of_getElem? (i := 871) (by decide +kernel)
theorem mM_L_103 : Cond.methodLink RL 103 yX10_wall ∈ lw_tbl := List.mem_of_getElem? (i := 872) (by decide +kernel)
theorem mV_X10_wall : Cond.instanceMethod yX10_wall ∈ lw_tbl := List.mem_of_getElem? (i := 873) (by decide +kernel)
theorem mE_X10_wall : Cond.selects RX10 yX10_wall yX10_wall ∈ lw_tbl := List.mem_of_getElem? (i := 874) (by decide +kernel)
theorem mC_X10_wall : Cond.code yX10_wall cX10_wall 8 (some .int) ∈ lw_tbl := List.mem_of_getElem? (i := 875) (by decide +kernel)
theorem mM_L_107 : Cond.methodLink RL 107 yX10_holds ∈ lw_tbl := List.mem_of_getElem? (i := 876) (by decide +kernel)
theorem mV_X10_holds : Cond.instanceMethod yX10_holds ∈ lw_tbl := List.mem_of_getElem? (i := 877) (by decide +kernel)
theorem mE_X10_holds : Cond.selects RX10 yX10_holds yX10_holds ∈ lw_tbl := List.mem_of_getElem? (i := 878) (by decide +kernel)
theorem mC_X10_holds : Cond.code yX10_holds cX10_holds 2 (some .int) ∈ lw_tbl := List.mem_of_getElem? (i := 879) (by decide +kernel)
theorem mM_X10_141 : Cond.methodLink RX10 141 yX10_guard ∈ lw_tbl := List.mem_of_getElem? (i := 880) (by decide +kernel)
theorem mV_X10_guard : Cond.instanceMethod yX10_guard ∈ lw_tbl := List.mem_of_getElem? (i := 882) (by decide +kernel)
theorem mC_X10_guard : Cond.code yX10_guard cX10_guard 4 none ∈ lw_tbl := List.mem_of_getElem? (i := 883) (by decide +kernel)
theorem mM_X10_138 : Cond.methodLink RX10 138 yX10_answers ∈ lw_tbl := List.mem_of_getElem? (i := 884) (by decide +kernel)
theorem mV_X10_answers : Cond.instanceMethod yX10_answers ∈ lw_tbl := List.mem_of_getElem? (i := 886) (by decide +kernel)
theorem mC_X10_answers : Cond.code yX10_answers cX10_answers 4 (some .int) ∈ lw_tbl := List.mem_of_getElem? (i := 887) (by decide +kernel)
theorem mM_L_111 : Cond.methodLink RL 111 yX10_guards ∈ lw_tbl := List.mem_of_getElem? (i := 888) (by decide +kernel)
theorem mV_X10_guards : Cond.instanceMethod yX10_guards ∈ lw_tbl := List.mem_of_getElem? (i := 889) (by decide +kernel)
theorem mE_X10_guards : Cond.selects RX10 yX10_guards yX10_guards ∈ lw_tbl := List.mem_of_getElem? (i := 890) (by decide +kernel)
theorem mC_X10_guards : Cond.code yX10_guards cX10_guards 3 (some .int) ∈ lw_tbl := List.mem_of_getElem? (i := 891) (by decide +kernel)
theorem mM_L_115 : Cond.methodLink RL 115 yX10_answer ∈ lw_tbl := List.mem_of_getElem? (i := 892) (by decide +kernel)
theorem mV_X10_answer : Cond.instanceMethod yX10_answer ∈ lw_tbl := List.mem_of_getElem? (i := 893) (by decide +kernel)
theorem mE_X10_answer : Cond.selects RX10 yX10_answer yX10_answer ∈ lw_tbl := List.mem_of_getElem? (i := 894) (by decide +kernel)
theorem mC_X10_answer : Cond.code yX10_answer cX10_answer 3 (some .int) ∈ lw_tbl := List.mem_of_getElem? (i := 895) (by decide +kernel)
theorem mM_L_119 : Cond.methodLink RL 119 yX10_win ∈ lw_tbl := List.mem_of_getElem? (i := 896) (by decide +kernel)
theorem mV_X10_win : Cond.instanceMethod yX10_win ∈ lw_tbl := List.mem_of_getElem? (i := 897) (by decide +kernel)
theorem mE_X10_win : Cond.selects RX10 yX10_win yX10_win ∈ lw_tbl := List.mem_of_getElem? (i := 898) (by decide +kernel)
theorem mC_X10_win : Cond.code yX10_win cX10_win 3 (some .int) ∈ lw_tbl := List.mem_of_getElem? (i := 899) (by decide +kernel)
theorem mM_X10_147 : Cond.methodLink RX10 147 yX10_play ∈ lw_tbl := List.mem_of_getElem? (i := 900) (by decide +kernel)
theorem mV_X10_play : Cond.instanceMethod yX10_play ∈ lw_tbl := List.mem_of_getElem? (i := 902) (by decide +kernel)
theorem mC_X10_play : Cond.code yX10_play cX10_play 3 none ∈ lw_tbl := List.mem_of_getElem? (i := 903) (by decide +kernel)
theorem mM_X10_144 : Cond.methodLink RX10 144 yX10_winsBy ∈ lw_tbl := List.mem_of_getElem? (i := 904) (by decide +kernel)
theorem mV_X10_winsBy : Cond.instanceMethod yX10_winsBy ∈ lw_tbl := List.mem_of_getElem? (i := 906) (by decide +kernel)
theorem mC_X10_winsBy : Cond.code yX10_winsBy cX10_winsBy 4 (some .int) ∈ lw_tbl := List.mem_of_getElem? (i := 907) (by decide +kernel)
theorem mM_L_123 : Cond.methodLink RL 123 yX10_first ∈ lw_tbl := List.mem_of_getElem? (i := 908) (by decide +kernel)
theorem mV_X10_first : Cond.instanceMethod yX10_first ∈ lw_tbl := List.mem_of_getElem? (i := 909) (by decide +kernel)
theorem mE_X10_first : Cond.selects RX10 yX10_first yX10_first ∈ lw_tbl := List.mem_of_getElem? (i := 910) (by decide +kernel)
theorem mC_X10_first : Cond.code yX10_first cX10_first 3 (some .int) ∈ lw_tbl := List.mem_of_getElem? (i := 911) (by decide +kernel)
theorem mM_L_127 : Cond.methodLink RL 127 yX10_count ∈ lw_tbl := List.mem_of_getElem? (i := 912) (by decide +kernel)
theorem mV_X10_count : Cond.instanceMethod yX10_count ∈ lw_tbl := List.mem_of_getElem? (i := 913) (by decide +kernel)
theorem mE_X10_count : Cond.selects RX10 yX10_count yX10_count ∈ lw_tbl := List.mem_of_getElem? (i := 914) (by decide +kernel)
theorem mC_X10_count : Cond.code yX10_count cX10_count 1 (some .int) ∈ lw_tbl := List.mem_of_getElem? (i := 915) (by decide +kernel)
theorem mK_L_89 : Cond.constantLong RL 89 (4294967295 : Int64) ∈ lw_tbl := List.mem_of_getElem? (i := 916) (by decide +kernel)
theorem kl_X0 : ∀ w ∈ u_ws RX0 TX0 3, w ∈ lw_tbl := by decide +kernel
theorem kl_X1 : ∀ w ∈ u_ws RX1 TX1 4, w ∈ lw_tbl := by decide +kernel
theorem kl_X2 : ∀ w ∈ u_ws RX2 TX2 1, w ∈ lw_tbl := by decide +kernel
theorem kl_X3 : ∀ w ∈ u_ws RX3 TX3 4, w ∈ lw_tbl := by decide +kernel
theorem kl_X4 : ∀ w ∈ u_ws RX4 TX4 8, w ∈ lw_tbl := by decide +kernel
theorem kl_X5 : ∀ w ∈ u_ws RX5 TX5 1, w ∈ lw_tbl := by decide +kernel
theorem kl_X6 : ∀ w ∈ u_ws RX6 TX6 3, w ∈ lw_tbl := by decide +kernel
theorem kl_X7 : ∀ w ∈ u_ws RX7 TX7 5, w ∈ lw_tbl := by decide +kernel
theorem kl_X8 : ∀ w ∈ u_ws RX8 TX8 3, w ∈ lw_tbl := by decide +kernel
theorem kl_X9 : ∀ w ∈ u_ws RX9 TX9 9, w ∈ lw_tbl := by decide +kernel
theorem kl_X10 : ∀ w ∈ u_ws RX10 TX10 15, w ∈ lw_tbl := by decide +kernel
end
section
/-! my own small kit: one state of words for all methods, worlds that hang on a state of numbers, readers and writers -/
abbrev ln_S : Type := Nat → Nat → Int32
def ln_up (σ : ln_S) (k : Nat) (f : Nat → Int32) : ln_S := fun j => if j = k then f else σ j
theorem ln_up_s (σ : ln_S) (k : Nat) (f : Nat → Int32) : ln_up σ k f k = f := if_pos rfl
theorem ln_up_n (σ : ln_S) {k j : Nat} (f : Nat → Int32) (h : j ≠ k) : ln_up σ k f j = σ j := if_neg h
abbrev ln_cl : List vw_C := [(RX0, TX0, 3), (RX1, TX1, 4), (RX2, TX2, 1), (RX3, TX3, 4), (RX4, TX4, 8), (RX5, TX5, 1), (RX6, TX6, 3), (RX7, TX7, 5), (RX8, TX8, 3), (RX9, TX9, 9), (RX10, TX10, 15)]
def ln_ty (g : Nat → ClassId) : List (ClassId × FieldType) := [(g 0, .int), (g 1, .boolean), (g 2, .byte), (g 3, .array .int), (g 4, .array .byte)]
def ln_ok (w : Cond) : Bool := goodWord w || ln_nest w
def ln_G (U : State) : Prop := ∀ (a : Array Value) (w : Cond), w ∈ lw_tbl → ln_ok w = true → w.before a U = true
theorem ln_G.warm {s U : State} (hW : s.WarmedH U.vm) (h : ln_G s) : ln_G U := by
  intro a w hw hk
  have h1 := h #[] w hw hk
  by_cases hg : goodWord w = true
  · exact word_at hW (good_of_word hg) h1
  · have hn : ln_nest w = true := by
      unfold ln_ok at hk
      rcases Bool.or_eq_true _ _ ▸ hk with q | q
      · exact absurd q hg
      · exact q
    cases w with
    | fieldLinkNest x1 x2 x3 x4 x5 x6 => exact va_Nw.use rfl (va_Nw.warmF hW (va_Nw.of rfl h1))
    | methodLinkNest x1 x2 x3 x4 => exact va_Nw.use rfl (va_Nw.warmM hW (va_Nw.of rfl h1))
    | _ => exact absurd hn (by simp [ln_nest])
def ln_rm (d : Nat) : Room := { frames := d, cells := 0, slots := 0, locals := 60 * d }
/-- what a method's body has at hand, all along -/
def ln_X (p : Program) (R : Room) (s : State) (m : MethodId) (c : Code) (cc : ByteArray) (nL : Nat) (own : String) (D : va_G) (g : Nat → ClassId) (d : Nat) : Prop :=
  p.tables.exec = Jvm.exec ∧ c.code = cc ∧ c.maxLocals = nL ∧ s.vm.findClass own = some m.cls ∧ va_K D ln_cl (ln_ty g) s ∧ ln_G s ∧ d ≤ R.frames ∧ 60 * d ≤ R.locals
/-- a reader: the heap stays -/
def ln_R (l : Launch) (D : va_G) (g : Nat → ClassId) (ws : va_W) (y : MethodName) (cd : Cond) (d : Nat) (av : List Value) (post : Int32 → Prop) : Prop :=
  Met l y [cd] (ln_rm d) (va_Pc av (fun U => va_P D ln_cl ws U.heap ∧ va_K D ln_cl (ln_ty g) U ∧ ln_G U)) (vp_Si post) 0 0 (fun _ => False)
/-- a writer over a world that hangs on a state: an int comes back -/
def ln_U (l : Launch) (D : va_G) (g : Nat → ClassId) (Wd : ln_S → va_W) (y : MethodName) (cd : Cond) (d : Nat) (av : List Value) (σ : ln_S) (post : Int32 → ln_S → Prop) : Prop :=
  ∀ sz : Nat, Met l y [cd] (ln_rm d) (va_Pc av (fun U => U.heap.size = sz ∧ va_P D ln_cl (Wd σ) U.heap ∧ va_D (fun _ => True) (Wd σ) ∧ va_K D ln_cl (ln_ty g) U ∧ ln_G U)) (va_Qi post (fun τ t => va_P D ln_cl (Wd τ) t.heap) (va_A (Wd σ) sz)) 0 0 (va_A (Wd σ) sz)
/-- the same, nothing comes back -/
def ln_V (l : Launch) (D : va_G) (g : Nat → ClassId) (Wd : ln_S → va_W) (y : MethodName) (cd : Cond) (d : Nat) (av : List Value) (σ : ln_S) (post : ln_S → Prop) : Prop :=
  ∀ sz : Nat, Met l y [cd] (ln_rm d) (va_Pc av (fun U => U.heap.size = sz ∧ va_P D ln_cl (Wd σ) U.heap ∧ va_D (fun _ => True) (Wd σ) ∧ va_K D ln_cl (ln_ty g) U ∧ ln_G U)) (va_Qv post (fun τ t => va_P D ln_cl (Wd τ) t.heap) (va_A (Wd σ) sz)) 0 0 (va_A (Wd σ) sz)
/-- the same, the address ad comes back -/
def ln_F (l : Launch) (D : va_G) (g : Nat → ClassId) (Wd : ln_S → va_W) (y : MethodName) (cd : Cond) (d : Nat) (av : List Value) (σ : ln_S) (ad : Nat) (post : ln_S → Prop) : Prop :=
  ∀ sz : Nat, Met l y [cd] (ln_rm d) (va_Pc av (fun U => U.heap.size = sz ∧ va_P D ln_cl (Wd σ) U.heap ∧ va_D (fun _ => True) (Wd σ) ∧ va_K D ln_cl (ln_ty g) U ∧ ln_G U)) (va_Qr post (fun τ a t => a = ad ∧ va_P D ln_cl (Wd τ) t.heap) (va_A (Wd σ) sz)) 0 0 (va_A (Wd σ) sz)
/-- worlds whose addresses don't hang on the state -/
def ln_ad (Wd : ln_S → va_W) : Prop := ∀ (σ τ : ln_S) (k : Nat) (q : Nat × va_E), (Wd σ)[k]? = some q → ∃ e, (Wd τ)[k]? = some (q.1, e)
theorem ln_ad.D {Wd : ln_S → va_W} (h : ln_ad Wd) {A : Nat → Prop} {σ τ : ln_S} (hD : va_D A (Wd σ)) : va_D A (Wd τ) := by
  refine ⟨fun i j x y hi hj hxy => ?_, fun k q hk => ?_⟩
  · obtain ⟨e1, h1⟩ := h τ σ i x hi
    obtain ⟨e2, h2⟩ := h τ σ j y hj
    exact hD.1 i j _ _ h1 h2 hxy
  · obtain ⟨e1, h1⟩ := h τ σ k q hk
    exact hD.2 k (q.1, e1) h1
theorem ln_ad.A {Wd : ln_S → va_W} (h : ln_ad Wd) {σ : ln_S} (τ : ln_S) {sz q : Nat} (hq : va_A (Wd σ) sz q) : va_A (Wd τ) sz q := by
  rcases hq with ⟨k, e, hk⟩ | hz
  · obtain ⟨e1, h1⟩ := h σ τ k _ hk
    exact Or.inl ⟨k, e1, h1⟩
  · exact Or.inr hz
theorem ln_blind {D : va_G} {g : Nat → ClassId} {ws : va_W} {av : List Value} : FrameBlind (va_Pc av (fun U => va_P D ln_cl ws U.heap ∧ va_K D ln_cl (ln_ty g) U ∧ ln_G U)) := by
  intro a U gf mk q
  obtain ⟨q0, qP, qK, qG⟩ := q
  exact ⟨q0, qP, va_K.moved (u := U) (U := U.calling gf mk a) (Vm.Alike.refl U.vm) qK, ln_G.warm (s := U) (U := U.calling gf mk a) (State.WarmedH.refl U) qG⟩
theorem ln_blindU {D : va_G} {g : Nat → ClassId} {ws : va_W} {av : List Value} {sz : Nat} : FrameBlind (va_Pc av (fun U => U.heap.size = sz ∧ va_P D ln_cl ws U.heap ∧ va_D (fun _ => True) ws ∧ va_K D ln_cl (ln_ty g) U ∧ ln_G U)) := by
  intro a U gf mk q
  obtain ⟨q0, q1, qP, qD, qK, qG⟩ := q
  exact ⟨q0, q1, qP, qD, va_K.moved (u := U) (U := U.calling gf mk a) (Vm.Alike.refl U.vm) qK, ln_G.warm (s := U) (U := U.calling gf mk a) (State.WarmedH.refl U) qG⟩
def ln_yn (y : MethodName) (n : Nat) : Prop := y.cls ≠ "java/lang/invoke/MethodHandle" ∧ y.cls ≠ "java/lang/invoke/VarHandle" ∧ (parseMethodDescriptor y.desc).map (fun d => d.parameters.length) = some n
section LNA
variable {p : Program} {l : Launch} {e : Env} {R : Room} {s : State} {m : MethodId} {args : Array Value} {below : List Frame} {meth : Method} {c : Code} {H : Heap} {locs : List Loc} {cells slots : Nat} {Q : State → Prop}
variable {cc : ByteArray} {nL : Nat} {own : String} {D : va_G} {g : Nat → ClassId} {d : Nat} {pc : Nat} {ls : Array Slot} {rest : List Value}
theorem ln_X.ts (X : ln_X p R s m c cc nL own D g d) (a : Array Value) {w : Cond} (hw : w ∈ lw_tbl) (hk : ln_ok w = true) : w.before a s = true := X.2.2.2.2.2.1 a w hw hk
theorem ln_lays (X : ln_X p R s m c cc nL own D g d) {C : String} {T : u_T} {N : Nat} (hin : ∀ w ∈ u_ws C T N, w ∈ lw_tbl) (w : Cond) (hw : w ∈ u_ws C T N) : w.before args s = true := by
  refine X.ts args (hin w hw) ?_
  obtain ⟨k, -, rfl⟩ := List.mem_map.mp hw
  unfold u_lay
  split <;> rfl
theorem ln_get (X : ln_X p R s m c cc nL own D g d) {ws : va_W} (hP : va_P D ln_cl ws H) (q0 : Nat) {a ci : Nat} {fs : List Value} (he : ws[q0]? = some (a, .inr (ci, fs))) {C : String} {T : u_T} {N : Nat} (hc : ln_cl[ci]? = some (C, T, N)) (hin : ∀ w ∈ u_ws C T N, w ∈ lw_tbl) (k : Nat) (hk : k < N) {index : Nat} (hlink : Cond.fieldLink own index (T k).1 (T k).2.1 (T k).2.2.1 ∈ lw_tbl) {v : Value} (hv : fs[k]? = some v) (hdg : decode cc pc = .ok (.getfield index, 3))
    (kk : W p l e R s m args below meth c H locs cells slots Q (F0 m (pc + 3) ls (v :: rest))) : W p l e R s m args below meth c H locs cells slots Q (F0 m pc ls (.ref a :: rest)) :=
  va_get X.1 X.2.1 (Ts := u_ws C T N) (ln_lays X hin) (fun _ h => h) X.2.2.2.1 X.2.2.2.2.1 hP q0 he hc k hk (X.ts args hlink rfl) (fun _ h => h) hv hdg kk
theorem ln_getN (X : ln_X p R s m c cc nL own D g d) {ws : va_W} (hP : va_P D ln_cl ws H) (q0 : Nat) {a ci : Nat} {fs : List Value} (he : ws[q0]? = some (a, .inr (ci, fs))) {C : String} {T : u_T} {N : Nat} (hc : ln_cl[ci]? = some (C, T, N)) (hin : ∀ w ∈ u_ws C T N, w ∈ lw_tbl) (k : Nat) (hk : k < N) {index : Nat} {host : String} (hlink : Cond.fieldLinkNest own index (T k).1 (T k).2.1 (T k).2.2.1 host ∈ lw_tbl) {v : Value} (hv : fs[k]? = some v) (hdg : decode cc pc = .ok (.getfield index, 3))
    (kk : W p l e R s m args below meth c H locs cells slots Q (F0 m (pc + 3) ls (v :: rest))) : W p l e R s m args below meth c H locs cells slots Q (F0 m pc ls (.ref a :: rest)) :=
  va_getN X.1 X.2.1 (Ts := u_ws C T N) (ln_lays X hin) (fun _ h => h) X.2.2.2.1 X.2.2.2.2.1 hP q0 he hc k hk (X.ts args hlink rfl) (fun _ h => h) hv hdg kk
theorem ln_put (X : ln_X p R s m c cc nL own D g d) {Wd : ln_S → va_W} {σ τ : ln_S} {A : Nat → Prop} {H0 : Heap} (hP : va_P D ln_cl (Wd σ) H) (hD : va_D A (Wd σ)) (hS : va_S A H0 H locs) (q0 : Nat) {a ci : Nat} {fs : List Value} (he : (Wd σ)[q0]? = some (a, .inr (ci, fs))) {C : String} {T : u_T} {N : Nat} (hc : ln_cl[ci]? = some (C, T, N)) (hin : ∀ w ∈ u_ws C T N, w ∈ lw_tbl) (ty0 : Nat → FieldType) (hty : ∀ k, k < N → parseFieldDescriptor (T k).2.2.1 = some (ty0 k)) (hnm : ∀ a, a < N → ∀ b, b < N → a ≠ b → (T a).2.1 ≠ (T b).2.1) (k : Nat) (hk : k < N) {index : Nat} (hlink : Cond.fieldLink own index (T k).1 (T k).2.1 (T k).2.2.1 ∈ lw_tbl) (hfin : (T k).2.2.2 = false) {x : Int32} (hd : parseFieldDescriptor (T k).2.2.1 = some .int) (hl : k < fs.length) (hset : (Wd σ).set q0 (a, .inr (ci, fs.set k (.int x))) = Wd τ) (hdg : decode cc pc = .ok (.putfield index, 3))
    (kk : ∀ (H1 : Heap) (locs1 : List Loc), va_P D ln_cl (Wd τ) H1 → va_D A (Wd τ) → va_S A H0 H1 locs1 → W p l e R s m args below meth c H1 locs1 cells slots Q (F0 m (pc + 3) ls rest)) : W p l e R s m args below meth c H locs cells slots Q (F0 m pc ls (.int x :: .ref a :: rest)) :=
  va_put X.1 X.2.1 (Ts := u_ws C T N) (ln_lays X hin) (fun _ h => h) ty0 hty hnm X.2.2.2.1 X.2.2.2.2.1 hP hD hS q0 he hc k hk (X.ts args hlink rfl) (fun _ h => h) hfin hd rfl rfl hl hdg (fun H1 locs1 h1 h2 h3 => kk H1 locs1 (hset ▸ h1) (hset ▸ h2) h3)
theorem ln_iald (X : ln_X p R s m c cc nL own D g d) {ws : va_W} (hP : va_P D ln_cl ws H) (q0 : Nat) {a n k : Nat} {f : Nat → Int32} (ha : ws[q0]? = some (a, .inl (g 0, n, .inl f))) (hk : k < n) (hn : n < 2 ^ 31) {v : Int32} (hv : f k = v) (hdg : decode cc pc = .ok (.iaload, 1))
    (kk : W p l e R s m args below meth c H locs cells slots Q (F0 m (pc + 1) ls (.int v :: rest))) : W p l e R s m args below meth c H locs cells slots Q (F0 m pc ls (.int (nI k) :: .ref a :: rest)) := by
  refine va_iald X.1 X.2.1 X.2.2.2.2.1 hP q0 0 ha rfl (vp_in_nI hk hn) hdg ?_
  rw [nI_clamp (Nat.lt_trans hk hn), hv]
  exact kk
theorem ln_zald (X : ln_X p R s m c cc nL own D g d) {ws : va_W} (hP : va_P D ln_cl ws H) (q0 : Nat) {a n k : Nat} {f : Nat → Int32} (ha : ws[q0]? = some (a, .inl (g 1, n, .inl f))) (hk : k < n) (hn : n < 2 ^ 31) {v : Int32} (hv : f k = v) (hdg : decode cc pc = .ok (.baload, 1))
    (kk : W p l e R s m args below meth c H locs cells slots Q (F0 m (pc + 1) ls (.int v :: rest))) : W p l e R s m args below meth c H locs cells slots Q (F0 m pc ls (.int (nI k) :: .ref a :: rest)) := by
  refine va_zald X.1 X.2.1 X.2.2.2.2.1 hP q0 1 ha rfl (vp_in_nI hk hn) hdg ?_
  rw [nI_clamp (Nat.lt_trans hk hn), hv]
  exact kk
theorem ln_bald (X : ln_X p R s m c cc nL own D g d) {ws : va_W} (hP : va_P D ln_cl ws H) (q0 : Nat) {a n k : Nat} {f : Nat → Int32} (ha : ws[q0]? = some (a, .inl (g 2, n, .inl f))) (hk : k < n) (hn : n < 2 ^ 31) {v : Int32} (hv : f k = v) (hdg : decode cc pc = .ok (.baload, 1))
    (kk : W p l e R s m args below meth c H locs cells slots Q (F0 m (pc + 1) ls (.int v :: rest))) : W p l e R s m args below meth c H locs cells slots Q (F0 m pc ls (.int (nI k) :: .ref a :: rest)) := by
  refine va_bald X.1 X.2.1 X.2.2.2.2.1 hP q0 2 ha rfl (vp_in_nI hk hn) hdg ?_
  rw [nI_clamp (Nat.lt_trans hk hn), hv]
  exact kk
theorem ln_aald (X : ln_X p R s m c cc nL own D g d) {ws : va_W} (hP : va_P D ln_cl ws H) (q0 t0 : Nat) {a n k : Nat} {f : Nat → Option Nat} {cA : ClassId} {ty : FieldType} (ha : ws[q0]? = some (a, .inl (cA, n, .inr (.inr (.inr (.inr f)))))) (ht : (ln_ty g)[t0]? = some (cA, ty)) (hty : ty.isReference = true) (hk : k < n) (hn : n < 2 ^ 31) {v : Nat} (hv : f k = some v) (hdg : decode cc pc = .ok (.aaload, 1))
    (kk : W p l e R s m args below meth c H locs cells slots Q (F0 m (pc + 1) ls (.ref v :: rest))) : W p l e R s m args below meth c H locs cells slots Q (F0 m pc ls (.int (nI k) :: .ref a :: rest)) := by
  have hc : (nI k).toNatClampNeg = k := nI_clamp (Nat.lt_trans hk hn)
  refine W.aald (v := .ref v) (ty := ty) X.1 X.2.1 (hP q0 _ ha) ((X.2.2.2.2.1.2 t0 _ ht).1 n (fun j => va_rf (f j))) hty (fun q => by cases q) (by show ¬ (nI k < 0 ∨ (arrV _ _ _).slots.size ≤ _); rw [arrV_size]; exact vp_in_nI hk hn) (by show (arrV _ _ _).slots[_]? = _; rw [hc, arrV_read _ _ hk, hv]; rfl) rfl rfl hdg kk
theorem ln_iast (X : ln_X p R s m c cc nL own D g d) {Wd : ln_S → va_W} {σ τ : ln_S} {A : Nat → Prop} {H0 : Heap} (hP : va_P D ln_cl (Wd σ) H) (hD : va_D A (Wd σ)) (hS : va_S A H0 H locs) (q0 : Nat) {a n k : Nat} {f : Nat → Int32} (ha : (Wd σ)[q0]? = some (a, .inl (g 0, n, .inl f))) (hk : k < n) (hn : n < 2 ^ 31) {x : Int32} (hset : (Wd σ).set q0 (a, .inl (g 0, n, .inl (upd f k x))) = Wd τ) (hdg : decode cc pc = .ok (.iastore, 1))
    (kk : ∀ (H1 : Heap) (locs1 : List Loc), va_P D ln_cl (Wd τ) H1 → va_D A (Wd τ) → va_S A H0 H1 locs1 → W p l e R s m args below meth c H1 locs1 cells slots Q (F0 m (pc + 1) ls rest)) : W p l e R s m args below meth c H locs cells slots Q (F0 m pc ls (.int x :: .int (nI k) :: .ref a :: rest)) := by
  have hc : (nI k).toNatClampNeg = k := nI_clamp (Nat.lt_trans hk hn)
  refine va_iast X.1 X.2.1 X.2.2.2.2.1 hP hD hS q0 0 ha rfl (vp_in_nI hk hn) hdg (fun H1 locs1 h1 h2 h3 => ?_)
  rw [hc, hset] at h1 h2
  exact kk H1 locs1 h1 h2 h3
theorem ln_zast (X : ln_X p R s m c cc nL own D g d) {Wd : ln_S → va_W} {σ τ : ln_S} {A : Nat → Prop} {H0 : Heap} (hP : va_P D ln_cl (Wd σ) H) (hD : va_D A (Wd σ)) (hS : va_S A H0 H locs) (q0 : Nat) {a n k : Nat} {f : Nat → Int32} (ha : (Wd σ)[q0]? = some (a, .inl (g 1, n, .inl f))) (hk : k < n) (hn : n < 2 ^ 31) {x : Int32} (hx : vp_nar .boolean x = x) (hset : (Wd σ).set q0 (a, .inl (g 1, n, .inl (upd f k x))) = Wd τ) (hdg : decode cc pc = .ok (.bastore, 1))
    (kk : ∀ (H1 : Heap) (locs1 : List Loc), va_P D ln_cl (Wd τ) H1 → va_D A (Wd τ) → va_S A H0 H1 locs1 → W p l e R s m args below meth c H1 locs1 cells slots Q (F0 m (pc + 1) ls rest)) : W p l e R s m args below meth c H locs cells slots Q (F0 m pc ls (.int x :: .int (nI k) :: .ref a :: rest)) := by
  have hc : (nI k).toNatClampNeg = k := nI_clamp (Nat.lt_trans hk hn)
  refine va_zast X.1 X.2.1 X.2.2.2.2.1 hP hD hS q0 1 ha rfl (vp_in_nI hk hn) hdg (fun H1 locs1 h1 h2 h3 => ?_)
  rw [hc, hx, hset] at h1 h2
  exact kk H1 locs1 h1 h2 h3
theorem ln_bast (X : ln_X p R s m c cc nL own D g d) {Wd : ln_S → va_W} {σ τ : ln_S} {A : Nat → Prop} {H0 : Heap} (hP : va_P D ln_cl (Wd σ) H) (hD : va_D A (Wd σ)) (hS : va_S A H0 H locs) (q0 : Nat) {a n k : Nat} {f : Nat → Int32} (ha : (Wd σ)[q0]? = some (a, .inl (g 2, n, .inl f))) (hk : k < n) (hn : n < 2 ^ 31) {x : Int32} (hx : vp_nar .byte x = x) (hset : (Wd σ).set q0 (a, .inl (g 2, n, .inl (upd f k x))) = Wd τ) (hdg : decode cc pc = .ok (.bastore, 1))
    (kk : ∀ (H1 : Heap) (locs1 : List Loc), va_P D ln_cl (Wd τ) H1 → va_D A (Wd τ) → va_S A H0 H1 locs1 → W p l e R s m args below meth c H1 locs1 cells slots Q (F0 m (pc + 1) ls rest)) : W p l e R s m args below meth c H locs cells slots Q (F0 m pc ls (.int x :: .int (nI k) :: .ref a :: rest)) := by
  have hc : (nI k).toNatClampNeg = k := nI_clamp (Nat.lt_trans hk hn)
  refine va_bast X.1 X.2.1 X.2.2.2.2.1 hP hD hS q0 2 ha rfl (vp_in_nI hk hn) hdg (fun H1 locs1 h1 h2 h3 => ?_)
  rw [hc, hx, hset] at h1 h2
  exact kk H1 locs1 h1 h2 h3
end LNA
end
section
/-! numbers: the machine's ints as naturals -/
def ln_b (b : Bool) : Int32 := if b then 1 else 0
/-- a without b, as sets -/
def ln_df (a b : Nat) : Nat := a ^^^ (a &&& b)
theorem ln_df_bit (a b i : Nat) : (ln_df a b).testBit i = (a.testBit i && !b.testBit i) := by
  unfold ln_df
  rw [Nat.testBit_xor, Nat.testBit_and]
  cases a.testBit i <;> cases b.testBit i <;> rfl
theorem ln_and (a b : Nat) : nI a &&& nI b = nI (a &&& b) := by
  apply Int32.toBitVec_inj.1
  show BitVec.ofNat 32 a &&& BitVec.ofNat 32 b = BitVec.ofNat 32 (a &&& b)
  apply BitVec.eq_of_getLsbD_eq
  intro i hi
  simp [hi]
theorem ln_or (a b : Nat) : nI a ||| nI b = nI (a ||| b) := by
  apply Int32.toBitVec_inj.1
  show BitVec.ofNat 32 a ||| BitVec.ofNat 32 b = BitVec.ofNat 32 (a ||| b)
  apply BitVec.eq_of_getLsbD_eq
  intro i hi
  simp [hi]
theorem ln_nt (a b : Nat) : nI a &&& (nI b ^^^ (-1)) = nI (ln_df a b) := by
  apply Int32.toBitVec_inj.1
  show BitVec.ofNat 32 a &&& (BitVec.ofNat 32 b ^^^ BitVec.allOnes 32) = BitVec.ofNat 32 (ln_df a b)
  apply BitVec.eq_of_getLsbD_eq
  intro i hi
  rw [BitVec.getLsbD_and, BitVec.getLsbD_xor, BitVec.getLsbD_allOnes, BitVec.getLsbD_ofNat, BitVec.getLsbD_ofNat, BitVec.getLsbD_ofNat, ln_df_bit]
  simp [hi]
theorem ln_sl : ∀ n, n < 31 → (1 : Int32) <<< (nI n &&& 31) = nI (2 ^ n) := by decide +kernel
theorem ln_sm : ∀ n, n < 32 → ((nI n &&& 31).toBitVec.smod 32).toNat = n := by decide +kernel
theorem ln_sr {a n : Nat} (ha : a < 2 ^ 31) (hn : n < 32) : nI a >>> (nI n &&& 31) = nI (a >>> n) := by
  rw [pk_shrN ha _ n (ln_sm n hn), Nat.shiftRight_eq_div_pow]
theorem ln_and_lt {a b N : Nat} (ha : a < N) : a &&& b < N := Nat.lt_of_le_of_lt Nat.and_le_left ha
theorem ln_df_le (a b : Nat) : ln_df a b ≤ a := by
  apply Nat.le_of_testBit
  intro i
  rw [ln_df_bit]
  cases a.testBit i <;> simp
theorem ln_df_lt {a b N : Nat} (ha : a < N) : ln_df a b < N := Nat.lt_of_le_of_lt (ln_df_le a b) ha
theorem ln_or_lt {a b : Nat} (k : Nat) (ha : a < 2 ^ k) (hb : b < 2 ^ k) : a ||| b < 2 ^ k := Nat.or_lt_two_pow ha hb
theorem ln_dec {s : Nat} : nI s &&& (nI s - 1) = nI (s &&& (s - 1)) := by
  cases s with
  | zero => decide
  | succ k => rw [nI_pred, ln_and]; rfl
theorem ln_shr_and (a n : Nat) : (a >>> n) &&& 1 = if a.testBit n then 1 else 0 := by
  rw [Nat.testBit, Nat.and_comm 1]
  have h : (a >>> n) &&& 1 = (a >>> n) % 2 := Nat.and_one_is_mod _
  rw [h]
  rcases Nat.mod_two_eq_zero_or_one (a >>> n) with q | q <;> rw [q] <;> rfl
theorem ln_nb (b : Bool) : nI (if b then 1 else 0) = ln_b b := by cases b <;> rfl
theorem ln_b_in (b : Bool) : ln_b b = nI (if b then 1 else 0) := by cases b <;> rfl
theorem ln_b_nar (b : Bool) : narrow .boolean (.int (ln_b b)) = .int (ln_b b) := by cases b <;> rfl
theorem ln_b_zar (b : Bool) : vp_nar .boolean (ln_b b) = ln_b b := by cases b <;> rfl
theorem ln_b_bar (b : Bool) : vp_nar .byte (ln_b b) = ln_b b := by cases b <;> rfl
section LNB
variable {p : Program} {l : Launch} {e : Env} {R : Room} {s : State} {m : MethodId} {args : Array Value} {below : List Frame} {meth : Method} {c : Code} {H : Heap} {locs : List Loc} {cells slots : Nat} {Q : State → Prop}
variable {cc : ByteArray} {nL : Nat} {own : String} {D : va_G} {g : Nat → ClassId} {d : Nat} {pc : Nat} {ls : Array Slot} {rest : List Value}
theorem rn_add (X : ln_X p R s m c cc nL own D g d) {a b : Nat} (hdg : decode cc pc = .ok (.iadd, 1)) (kk : W p l e R s m args below meth c H locs cells slots Q (F0 m (pc + 1) ls (.int (nI (a + b)) :: rest))) : W p l e R s m args below meth c H locs cells slots Q (F0 m pc ls (.int (nI b) :: .int (nI a) :: rest)) :=
  lv_iadd X.1 X.2.1 hdg (by rw [nI_add]; exact kk)
theorem rn_sub (X : ln_X p R s m c cc nL own D g d) {a b : Nat} (h : b ≤ a) (hdg : decode cc pc = .ok (.isub, 1)) (kk : W p l e R s m args below meth c H locs cells slots Q (F0 m (pc + 1) ls (.int (nI (a - b)) :: rest))) : W p l e R s m args below meth c H locs cells slots Q (F0 m pc ls (.int (nI b) :: .int (nI a) :: rest)) :=
  lv_isub X.1 X.2.1 hdg (by rw [pk_sub h]; exact kk)
theorem rn_mul (X : ln_X p R s m c cc nL own D g d) {a b : Nat} (hdg : decode cc pc = .ok (.imul, 1)) (kk : W p l e R s m args below meth c H locs cells slots Q (F0 m (pc + 1) ls (.int (nI (a * b)) :: rest))) : W p l e R s m args below meth c H locs cells slots Q (F0 m pc ls (.int (nI b) :: .int (nI a) :: rest)) :=
  lv_imul X.1 X.2.1 hdg (by rw [pk_mul]; exact kk)
theorem rn_and (X : ln_X p R s m c cc nL own D g d) {a b : Nat} (hdg : decode cc pc = .ok (.iand, 1)) (kk : W p l e R s m args below meth c H locs cells slots Q (F0 m (pc + 1) ls (.int (nI (a &&& b)) :: rest))) : W p l e R s m args below meth c H locs cells slots Q (F0 m pc ls (.int (nI b) :: .int (nI a) :: rest)) :=
  lv_iand X.1 X.2.1 hdg (by rw [ln_and]; exact kk)
theorem rn_or (X : ln_X p R s m c cc nL own D g d) {a b : Nat} (hdg : decode cc pc = .ok (.ior, 1)) (kk : W p l e R s m args below meth c H locs cells slots Q (F0 m (pc + 1) ls (.int (nI (a ||| b)) :: rest))) : W p l e R s m args below meth c H locs cells slots Q (F0 m pc ls (.int (nI b) :: .int (nI a) :: rest)) :=
  lv_ior X.1 X.2.1 hdg (by rw [ln_or]; exact kk)
theorem rn_nt (X : ln_X p R s m c cc nL own D g d) {a b : Nat} (hdg : decode cc pc = .ok (.iand, 1)) (kk : W p l e R s m args below meth c H locs cells slots Q (F0 m (pc + 1) ls (.int (nI (ln_df a b)) :: rest))) : W p l e R s m args below meth c H locs cells slots Q (F0 m pc ls (.int (nI b ^^^ (-1)) :: .int (nI a) :: rest)) :=
  lv_iand X.1 X.2.1 hdg (by rw [ln_nt]; exact kk)
theorem rn_dec (X : ln_X p R s m c cc nL own D g d) {a : Nat} (hdg : decode cc pc = .ok (.iand, 1)) (kk : W p l e R s m args below meth c H locs cells slots Q (F0 m (pc + 1) ls (.int (nI (a &&& (a - 1))) :: rest))) : W p l e R s m args below meth c H locs cells slots Q (F0 m pc ls (.int (nI a - nI 1) :: .int (nI a) :: rest)) :=
  lv_iand X.1 X.2.1 hdg (by rw [show nI 1 = 1 from rfl, ln_dec]; exact kk)
theorem rn_shl (X : ln_X p R s m c cc nL own D g d) {b : Nat} (h : b < 31) (hdg : decode cc pc = .ok (.ishl, 1)) (kk : W p l e R s m args below meth c H locs cells slots Q (F0 m (pc + 1) ls (.int (nI (2 ^ b)) :: rest))) : W p l e R s m args below meth c H locs cells slots Q (F0 m pc ls (.int (nI b) :: .int (nI 1) :: rest)) :=
  lv_ishl X.1 X.2.1 hdg (by rw [show nI 1 = 1 from rfl, ln_sl b h]; exact kk)
theorem rn_shr (X : ln_X p R s m c cc nL own D g d) {a b : Nat} (ha : a < 2 ^ 31) (h : b < 32) (hdg : decode cc pc = .ok (.ishr, 1)) (kk : W p l e R s m args below meth c H locs cells slots Q (F0 m (pc + 1) ls (.int (nI (a >>> b)) :: rest))) : W p l e R s m args below meth c H locs cells slots Q (F0 m pc ls (.int (nI b) :: .int (nI a) :: rest)) :=
  lv_ishr X.1 X.2.1 hdg (by rw [ln_sr ha h]; exact kk)
theorem rn_ge (X : ln_X p R s m c cc nL own D g d) {a b : Nat} {off : Int} {tgt : Nat} (ha : a < 2 ^ 31) (hb : b < 2 ^ 31) (hdg : decode cc pc = .ok (.if_icmp .ge off, 3)) (ht : (pc : Int) + off = (tgt : Int))
    (kt : b ≤ a → W p l e R s m args below meth c H locs cells slots Q (F0 m tgt ls rest)) (kf : a < b → W p l e R s m args below meth c H locs cells slots Q (F0 m (pc + 3) ls rest)) : W p l e R s m args below meth c H locs cells slots Q (F0 m pc ls (.int (nI b) :: .int (nI a) :: rest)) :=
  lv_icmp_ge X.1 X.2.1 hdg ht (fun h => kt ((nI_leI hb ha).mp h)) (fun h => kf (Nat.lt_of_not_le (fun q => h ((nI_leI hb ha).mpr q))))
theorem rn_le (X : ln_X p R s m c cc nL own D g d) {a b : Nat} {off : Int} {tgt : Nat} (ha : a < 2 ^ 31) (hb : b < 2 ^ 31) (hdg : decode cc pc = .ok (.if_icmp .le off, 3)) (ht : (pc : Int) + off = (tgt : Int))
    (kt : a ≤ b → W p l e R s m args below meth c H locs cells slots Q (F0 m tgt ls rest)) (kf : b < a → W p l e R s m args below meth c H locs cells slots Q (F0 m (pc + 3) ls rest)) : W p l e R s m args below meth c H locs cells slots Q (F0 m pc ls (.int (nI b) :: .int (nI a) :: rest)) :=
  lv_icmp_le X.1 X.2.1 hdg ht (fun h => kt ((nI_leI ha hb).mp h)) (fun h => kf (Nat.lt_of_not_le (fun q => h ((nI_leI ha hb).mpr q))))
theorem rn_lt (X : ln_X p R s m c cc nL own D g d) {a b : Nat} {off : Int} {tgt : Nat} (ha : a < 2 ^ 31) (hb : b < 2 ^ 31) (hdg : decode cc pc = .ok (.if_icmp .lt off, 3)) (ht : (pc : Int) + off = (tgt : Int))
    (kt : a < b → W p l e R s m args below meth c H locs cells slots Q (F0 m tgt ls rest)) (kf : b ≤ a → W p l e R s m args below meth c H locs cells slots Q (F0 m (pc + 3) ls rest)) : W p l e R s m args below meth c H locs cells slots Q (F0 m pc ls (.int (nI b) :: .int (nI a) :: rest)) :=
  lv_icmp_lt X.1 X.2.1 hdg ht (fun h => kt ((nI_ltI ha hb).mp h)) (fun h => kf (Nat.le_of_not_lt (fun q => h ((nI_ltI ha hb).mpr q))))
theorem rn_gt (X : ln_X p R s m c cc nL own D g d) {a b : Nat} {off : Int} {tgt : Nat} (ha : a < 2 ^ 31) (hb : b < 2 ^ 31) (hdg : decode cc pc = .ok (.if_icmp .gt off, 3)) (ht : (pc : Int) + off = (tgt : Int))
    (kt : b < a → W p l e R s m args below meth c H locs cells slots Q (F0 m tgt ls rest)) (kf : a ≤ b → W p l e R s m args below meth c H locs cells slots Q (F0 m (pc + 3) ls rest)) : W p l e R s m args below meth c H locs cells slots Q (F0 m pc ls (.int (nI b) :: .int (nI a) :: rest)) :=
  lv_icmp_gt X.1 X.2.1 hdg ht (fun h => kt ((nI_ltI hb ha).mp h)) (fun h => kf (Nat.le_of_not_lt (fun q => h ((nI_ltI hb ha).mpr q))))
theorem rn_eq (X : ln_X p R s m c cc nL own D g d) {a b : Nat} {off : Int} {tgt : Nat} (ha : a < 2 ^ 31) (hb : b < 2 ^ 31) (hdg : decode cc pc = .ok (.if_icmp .eq off, 3)) (ht : (pc : Int) + off = (tgt : Int))
    (kt : a = b → W p l e R s m args below meth c H locs cells slots Q (F0 m tgt ls rest)) (kf : a ≠ b → W p l e R s m args below meth c H locs cells slots Q (F0 m (pc + 3) ls rest)) : W p l e R s m args below meth c H locs cells slots Q (F0 m pc ls (.int (nI b) :: .int (nI a) :: rest)) :=
  lv_icmp_eq X.1 X.2.1 hdg ht (fun h => kt ((nI_eq ha hb).mp h)) (fun h => kf (fun q => h ((nI_eq ha hb).mpr q)))
theorem rn_ne (X : ln_X p R s m c cc nL own D g d) {a b : Nat} {off : Int} {tgt : Nat} (ha : a < 2 ^ 31) (hb : b < 2 ^ 31) (hdg : decode cc pc = .ok (.if_icmp .ne off, 3)) (ht : (pc : Int) + off = (tgt : Int))
    (kt : a ≠ b → W p l e R s m args below meth c H locs cells slots Q (F0 m tgt ls rest)) (kf : a = b → W p l e R s m args below meth c H locs cells slots Q (F0 m (pc + 3) ls rest)) : W p l e R s m args below meth c H locs cells slots Q (F0 m pc ls (.int (nI b) :: .int (nI a) :: rest)) :=
  lv_icmp_ne X.1 X.2.1 hdg ht (fun h => kt (fun q => h ((nI_eq ha hb).mpr q))) (fun h => kf ((nI_eq ha hb).mp h))
theorem rn_eq0 (X : ln_X p R s m c cc nL own D g d) {a : Nat} {off : Int} {tgt : Nat} (ha : a < 2 ^ 31) (hdg : decode cc pc = .ok (.ifCond .eq off, 3)) (ht : (pc : Int) + off = (tgt : Int))
    (kt : a = 0 → W p l e R s m args below meth c H locs cells slots Q (F0 m tgt ls rest)) (kf : a ≠ 0 → W p l e R s m args below meth c H locs cells slots Q (F0 m (pc + 3) ls rest)) : W p l e R s m args below meth c H locs cells slots Q (F0 m pc ls (.int (nI a) :: rest)) :=
  lv_if_eq X.1 X.2.1 hdg ht (fun h => kt ((nI_eq ha (by decide)).mp h)) (fun h => kf (fun q => h (by rw [q]; rfl)))
theorem rn_ne0 (X : ln_X p R s m c cc nL own D g d) {a : Nat} {off : Int} {tgt : Nat} (ha : a < 2 ^ 31) (hdg : decode cc pc = .ok (.ifCond .ne off, 3)) (ht : (pc : Int) + off = (tgt : Int))
    (kt : a ≠ 0 → W p l e R s m args below meth c H locs cells slots Q (F0 m tgt ls rest)) (kf : a = 0 → W p l e R s m args below meth c H locs cells slots Q (F0 m (pc + 3) ls rest)) : W p l e R s m args below meth c H locs cells slots Q (F0 m pc ls (.int (nI a) :: rest)) :=
  lv_if_ne X.1 X.2.1 hdg ht (fun h => kt (fun q => h (by rw [q]; rfl))) (fun h => kf ((nI_eq ha (by decide)).mp h))
theorem rn_lt0 (X : ln_X p R s m c cc nL own D g d) {a : Nat} {off : Int} {tgt : Nat} (ha : a < 2 ^ 31) (hdg : decode cc pc = .ok (.ifCond .lt off, 3)) (ht : (pc : Int) + off = (tgt : Int))
    (kf : W p l e R s m args below meth c H locs cells slots Q (F0 m (pc + 3) ls rest)) : W p l e R s m args below meth c H locs cells slots Q (F0 m pc ls (.int (nI a) :: rest)) :=
  lv_if_lt X.1 X.2.1 hdg ht (fun h => absurd h (nI_pos ha)) (fun _ => kf)
theorem rn_ge0 (X : ln_X p R s m c cc nL own D g d) {a : Nat} {off : Int} {tgt : Nat} (ha : a < 2 ^ 31) (hdg : decode cc pc = .ok (.ifCond .ge off, 3)) (ht : (pc : Int) + off = (tgt : Int))
    (kt : W p l e R s m args below meth c H locs cells slots Q (F0 m tgt ls rest)) : W p l e R s m args below meth c H locs cells slots Q (F0 m pc ls (.int (nI a) :: rest)) :=
  lv_if_ge X.1 X.2.1 hdg ht (fun _ => kt) (fun h => absurd (nI_pos' ha) h)
theorem rn_le0 (X : ln_X p R s m c cc nL own D g d) {a : Nat} {off : Int} {tgt : Nat} (ha : a < 2 ^ 31) (hdg : decode cc pc = .ok (.ifCond .le off, 3)) (ht : (pc : Int) + off = (tgt : Int))
    (kt : a = 0 → W p l e R s m args below meth c H locs cells slots Q (F0 m tgt ls rest)) (kf : a ≠ 0 → W p l e R s m args below meth c H locs cells slots Q (F0 m (pc + 3) ls rest)) : W p l e R s m args below meth c H locs cells slots Q (F0 m pc ls (.int (nI a) :: rest)) :=
  lv_if_le X.1 X.2.1 hdg ht (fun h => kt (Nat.le_zero.mp ((nI_leI ha (by decide)).mp h))) (fun h => kf (fun q => h (by rw [q]; decide)))
theorem rn_gt0 (X : ln_X p R s m c cc nL own D g d) {a : Nat} {off : Int} {tgt : Nat} (ha : a < 2 ^ 31) (hdg : decode cc pc = .ok (.ifCond .gt off, 3)) (ht : (pc : Int) + off = (tgt : Int))
    (kt : a ≠ 0 → W p l e R s m args below meth c H locs cells slots Q (F0 m tgt ls rest)) (kf : a = 0 → W p l e R s m args below meth c H locs cells slots Q (F0 m (pc + 3) ls rest)) : W p l e R s m args below meth c H locs cells slots Q (F0 m pc ls (.int (nI a) :: rest)) :=
  lv_if_gt X.1 X.2.1 hdg ht (fun h => kt (fun q => absurd h (by rw [q]; decide))) (fun h => kf (Decidable.byContradiction (fun q => h (nI_lt (Nat.pos_of_ne_zero q) ha))))
theorem rn_eqB (X : ln_X p R s m c cc nL own D g d) {a : Bool} {off : Int} {tgt : Nat} (hdg : decode cc pc = .ok (.ifCond .eq off, 3)) (ht : (pc : Int) + off = (tgt : Int))
    (kt : a = false → W p l e R s m args below meth c H locs cells slots Q (F0 m tgt ls rest)) (kf : a = true → W p l e R s m args below meth c H locs cells slots Q (F0 m (pc + 3) ls rest)) : W p l e R s m args below meth c H locs cells slots Q (F0 m pc ls (.int (ln_b a) :: rest)) :=
  lv_if_eq X.1 X.2.1 hdg ht (fun h => kt (by cases a with | false => rfl | true => exact absurd h (by decide))) (fun h => kf (by cases a with | true => rfl | false => exact absurd rfl h))
theorem rn_neB (X : ln_X p R s m c cc nL own D g d) {a : Bool} {off : Int} {tgt : Nat} (hdg : decode cc pc = .ok (.ifCond .ne off, 3)) (ht : (pc : Int) + off = (tgt : Int))
    (kt : a = true → W p l e R s m args below meth c H locs cells slots Q (F0 m tgt ls rest)) (kf : a = false → W p l e R s m args below meth c H locs cells slots Q (F0 m (pc + 3) ls rest)) : W p l e R s m args below meth c H locs cells slots Q (F0 m pc ls (.int (ln_b a) :: rest)) :=
  lv_if_ne X.1 X.2.1 hdg ht (fun h => kt (by cases a with | true => rfl | false => exact absurd rfl h)) (fun h => kf (by cases a with | false => rfl | true => exact absurd h (by decide)))
theorem rn_top {x y : Int32} (h : x = y) (kk : W p l e R s m args below meth c H locs cells slots Q (F0 m pc ls (.int y :: rest))) : W p l e R s m args below meth c H locs cells slots Q (F0 m pc ls (.int x :: rest)) := h ▸ kk
theorem rn_inc {k : Nat} : nI k + Int32.ofInt 1 = nI (k + 1) := nI_1 k
theorem rn_inm {k : Nat} (h : 0 < k) : nI k + Int32.ofInt (-1) = nI (k - 1) := sb_m1 h
end LNB
end
section
/-! calls, entries and ends -/
def ln_Y (y : MethodName) (bytes : ByteArray) (maxL n : Nat) (ret : Option FieldType) (C : String) : Prop := Cond.instanceMethod y ∈ lw_tbl ∧ Cond.selects C y y ∈ lw_tbl ∧ Cond.initialized y.cls ∈ lw_tbl ∧ Cond.code y bytes maxL ret ∈ lw_tbl ∧ ln_yn y n ∧ maxL ≤ 40
def ln_Z (y : MethodName) (bytes : ByteArray) (maxL n : Nat) (ret : Option FieldType) : Prop := Cond.static y ∈ lw_tbl ∧ Cond.initialized y.cls ∈ lw_tbl ∧ Cond.code y bytes maxL ret ∈ lw_tbl ∧ ln_yn y n ∧ maxL ≤ 40
section LNC
variable {p : Program} {l : Launch} {e : Env} {R : Room} {s : State} {m : MethodId} {args : Array Value} {below : List Frame} {meth : Method} {c : Code} {H : Heap} {locs : List Loc} {cells slots : Nat} {Q : State → Prop}
variable {cc : ByteArray} {nL : Nat} {own : String} {D : va_G} {g : Nat → ClassId} {d : Nat} {pc : Nat} {ls : Array Slot} {rest st : List Value}
theorem ln_nil : va_P D ln_cl [] H := fun k q h => by simp at h
theorem ln_cb (X : ln_X p R s m c cc nL own D g d) {y : MethodName} {bytes : ByteArray} {maxL n index d' : Nat} {ret : Option FieldType} (h1 : Cond.initialized y.cls ∈ lw_tbl) (h2 : Cond.code y bytes maxL ret ∈ lw_tbl) (h3 : ln_yn y n) (h4 : maxL ≤ 40) (hd : d' + 1 ≤ d) (hl : Cond.methodLink own index y ∈ lw_tbl) :
    CallB R s args own index y bytes maxL ret [Cond.code y bytes maxL ret] (ln_rm d') 0 0 n := by
  refine ⟨rfl, rfl, Nat.le_trans hd X.2.2.2.2.2.2.1, ?_, ?_, List.mem_singleton.mpr rfl, X.ts args h2 rfl, X.ts args h1 rfl, ⟨h3.1, h3.2.1⟩, ?_, X.ts args hl rfl⟩
  · have := X.2.2.2.2.2.2.2
    show 8 + (maxL + 11) + 60 * d' ≤ R.locals
    omega
  · intro w hw a' U hW
    rw [List.mem_singleton.mp hw]
    exact (ln_G.warm hW X.2.2.2.2.2.1) a' _ h2 rfl
  · intro sig h
    have h5 := h3.2.2
    rw [h] at h5
    exact (Option.some.inj h5).symm
theorem ln_vR (X : ln_X p R s m c cc nL own D g d) {y : MethodName} {bytes : ByteArray} {maxL n index d' b : Nat} {ret : Option FieldType} {As : List Value} {ws : va_W} {post : Int32 → Prop} (hM : ln_R l D g ws y (.code y bytes maxL ret) d' (.ref b :: As) post) (hP : va_P D ln_cl ws H) (q0 : Nat) {ci : Nat} {r : vw_C} {fs : List Value} (he : ws[q0]? = some (b, .inr (ci, fs))) (hc : ln_cl[ci]? = some r) (hl : Cond.methodLink own index y ∈ lw_tbl) (hY : ln_Y y bytes maxL n ret r.1) (hn : As.length = n) (hd : d' + 1 ≤ d) (hls : ls.size = nL) (hst : st = As.reverse ++ .ref b :: rest) (hr : (rest.map fun v => v.category).sum ≤ 8) (hdg : decode cc pc = .ok (.invokevirtual index, 3))
    (hf : cells ≤ R.cells ∧ slots ≤ R.slots) (kk : ∀ r : Int32, post r → W p l e R s m args below meth c H locs cells slots Q (F0 m (pc + 3) ls (.int r :: rest))) : W p l e R s m args below meth c H locs cells slots Q (F0 m pc ls st) :=
  vp_callSi (W.runV (Ts := []) (As := As) ⟨X.1, X.2.1, X.2.2.1, X.2.2.2.1, fun _ h => absurd h List.not_mem_nil⟩ hM ⟨ln_cb X hY.2.2.1 hY.2.2.2.1 hY.2.2.2.2.1 hY.2.2.2.2.2 hd hl, X.ts args hY.1 rfl, X.ts args hY.2.1 rfl⟩ ⟨ln_blind, va_recv X.2.2.2.2.1 hP hc he, fun U hU hW => ⟨rfl, by rw [hU]; exact hP, va_K.moved hW.alike X.2.2.2.2.1, ln_G.warm hW X.2.2.2.2.2.1⟩⟩ rfl hn hls hst (lv_room hr) hdg hf) kk
theorem ln_sR (X : ln_X p R s m c cc nL own D g d) {y : MethodName} {bytes : ByteArray} {maxL n index d' : Nat} {ret : Option FieldType} {As : List Value} {ws : va_W} {post : Int32 → Prop} (hM : ln_R l D g ws y (.code y bytes maxL ret) d' As post) (hP : va_P D ln_cl ws H) (hl : Cond.methodLink own index y ∈ lw_tbl) (hY : ln_Z y bytes maxL n ret) (hn : As.length = n) (hd : d' + 1 ≤ d) (hls : ls.size = nL) (hst : st = As.reverse ++ rest) (hr : (rest.map fun v => v.category).sum ≤ 8) (hdg : decode cc pc = .ok (.invokestatic index, 3))
    (hf : cells ≤ R.cells ∧ slots ≤ R.slots) (kk : ∀ r : Int32, post r → W p l e R s m args below meth c H locs cells slots Q (F0 m (pc + 3) ls (.int r :: rest))) : W p l e R s m args below meth c H locs cells slots Q (F0 m pc ls st) :=
  vp_callSi (W.runS (Ts := []) (As := As) ⟨X.1, X.2.1, X.2.2.1, X.2.2.2.1, fun _ h => absurd h List.not_mem_nil⟩ hM ⟨ln_cb X hY.2.1 hY.2.2.1 hY.2.2.2.1 hY.2.2.2.2 hd hl, X.ts args hY.1 rfl⟩ ⟨ln_blind, fun U hU hW => ⟨rfl, by rw [hU]; exact hP, va_K.moved hW.alike X.2.2.2.2.1, ln_G.warm hW X.2.2.2.2.2.1⟩⟩ rfl hn hls hst (lv_room hr) hdg hf) kk
theorem ln_nR (X : ln_X p R s m c cc nL own D g d) {y : MethodName} {bytes : ByteArray} {maxL n index d' : Nat} {ret : Option FieldType} {host : String} {As : List Value} {ws : va_W} {post : Int32 → Prop} (hM : ln_R l D g ws y (.code y bytes maxL ret) d' As post) (hP : va_P D ln_cl ws H) (hl : Cond.methodLinkNest own index y host ∈ lw_tbl) (hY : ln_Z y bytes maxL n ret) (hn : As.length = n) (hd : d' + 1 ≤ d) (hls : ls.size = nL) (hst : st = As.reverse ++ rest) (hr : (rest.map fun v => v.category).sum ≤ 8) (hdg : decode cc pc = .ok (.invokestatic index, 3))
    (hf : cells ≤ R.cells ∧ slots ≤ R.slots) (kk : ∀ r : Int32, post r → W p l e R s m args below meth c H locs cells slots Q (F0 m (pc + 3) ls (.int r :: rest))) : W p l e R s m args below meth c H locs cells slots Q (F0 m pc ls st) := by
  have hloc : 8 + (maxL + 11) + 60 * d' ≤ R.locals := by
    have := X.2.2.2.2.2.2.2
    have := hY.2.2.2.2
    omega
  have hrun := va_runSN (Ts := []) (As := As) (rest := rest) (H := H) (locs := locs) (cells := cells) (slots := slots) (e := e) (below := below) (meth := meth) (g := F0 m pc ls st) (args := args) (R := R) (nL := nL) (maxL := maxL) (n := n) (index := index) (host := host) ⟨X.1, X.2.1, X.2.2.1, X.2.2.2.1, fun _ h => absurd h List.not_mem_nil⟩ hM
    ⟨⟨⟨rfl, rfl, Nat.le_trans hd X.2.2.2.2.2.2.1, hloc, (fun w hw a' U hW => by rw [List.mem_singleton.mp hw]; exact (ln_G.warm hW X.2.2.2.2.2.1) a' _ hY.2.2.1 rfl), List.mem_singleton.mpr rfl⟩, X.ts args hY.2.2.1 rfl, X.ts args hY.2.1 rfl, ⟨hY.2.2.2.1.1, hY.2.2.2.1.2.1⟩, (fun sig h => by have h5 := hY.2.2.2.1.2.2; rw [h] at h5; exact (Option.some.inj h5).symm), X.ts args hl rfl⟩, X.ts args hY.1 rfl, trivial⟩
    ⟨ln_blind, fun U hU hW => ⟨rfl, by rw [hU]; exact hP, va_K.moved hW.alike X.2.2.2.2.1, ln_G.warm hW X.2.2.2.2.2.1⟩⟩ rfl hn hls hst (lv_room hr) hdg hf
  intro T hT Xs
  obtain ⟨v, st₀, t, T', L, h0, X', hL, e1, e2, ⟨r, hv, hp, hh⟩, stp⟩ := hrun T hT Xs
  cases hv
  obtain ⟨t2, a1, b1⟩ := kk r hp T' (by rw [e1, hh, h0]) (Stand.forget X' (fun q h => (hL q h).elim))
  exact ⟨t2, stp t2 a1, b1⟩
/-- a writer is called by a writer over the same world -/
theorem ln_vU (X : ln_X p R s m c cc nL own D g d) {Wd : ln_S → va_W} (had : ln_ad Wd) {σ : ln_S} {A : Nat → Prop} (hA : ∀ q, s.heap.size ≤ q → A q) {y : MethodName} {bytes : ByteArray} {maxL n index d' b : Nat} {ret : Option FieldType} {As : List Value} {post : Int32 → ln_S → Prop} (hM : ln_U l D g Wd y (.code y bytes maxL ret) d' (.ref b :: As) σ post) (hP : va_P D ln_cl (Wd σ) H) (hD : va_D A (Wd σ)) (hS : va_S A s.heap H locs) (q0 : Nat) {ci : Nat} {r : vw_C} {fs : List Value} (he : (Wd σ)[q0]? = some (b, .inr (ci, fs))) (hc : ln_cl[ci]? = some r) (hl : Cond.methodLink own index y ∈ lw_tbl) (hY : ln_Y y bytes maxL n ret r.1) (hn : As.length = n) (hd : d' + 1 ≤ d) (hls : ls.size = nL) (hst : st = As.reverse ++ .ref b :: rest) (hr : (rest.map fun v => v.category).sum ≤ 8) (hdg : decode cc pc = .ok (.invokevirtual index, 3))
    (hf : cells ≤ R.cells ∧ slots ≤ R.slots) (kk : ∀ (r : Int32) (τ : ln_S) (H1 : Heap) (locs1 : List Loc), post r τ → va_P D ln_cl (Wd τ) H1 → va_D A (Wd τ) → va_S A s.heap H1 locs1 → W p l e R s m args below meth c H1 locs1 cells slots Q (F0 m (pc + 3) ls (.int r :: rest))) : W p l e R s m args below meth c H locs cells slots Q (F0 m pc ls st) := by
  have hfr : ∀ q, va_A (Wd σ) H.size q → A q := fun q h => by
    rcases h with ⟨k, e9, h⟩ | h
    · exact hD.2 k _ h
    · exact hA q (Nat.le_trans hS.1 h)
  refine va_calli (va_runV (Ts := []) (As := As) ⟨X.1, X.2.1, X.2.2.1, X.2.2.2.1, fun _ h => absurd h List.not_mem_nil⟩ (hM H.size) ⟨ln_cb X hY.2.2.1 hY.2.2.2.1 hY.2.2.2.2.1 hY.2.2.2.2.2 hd hl, X.ts args hY.1 rfl, X.ts args hY.2.1 rfl⟩ ⟨ln_blindU, va_recv X.2.2.2.2.1 hP hc he, fun U hU hW => ⟨rfl, by rw [hU], by rw [hU]; exact hP, hD.weaken (fun _ _ _ _ => trivial), va_K.moved hW.alike X.2.2.2.2.1, ln_G.warm hW X.2.2.2.2.2.1⟩⟩ rfl hn hls hst (lv_room hr) hdg hf) hS (fun q _ h => hfr q h) hfr (fun r τ t H1 locs1 ht hvm hp hB hz hk hS1 => ?_)
  exact kk r τ H1 locs1 hp (by rw [← ht]; exact hB) (had.D hD) hS1
theorem ln_vV (X : ln_X p R s m c cc nL own D g d) {Wd : ln_S → va_W} (had : ln_ad Wd) {σ : ln_S} {A : Nat → Prop} (hA : ∀ q, s.heap.size ≤ q → A q) {y : MethodName} {bytes : ByteArray} {maxL n index d' b : Nat} {ret : Option FieldType} {As : List Value} {post : ln_S → Prop} (hM : ln_V l D g Wd y (.code y bytes maxL ret) d' (.ref b :: As) σ post) (hP : va_P D ln_cl (Wd σ) H) (hD : va_D A (Wd σ)) (hS : va_S A s.heap H locs) (q0 : Nat) {ci : Nat} {r : vw_C} {fs : List Value} (he : (Wd σ)[q0]? = some (b, .inr (ci, fs))) (hc : ln_cl[ci]? = some r) (hl : Cond.methodLink own index y ∈ lw_tbl) (hY : ln_Y y bytes maxL n ret r.1) (hn : As.length = n) (hd : d' + 1 ≤ d) (hls : ls.size = nL) (hst : st = As.reverse ++ .ref b :: rest) (hr : (rest.map fun v => v.category).sum ≤ 8) (hdg : decode cc pc = .ok (.invokevirtual index, 3))
    (hf : cells ≤ R.cells ∧ slots ≤ R.slots) (kk : ∀ (τ : ln_S) (H1 : Heap) (locs1 : List Loc), post τ → va_P D ln_cl (Wd τ) H1 → va_D A (Wd τ) → va_S A s.heap H1 locs1 → W p l e R s m args below meth c H1 locs1 cells slots Q (F0 m (pc + 3) ls rest)) : W p l e R s m args below meth c H locs cells slots Q (F0 m pc ls st) := by
  have hfr : ∀ q, va_A (Wd σ) H.size q → A q := fun q h => by
    rcases h with ⟨k, e9, h⟩ | h
    · exact hD.2 k _ h
    · exact hA q (Nat.le_trans hS.1 h)
  refine va_callv (va_runV (Ts := []) (As := As) ⟨X.1, X.2.1, X.2.2.1, X.2.2.2.1, fun _ h => absurd h List.not_mem_nil⟩ (hM H.size) ⟨ln_cb X hY.2.2.1 hY.2.2.2.1 hY.2.2.2.2.1 hY.2.2.2.2.2 hd hl, X.ts args hY.1 rfl, X.ts args hY.2.1 rfl⟩ ⟨ln_blindU, va_recv X.2.2.2.2.1 hP hc he, fun U hU hW => ⟨rfl, by rw [hU], by rw [hU]; exact hP, hD.weaken (fun _ _ _ _ => trivial), va_K.moved hW.alike X.2.2.2.2.1, ln_G.warm hW X.2.2.2.2.2.1⟩⟩ rfl hn hls hst (lv_room hr) hdg hf) hS (fun q _ h => hfr q h) hfr (fun τ t H1 locs1 ht hvm hp hB hz hk hS1 => ?_)
  exact kk τ H1 locs1 hp (by rw [← ht]; exact hB) (had.D hD) hS1
theorem ln_vF (X : ln_X p R s m c cc nL own D g d) {Wd : ln_S → va_W} (had : ln_ad Wd) {σ : ln_S} {A : Nat → Prop} (hA : ∀ q, s.heap.size ≤ q → A q) {y : MethodName} {bytes : ByteArray} {maxL n index d' b ad : Nat} {ret : Option FieldType} {As : List Value} {post : ln_S → Prop} (hM : ln_F l D g Wd y (.code y bytes maxL ret) d' (.ref b :: As) σ ad post) (hP : va_P D ln_cl (Wd σ) H) (hD : va_D A (Wd σ)) (hS : va_S A s.heap H locs) (q0 : Nat) {ci : Nat} {r : vw_C} {fs : List Value} (he : (Wd σ)[q0]? = some (b, .inr (ci, fs))) (hc : ln_cl[ci]? = some r) (hl : Cond.methodLink own index y ∈ lw_tbl) (hY : ln_Y y bytes maxL n ret r.1) (hn : As.length = n) (hd : d' + 1 ≤ d) (hls : ls.size = nL) (hst : st = As.reverse ++ .ref b :: rest) (hr : (rest.map fun v => v.category).sum ≤ 8) (hdg : decode cc pc = .ok (.invokevirtual index, 3))
    (hf : cells ≤ R.cells ∧ slots ≤ R.slots) (kk : ∀ (τ : ln_S) (H1 : Heap) (locs1 : List Loc), post τ → va_P D ln_cl (Wd τ) H1 → va_D A (Wd τ) → va_S A s.heap H1 locs1 → W p l e R s m args below meth c H1 locs1 cells slots Q (F0 m (pc + 3) ls (.ref ad :: rest))) : W p l e R s m args below meth c H locs cells slots Q (F0 m pc ls st) := by
  have hfr : ∀ q, va_A (Wd σ) H.size q → A q := fun q h => by
    rcases h with ⟨k, e9, h⟩ | h
    · exact hD.2 k _ h
    · exact hA q (Nat.le_trans hS.1 h)
  refine va_callr (va_runV (Ts := []) (As := As) ⟨X.1, X.2.1, X.2.2.1, X.2.2.2.1, fun _ h => absurd h List.not_mem_nil⟩ (hM H.size) ⟨ln_cb X hY.2.2.1 hY.2.2.2.1 hY.2.2.2.2.1 hY.2.2.2.2.2 hd hl, X.ts args hY.1 rfl, X.ts args hY.2.1 rfl⟩ ⟨ln_blindU, va_recv X.2.2.2.2.1 hP hc he, fun U hU hW => ⟨rfl, by rw [hU], by rw [hU]; exact hP, hD.weaken (fun _ _ _ _ => trivial), va_K.moved hW.alike X.2.2.2.2.1, ln_G.warm hW X.2.2.2.2.2.1⟩⟩ rfl hn hls hst (lv_room hr) hdg hf) hS (fun q _ h => hfr q h) hfr (fun τ t a1 H1 locs1 ht hvm hp hB hz hk hS1 => ?_)
  obtain ⟨hB1, hB2⟩ := hB
  subst hB1
  exact kk τ H1 locs1 hp (by rw [← ht]; exact hB2) (had.D hD) hS1
/-- a reader's body -/
theorem ln_ofR {y : MethodName} {ret : Option FieldType} {ws : va_W} {av : List Value} {post : Int32 → Prop} (hy : plainName y.cls = true) (hlen : (lg_sl av).length ≤ nL)
    (body : ∀ (p : Program) (e : Env) (R : Room) (s : State) (m : MethodId) (args : Array Value) (below : List Frame) (meth : Method) (c : Code) (ls : Array Slot), meth.sig.returnType = ret → meth.locks = false → ln_X p R s m c cc nL y.cls D g d → va_P D ln_cl ws s.heap → lv_has ls nL (lv_args 0 av) →
      W p l e R s m args below meth c s.heap [] 0 0 (MQ below (vp_Si post) args s 0 0 (fun _ => False)) (F0 m 0 ls [])) : ln_R l D g ws y (.code y cc nL ret) d av post := by
  refine Met.ofW (cc := cc) (maxL := nL) (ret := ret) hy rfl ?_
  intro p e s m args below meth c s₁ B hml hv
  obtain ⟨rfl, hP, hK, hG⟩ := hv
  rw [lg_entry_eq]
  exact body p e _ s m _ below meth c _ B.returns B.notSynchronized ⟨B.exec, B.bytes, hml, findClass_of_methodNamed B.named, hK, hG, Nat.le_refl d, Nat.le_refl (60 * d)⟩ hP (lv_entry av hlen)
theorem ln_retR {post : Int32 → Prop} {v : Int32} {ty : FieldType} (X : ln_X p R s m c cc nL own D g d) (hr : meth.sig.returnType = some ty) (hlk : meth.locks = false) (hn : narrow ty (.int v) = .int v) (hp : post v) (hdg : decode cc pc = .ok (.ireturn, 1)) : W p l e R s m args below meth c s.heap [] 0 0 (MQ below (vp_Si post) args s 0 0 (fun _ => False)) (F0 m pc ls [.int v]) :=
  W.zret X.1 X.2.1 hr hn (fun t ht hW => ⟨v, rfl, hp, ht⟩) (fun q h => absurd h List.not_mem_nil) hdg hlk
theorem ln_ofU {y : MethodName} {ret : Option FieldType} {Wd : ln_S → va_W} {σ : ln_S} {av : List Value} {post : Int32 → ln_S → Prop} (hy : plainName y.cls = true) (hlen : (lg_sl av).length ≤ nL)
    (body : ∀ (p : Program) (e : Env) (R : Room) (s : State) (m : MethodId) (args : Array Value) (below : List Frame) (meth : Method) (c : Code) (ls : Array Slot) (A : Nat → Prop), meth.sig.returnType = ret → meth.locks = false → ln_X p R s m c cc nL y.cls D g d → (∀ q, s.heap.size ≤ q → A q) → va_P D ln_cl (Wd σ) s.heap → va_D A (Wd σ) → va_S A s.heap s.heap [] → lv_has ls nL (lv_args 0 av) →
      W p l e R s m args below meth c s.heap [] 0 0 (MQ below (va_Qi post (fun τ t => va_P D ln_cl (Wd τ) t.heap) A) args s 0 0 A) (F0 m 0 ls [])) : ln_U l D g Wd y (.code y cc nL ret) d av σ post := by
  intro sz
  refine Met.ofW (cc := cc) (maxL := nL) (ret := ret) hy rfl ?_
  intro p e s m args below meth c s₁ B hml hv
  obtain ⟨rfl, hsz, hP, hD, hK, hG⟩ := hv
  subst hsz
  rw [lg_entry_eq]
  exact body p e _ s m _ below meth c _ _ B.returns B.notSynchronized ⟨B.exec, B.bytes, hml, findClass_of_methodNamed B.named, hK, hG, Nat.le_refl d, Nat.le_refl (60 * d)⟩ (fun q h => Or.inr h) hP hD.self va_S.rf (lv_entry av hlen)
theorem ln_retU {Wd : ln_S → va_W} {τ : ln_S} {A : Nat → Prop} {post : Int32 → ln_S → Prop} {v : Int32} {ty : FieldType} (X : ln_X p R s m c cc nL own D g d) (hr : meth.sig.returnType = some ty) (hlk : meth.locks = false) (hP : va_P D ln_cl (Wd τ) H) (hS : va_S A s.heap H locs) (hn : narrow ty (.int v) = .int v) (hp : post v τ) (hdg : decode cc pc = .ok (.ireturn, 1)) : W p l e R s m args below meth c H locs 0 0 (MQ below (va_Qi post (fun τ t => va_P D ln_cl (Wd τ) t.heap) A) args s 0 0 A) (F0 m pc ls [.int v]) :=
  W.zret X.1 X.2.1 hr hn (fun t ht hW => ⟨⟨v, τ, rfl, hp, by show va_P D ln_cl (Wd τ) t.heap; rw [ht]; exact hP⟩, hS.F ht⟩) hS.2.2 hdg hlk
theorem ln_ofV {y : MethodName} {Wd : ln_S → va_W} {σ : ln_S} {av : List Value} {post : ln_S → Prop} (hy : plainName y.cls = true) (hlen : (lg_sl av).length ≤ nL)
    (body : ∀ (p : Program) (e : Env) (R : Room) (s : State) (m : MethodId) (args : Array Value) (below : List Frame) (meth : Method) (c : Code) (ls : Array Slot) (A : Nat → Prop), meth.sig.returnType = none → meth.locks = false → ln_X p R s m c cc nL y.cls D g d → (∀ q, s.heap.size ≤ q → A q) → va_P D ln_cl (Wd σ) s.heap → va_D A (Wd σ) → va_S A s.heap s.heap [] → lv_has ls nL (lv_args 0 av) →
      W p l e R s m args below meth c s.heap [] 0 0 (MQ below (va_Qv post (fun τ t => va_P D ln_cl (Wd τ) t.heap) A) args s 0 0 A) (F0 m 0 ls [])) : ln_V l D g Wd y (.code y cc nL none) d av σ post := by
  intro sz
  refine Met.ofW (cc := cc) (maxL := nL) (ret := none) hy rfl ?_
  intro p e s m args below meth c s₁ B hml hv
  obtain ⟨rfl, hsz, hP, hD, hK, hG⟩ := hv
  subst hsz
  rw [lg_entry_eq]
  exact body p e _ s m _ below meth c _ _ B.returns B.notSynchronized ⟨B.exec, B.bytes, hml, findClass_of_methodNamed B.named, hK, hG, Nat.le_refl d, Nat.le_refl (60 * d)⟩ (fun q h => Or.inr h) hP hD.self va_S.rf (lv_entry av hlen)
theorem ln_retV {Wd : ln_S → va_W} {τ : ln_S} {A : Nat → Prop} {post : ln_S → Prop} (X : ln_X p R s m c cc nL own D g d) (hr : meth.sig.returnType = none) (hlk : meth.locks = false) (hP : va_P D ln_cl (Wd τ) H) (hS : va_S A s.heap H locs) (hp : post τ) (hdg : decode cc pc = .ok (.return_, 1)) : W p l e R s m args below meth c H locs 0 0 (MQ below (va_Qv post (fun τ t => va_P D ln_cl (Wd τ) t.heap) A) args s 0 0 A) (F0 m pc ls []) :=
  W.vret X.1 X.2.1 hr (fun t ht hW => ⟨⟨τ, rfl, hp, by show va_P D ln_cl (Wd τ) t.heap; rw [ht]; exact hP⟩, hS.F ht⟩) hS.2.2 hdg hlk
theorem ln_ofF {y : MethodName} {ret : Option FieldType} {Wd : ln_S → va_W} {σ : ln_S} {av : List Value} {ad : Nat} {post : ln_S → Prop} (hy : plainName y.cls = true) (hlen : (lg_sl av).length ≤ nL)
    (body : ∀ (p : Program) (e : Env) (R : Room) (s : State) (m : MethodId) (args : Array Value) (below : List Frame) (meth : Method) (c : Code) (ls : Array Slot) (A : Nat → Prop), meth.sig.returnType = ret → meth.locks = false → ln_X p R s m c cc nL y.cls D g d → (∀ q, s.heap.size ≤ q → A q) → va_P D ln_cl (Wd σ) s.heap → va_D A (Wd σ) → va_S A s.heap s.heap [] → lv_has ls nL (lv_args 0 av) →
      W p l e R s m args below meth c s.heap [] 0 0 (MQ below (va_Qr post (fun τ a t => a = ad ∧ va_P D ln_cl (Wd τ) t.heap) A) args s 0 0 A) (F0 m 0 ls [])) : ln_F l D g Wd y (.code y cc nL ret) d av σ ad post := by
  intro sz
  refine Met.ofW (cc := cc) (maxL := nL) (ret := ret) hy rfl ?_
  intro p e s m args below meth c s₁ B hml hv
  obtain ⟨rfl, hsz, hP, hD, hK, hG⟩ := hv
  subst hsz
  rw [lg_entry_eq]
  exact body p e _ s m _ below meth c _ _ B.returns B.notSynchronized ⟨B.exec, B.bytes, hml, findClass_of_methodNamed B.named, hK, hG, Nat.le_refl d, Nat.le_refl (60 * d)⟩ (fun q h => Or.inr h) hP hD.self va_S.rf (lv_entry av hlen)
theorem ln_retF {Wd : ln_S → va_W} {τ : ln_S} {A : Nat → Prop} {ad : Nat} {post : ln_S → Prop} {ty : FieldType} (X : ln_X p R s m c cc nL own D g d) (hr : meth.sig.returnType = some (.array ty)) (hlk : meth.locks = false) (hP : va_P D ln_cl (Wd τ) H) (hS : va_S A s.heap H locs) (hp : post τ) (hdg : decode cc pc = .ok (.areturn, 1)) : W p l e R s m args below meth c H locs 0 0 (MQ below (va_Qr post (fun τ a t => a = ad ∧ va_P D ln_cl (Wd τ) t.heap) A) args s 0 0 A) (F0 m pc ls [.ref ad]) :=
  W.aret X.1 X.2.1 hr (Or.inr ⟨ty, rfl⟩) (Or.inr ⟨ad, rfl⟩) (fun t ht hW => ⟨⟨τ, ad, rfl, hp, rfl, by show va_P D ln_cl (Wd τ) t.heap; rw [ht]; exact hP⟩, hS.F ht⟩) hS.2.2 hdg hlk
end LNC
end
section
def CW (a : Nat → Nat) (g : Nat → ClassId) (σ : ln_S) : va_W := [(a 0, .inr (9, [.ref (a 1), .ref (a 7), .ref (a 10), .ref (a 12), .ref (a 13), .ref (a 17), .ref (a 19), .ref (a 20), .ref (a 22)])), (a 1, .inr (4, [.int (σ 1 0), .int (σ 1 1), .int (σ 1 2), .ref (a 2), .ref (a 3), .ref (a 4), .ref (a 5), .ref (a 6)])), (a 2, .inl (g 0, 12, .inl (σ 2))), (a 3, .inl (g 0, 12, .inl (σ 3))), (a 4, .inl (g 3, 12, .inr (.inr (.inr (.inr (fun i => if i < 12 then some (a (25 + i)) else none)))))), (a 5, .inl (g 0, 12, .inl (σ 5))), (a 6, .inl (g 0, 12, .inl (σ 6))), (a 7, .inr (6, [.ref (a 1), .ref (a 8), .ref (a 9)])), (a 8, .inl (g 3, 3, .inr (.inr (.inr (.inr (fun i => if i < 3 then some (a (37 + i)) else none)))))), (a 9, .inl (g 0, 3, .inl (σ 9))), (a 10, .inr (1, [.ref (a 1), .ref (a 7), .ref (a 11), .int (σ 10 0)])), (a 11, .inl (g 0, 14, .inl (σ 11))), (a 12, .inr (5, [.ref (a 1)])), (a 13, .inr (7, [.ref (a 1), .ref (a 7), .ref (a 14), .ref (a 15), .ref (a 16)])), (a 14, .inl (g 0, 4096, .inl (σ 14))), (a 15, .inl (g 0, 2, .inl (σ 15))), (a 16, .inl (g 0, 2, .inl (σ 16))), (a 17, .inr (0, [.ref (a 1), .ref (a 18), .int (σ 17 0)])), (a 18, .inl (g 0, 4096, .inl (σ 18))), (a 19, .inr (2, [.ref (a 1)])), (a 20, .inr (8, [.ref (a 1), .ref (a 21), .int (σ 20 0)])), (a 21, .inl (g 1, 4096, .inl (σ 21))), (a 22, .inr (3, [.ref (a 1), .ref (a 7), .ref (a 23), .ref (a 24)])), (a 23, .inl (g 4, 3, .inr (.inr (.inr (.inr (fun i => if i < 3 then some (a (40 + i)) else none)))))), (a 24, .inl (g 0, 3, .inl (σ 24))), (a 25, .inl (g 0, 12, .inl (σ 25))), (a 26, .inl (g 0, 12, .inl (σ 26))), (a 27, .inl (g 0, 12, .inl (σ 27))), (a 28, .inl (g 0, 12, .inl (σ 28))), (a 29, .inl (g 0, 12, .inl (σ 29))), (a 30, .inl (g 0, 12, .inl (σ 30))), (a 31, .inl (g 0, 12, .inl (σ 31))), (a 32, .inl (g 0, 12, .inl (σ 32))), (a 33, .inl (g 0, 12, .inl (σ 33))), (a 34, .inl (g 0, 12, .inl (σ 34))), (a 35, .inl (g 0, 12, .inl (σ 35))), (a 36, .inl (g 0, 12, .inl (σ 36))), (a 37, .inl (g 0, 4096, .inl (σ 37))), (a 38, .inl (g 0, 4096, .inl (σ 38))), (a 39, .inl (g 0, 4096, .inl (σ 39))), (a 40, .inl (g 2, 4096, .inl (σ 40))), (a 41, .inl (g 2, 4096, .inl (σ 41))), (a 42, .inl (g 2, 4096, .inl (σ 42)))]
theorem CW_ad (a : Nat → Nat) (g : Nat → ClassId) : ln_ad (CW a g) := by
  intro σ τ k q hk
  have h : ((CW a g σ).map Prod.fst)[k]? = some q.1 := by rw [List.getElem?_map, hk]; rfl
  have h2 : (CW a g σ).map Prod.fst = (CW a g τ).map Prod.fst := rfl
  rw [h2, List.getElem?_map] at h
  cases hq : (CW a g τ)[k]? with
  | none => rw [hq] at h; cases h
  | some r => rw [hq] at h; exact ⟨r.2, by rw [← Option.some.inj h]⟩
section LWCW
variable {p : Program} {l : Launch} {e : Env} {R : Room} {s : State} {m : MethodId} {args : Array Value} {below : List Frame} {meth : Method} {c : Code} {H : Heap} {locs : List Loc} {cells slots : Nat} {Q : State → Prop}
variable {cc : ByteArray} {nL : Nat} {own : String} {D : va_G} {g : Nat → ClassId} {d : Nat} {pc : Nat} {ls : Array Slot} {rest : List Value} {a : Nat → Nat} {σ : ln_S} {A : Nat → Prop} {H0 : Heap}

theorem gC_0_0 (X : ln_X p R s m c cc nL own D g d) (hP : va_P D ln_cl (CW a g σ) H) {index : Nat} (hlink : Cond.fieldLink own index "LampNet" "net" "LLampNet$Net;" ∈ lw_tbl) (hdg : decode cc pc = .ok (.getfield index, 3)) (kk : W p l e R s m args below meth c H locs cells slots Q (F0 m (pc + 3) ls (.ref (a 1) :: rest))) : W p l e R s m args below meth c H locs cells slots Q (F0 m pc ls (.ref (a 0) :: rest)) := ln_get X hP 0 rfl rfl kl_X9 0 (by decide) hlink rfl hdg kk
theorem gC_0_1 (X : ln_X p R s m c cc nL own D g d) (hP : va_P D ln_cl (CW a g σ) H) {index : Nat} (hlink : Cond.fieldLink own index "LampNet" "spread" "LLampNet$Spread;" ∈ lw_tbl) (hdg : decode cc pc = .ok (.getfield index, 3)) (kk : W p l e R s m args below meth c H locs cells slots Q (F0 m (pc + 3) ls (.ref (a 7) :: rest))) : W p l e R s m args below meth c H locs cells slots Q (F0 m pc ls (.ref (a 0) :: rest)) := ln_get X hP 0 rfl rfl kl_X9 1 (by decide) hlink rfl hdg kk
theorem gC_0_2 (X : ln_X p R s m c cc nL own D g d) (hP : va_P D ln_cl (CW a g σ) H) {index : Nat} (hlink : Cond.fieldLink own index "LampNet" "course" "LLampNet$Course;" ∈ lw_tbl) (hdg : decode cc pc = .ok (.getfield index, 3)) (kk : W p l e R s m args below meth c H locs cells slots Q (F0 m (pc + 3) ls (.ref (a 10) :: rest))) : W p l e R s m args below meth c H locs cells slots Q (F0 m pc ls (.ref (a 0) :: rest)) := ln_get X hP 0 rfl rfl kl_X9 2 (by decide) hlink rfl hdg kk
theorem gC_0_3 (X : ln_X p R s m c cc nL own D g d) (hP : va_P D ln_cl (CW a g σ) H) {index : Nat} (hlink : Cond.fieldLink own index "LampNet" "seeds" "LLampNet$Seeds;" ∈ lw_tbl) (hdg : decode cc pc = .ok (.getfield index, 3)) (kk : W p l e R s m args below meth c H locs cells slots Q (F0 m (pc + 3) ls (.ref (a 12) :: rest))) : W p l e R s m args below meth c H locs cells slots Q (F0 m pc ls (.ref (a 0) :: rest)) := ln_get X hP 0 rfl rfl kl_X9 3 (by decide) hlink rfl hdg kk
theorem gC_0_4 (X : ln_X p R s m c cc nL own D g d) (hP : va_P D ln_cl (CW a g σ) H) {index : Nat} (hlink : Cond.fieldLink own index "LampNet" "strongholds" "LLampNet$Strongholds;" ∈ lw_tbl) (hdg : decode cc pc = .ok (.getfield index, 3)) (kk : W p l e R s m args below meth c H locs cells slots Q (F0 m (pc + 3) ls (.ref (a 13) :: rest))) : W p l e R s m args below meth c H locs cells slots Q (F0 m pc ls (.ref (a 0) :: rest)) := ln_get X hP 0 rfl rfl kl_X9 4 (by decide) hlink rfl hdg kk
theorem gC_0_5 (X : ln_X p R s m c cc nL own D g d) (hP : va_P D ln_cl (CW a g σ) H) {index : Nat} (hlink : Cond.fieldLink own index "LampNet" "burning" "LLampNet$Burning;" ∈ lw_tbl) (hdg : decode cc pc = .ok (.getfield index, 3)) (kk : W p l e R s m args below meth c H locs cells slots Q (F0 m (pc + 3) ls (.ref (a 17) :: rest))) : W p l e R s m args below meth c H locs cells slots Q (F0 m pc ls (.ref (a 0) :: rest)) := ln_get X hP 0 rfl rfl kl_X9 5 (by decide) hlink rfl hdg kk
theorem gC_0_6 (X : ln_X p R s m c cc nL own D g d) (hP : va_P D ln_cl (CW a g σ) H) {index : Nat} (hlink : Cond.fieldLink own index "LampNet" "fires" "LLampNet$Fire;" ∈ lw_tbl) (hdg : decode cc pc = .ok (.getfield index, 3)) (kk : W p l e R s m args below meth c H locs cells slots Q (F0 m (pc + 3) ls (.ref (a 19) :: rest))) : W p l e R s m args below meth c H locs cells slots Q (F0 m pc ls (.ref (a 0) :: rest)) := ln_get X hP 0 rfl rfl kl_X9 6 (by decide) hlink rfl hdg kk
theorem gC_0_7 (X : ln_X p R s m c cc nL own D g d) (hP : va_P D ln_cl (CW a g σ) H) {index : Nat} (hlink : Cond.fieldLink own index "LampNet" "watch" "LLampNet$Watch;" ∈ lw_tbl) (hdg : decode cc pc = .ok (.getfield index, 3)) (kk : W p l e R s m args below meth c H locs cells slots Q (F0 m (pc + 3) ls (.ref (a 20) :: rest))) : W p l e R s m args below meth c H locs cells slots Q (F0 m pc ls (.ref (a 0) :: rest)) := ln_get X hP 0 rfl rfl kl_X9 7 (by decide) hlink rfl hdg kk
theorem gC_0_8 (X : ln_X p R s m c cc nL own D g d) (hP : va_P D ln_cl (CW a g σ) H) {index : Nat} (hlink : Cond.fieldLink own index "LampNet" "game" "LLampNet$Game;" ∈ lw_tbl) (hdg : decode cc pc = .ok (.getfield index, 3)) (kk : W p l e R s m args below meth c H locs cells slots Q (F0 m (pc + 3) ls (.ref (a 22) :: rest))) : W p l e R s m args below meth c H locs cells slots Q (F0 m pc ls (.ref (a 0) :: rest)) := ln_get X hP 0 rfl rfl kl_X9 8 (by decide) hlink rfl hdg kk
theorem gC_1_0 (X : ln_X p R s m c cc nL own D g d) (hP : va_P D ln_cl (CW a g σ) H) {v : Int32} (hv : σ 1 0 = v) {index : Nat} (hlink : Cond.fieldLink own index "LampNet$Net" "posts" "I" ∈ lw_tbl) (hdg : decode cc pc = .ok (.getfield index, 3)) (kk : W p l e R s m args below meth c H locs cells slots Q (F0 m (pc + 3) ls (.int v :: rest))) : W p l e R s m args below meth c H locs cells slots Q (F0 m pc ls (.ref (a 1) :: rest)) := by subst hv; exact ln_get X hP 1 rfl rfl kl_X4 0 (by decide) hlink rfl hdg kk
theorem nC_1_0 (X : ln_X p R s m c cc nL own D g d) (hP : va_P D ln_cl (CW a g σ) H) {v : Int32} (hv : σ 1 0 = v) {index : Nat} {host : String} (hlink : Cond.fieldLinkNest own index "LampNet$Net" "posts" "I" host ∈ lw_tbl) (hdg : decode cc pc = .ok (.getfield index, 3)) (kk : W p l e R s m args below meth c H locs cells slots Q (F0 m (pc + 3) ls (.int v :: rest))) : W p l e R s m args below meth c H locs cells slots Q (F0 m pc ls (.ref (a 1) :: rest)) := by subst hv; exact ln_getN X hP 1 rfl rfl kl_X4 0 (by decide) hlink rfl hdg kk
theorem pC_1_0 (X : ln_X p R s m c cc nL own D g d) (hP : va_P D ln_cl (CW a g σ) H) (hD : va_D A (CW a g σ)) (hS : va_S A H0 H locs) {index : Nat} {x : Int32} (hlink : Cond.fieldLink own index "LampNet$Net" "posts" "I" ∈ lw_tbl) (hdg : decode cc pc = .ok (.putfield index, 3)) (kk : ∀ (H1 : Heap) (locs1 : List Loc), va_P D ln_cl (CW a g (ln_up σ 1 (upd (σ 1) 0 x))) H1 → va_D A (CW a g (ln_up σ 1 (upd (σ 1) 0 x))) → va_S A H0 H1 locs1 → W p l e R s m args below meth c H1 locs1 cells slots Q (F0 m (pc + 3) ls rest)) : W p l e R s m args below meth c H locs cells slots Q (F0 m pc ls (.int x :: .ref (a 1) :: rest)) := ln_put X (Wd := CW a g) hP hD hS 1 rfl rfl kl_X4 tyX4 tyX4_ok nmX4 0 (by decide) hlink rfl rfl (Nat.le_of_ble_eq_true rfl) rfl hdg kk
theorem gC_1_1 (X : ln_X p R s m c cc nL own D g d) (hP : va_P D ln_cl (CW a g σ) H) {v : Int32} (hv : σ 1 1 = v) {index : Nat} (hlink : Cond.fieldLink own index "LampNet$Net" "roadsVersion" "I" ∈ lw_tbl) (hdg : decode cc pc = .ok (.getfield index, 3)) (kk : W p l e R s m args below meth c H locs cells slots Q (F0 m (pc + 3) ls (.int v :: rest))) : W p l e R s m args below meth c H locs cells slots Q (F0 m pc ls (.ref (a 1) :: rest)) := by subst hv; exact ln_get X hP 1 rfl rfl kl_X4 1 (by decide) hlink rfl hdg kk
theorem nC_1_1 (X : ln_X p R s m c cc nL own D g d) (hP : va_P D ln_cl (CW a g σ) H) {v : Int32} (hv : σ 1 1 = v) {index : Nat} {host : String} (hlink : Cond.fieldLinkNest own index "LampNet$Net" "roadsVersion" "I" host ∈ lw_tbl) (hdg : decode cc pc = .ok (.getfield index, 3)) (kk : W p l e R s m args below meth c H locs cells slots Q (F0 m (pc + 3) ls (.int v :: rest))) : W p l e R s m args below meth c H locs cells slots Q (F0 m pc ls (.ref (a 1) :: rest)) := by subst hv; exact ln_getN X hP 1 rfl rfl kl_X4 1 (by decide) hlink rfl hdg kk
theorem pC_1_1 (X : ln_X p R s m c cc nL own D g d) (hP : va_P D ln_cl (CW a g σ) H) (hD : va_D A (CW a g σ)) (hS : va_S A H0 H locs) {index : Nat} {x : Int32} (hlink : Cond.fieldLink own index "LampNet$Net" "roadsVersion" "I" ∈ lw_tbl) (hdg : decode cc pc = .ok (.putfield index, 3)) (kk : ∀ (H1 : Heap) (locs1 : List Loc), va_P D ln_cl (CW a g (ln_up σ 1 (upd (σ 1) 1 x))) H1 → va_D A (CW a g (ln_up σ 1 (upd (σ 1) 1 x))) → va_S A H0 H1 locs1 → W p l e R s m args below meth c H1 locs1 cells slots Q (F0 m (pc + 3) ls rest)) : W p l e R s m args below meth c H locs cells slots Q (F0 m pc ls (.int x :: .ref (a 1) :: rest)) := ln_put X (Wd := CW a g) hP hD hS 1 rfl rfl kl_X4 tyX4 tyX4_ok nmX4 1 (by decide) hlink rfl rfl (Nat.le_of_ble_eq_true rfl) rfl hdg kk
theorem gC_1_2 (X : ln_X p R s m c cc nL own D g d) (hP : va_P D ln_cl (CW a g σ) H) {v : Int32} (hv : σ 1 2 = v) {index : Nat} (hlink : Cond.fieldLink own index "LampNet$Net" "barsVersion" "I" ∈ lw_tbl) (hdg : decode cc pc = .ok (.getfield index, 3)) (kk : W p l e R s m args below meth c H locs cells slots Q (F0 m (pc + 3) ls (.int v :: rest))) : W p l e R s m args below meth c H locs cells slots Q (F0 m pc ls (.ref (a 1) :: rest)) := by subst hv; exact ln_get X hP 1 rfl rfl kl_X4 2 (by decide) hlink rfl hdg kk
theorem pC_1_2 (X : ln_X p R s m c cc nL own D g d) (hP : va_P D ln_cl (CW a g σ) H) (hD : va_D A (CW a g σ)) (hS : va_S A H0 H locs) {index : Nat} {x : Int32} (hlink : Cond.fieldLink own index "LampNet$Net" "barsVersion" "I" ∈ lw_tbl) (hdg : decode cc pc = .ok (.putfield index, 3)) (kk : ∀ (H1 : Heap) (locs1 : List Loc), va_P D ln_cl (CW a g (ln_up σ 1 (upd (σ 1) 2 x))) H1 → va_D A (CW a g (ln_up σ 1 (upd (σ 1) 2 x))) → va_S A H0 H1 locs1 → W p l e R s m args below meth c H1 locs1 cells slots Q (F0 m (pc + 3) ls rest)) : W p l e R s m args below meth c H locs cells slots Q (F0 m pc ls (.int x :: .ref (a 1) :: rest)) := ln_put X (Wd := CW a g) hP hD hS 1 rfl rfl kl_X4 tyX4 tyX4_ok nmX4 2 (by decide) hlink rfl rfl (Nat.le_of_ble_eq_true rfl) rfl hdg kk
theorem gC_1_3 (X : ln_X p R s m c cc nL own D g d) (hP : va_P D ln_cl (CW a g σ) H) {index : Nat} (hlink : Cond.fieldLink own index "LampNet$Net" "bars" "[I" ∈ lw_tbl) (hdg : decode cc pc = .ok (.getfield index, 3)) (kk : W p l e R s m args below meth c H locs cells slots Q (F0 m (pc + 3) ls (.ref (a 2) :: rest))) : W p l e R s m args below meth c H locs cells slots Q (F0 m pc ls (.ref (a 1) :: rest)) := ln_get X hP 1 rfl rfl kl_X4 3 (by decide) hlink rfl hdg kk
theorem nC_1_3 (X : ln_X p R s m c cc nL own D g d) (hP : va_P D ln_cl (CW a g σ) H) {index : Nat} {host : String} (hlink : Cond.fieldLinkNest own index "LampNet$Net" "bars" "[I" host ∈ lw_tbl) (hdg : decode cc pc = .ok (.getfield index, 3)) (kk : W p l e R s m args below meth c H locs cells slots Q (F0 m (pc + 3) ls (.ref (a 2) :: rest))) : W p l e R s m args below meth c H locs cells slots Q (F0 m pc ls (.ref (a 1) :: rest)) := ln_getN X hP 1 rfl rfl kl_X4 3 (by decide) hlink rfl hdg kk
theorem gC_1_4 (X : ln_X p R s m c cc nL own D g d) (hP : va_P D ln_cl (CW a g σ) H) {index : Nat} (hlink : Cond.fieldLink own index "LampNet$Net" "prices" "[I" ∈ lw_tbl) (hdg : decode cc pc = .ok (.getfield index, 3)) (kk : W p l e R s m args below meth c H locs cells slots Q (F0 m (pc + 3) ls (.ref (a 3) :: rest))) : W p l e R s m args below meth c H locs cells slots Q (F0 m pc ls (.ref (a 1) :: rest)) := ln_get X hP 1 rfl rfl kl_X4 4 (by decide) hlink rfl hdg kk
theorem nC_1_4 (X : ln_X p R s m c cc nL own D g d) (hP : va_P D ln_cl (CW a g σ) H) {index : Nat} {host : String} (hlink : Cond.fieldLinkNest own index "LampNet$Net" "prices" "[I" host ∈ lw_tbl) (hdg : decode cc pc = .ok (.getfield index, 3)) (kk : W p l e R s m args below meth c H locs cells slots Q (F0 m (pc + 3) ls (.ref (a 3) :: rest))) : W p l e R s m args below meth c H locs cells slots Q (F0 m pc ls (.ref (a 1) :: rest)) := ln_getN X hP 1 rfl rfl kl_X4 4 (by decide) hlink rfl hdg kk
theorem gC_1_5 (X : ln_X p R s m c cc nL own D g d) (hP : va_P D ln_cl (CW a g σ) H) {index : Nat} (hlink : Cond.fieldLink own index "LampNet$Net" "weights" "[[I" ∈ lw_tbl) (hdg : decode cc pc = .ok (.getfield index, 3)) (kk : W p l e R s m args below meth c H locs cells slots Q (F0 m (pc + 3) ls (.ref (a 4) :: rest))) : W p l e R s m args below meth c H locs cells slots Q (F0 m pc ls (.ref (a 1) :: rest)) := ln_get X hP 1 rfl rfl kl_X4 5 (by decide) hlink rfl hdg kk
theorem gC_1_6 (X : ln_X p R s m c cc nL own D g d) (hP : va_P D ln_cl (CW a g σ) H) {index : Nat} (hlink : Cond.fieldLink own index "LampNet$Net" "behind" "[I" ∈ lw_tbl) (hdg : decode cc pc = .ok (.getfield index, 3)) (kk : W p l e R s m args below meth c H locs cells slots Q (F0 m (pc + 3) ls (.ref (a 5) :: rest))) : W p l e R s m args below meth c H locs cells slots Q (F0 m pc ls (.ref (a 1) :: rest)) := ln_get X hP 1 rfl rfl kl_X4 6 (by decide) hlink rfl hdg kk
theorem nC_1_6 (X : ln_X p R s m c cc nL own D g d) (hP : va_P D ln_cl (CW a g σ) H) {index : Nat} {host : String} (hlink : Cond.fieldLinkNest own index "LampNet$Net" "behind" "[I" host ∈ lw_tbl) (hdg : decode cc pc = .ok (.getfield index, 3)) (kk : W p l e R s m args below meth c H locs cells slots Q (F0 m (pc + 3) ls (.ref (a 5) :: rest))) : W p l e R s m args below meth c H locs cells slots Q (F0 m pc ls (.ref (a 1) :: rest)) := ln_getN X hP 1 rfl rfl kl_X4 6 (by decide) hlink rfl hdg kk
theorem gC_1_7 (X : ln_X p R s m c cc nL own D g d) (hP : va_P D ln_cl (CW a g σ) H) {index : Nat} (hlink : Cond.fieldLink own index "LampNet$Net" "ahead" "[I" ∈ lw_tbl) (hdg : decode cc pc = .ok (.getfield index, 3)) (kk : W p l e R s m args below meth c H locs cells slots Q (F0 m (pc + 3) ls (.ref (a 6) :: rest))) : W p l e R s m args below meth c H locs cells slots Q (F0 m pc ls (.ref (a 1) :: rest)) := ln_get X hP 1 rfl rfl kl_X4 7 (by decide) hlink rfl hdg kk
theorem nC_1_7 (X : ln_X p R s m c cc nL own D g d) (hP : va_P D ln_cl (CW a g σ) H) {index : Nat} {host : String} (hlink : Cond.fieldLinkNest own index "LampNet$Net" "ahead" "[I" host ∈ lw_tbl) (hdg : decode cc pc = .ok (.getfield index, 3)) (kk : W p l e R s m args below meth c H locs cells slots Q (F0 m (pc + 3) ls (.ref (a 6) :: rest))) : W p l e R s m args below meth c H locs cells slots Q (F0 m pc ls (.ref (a 1) :: rest)) := ln_getN X hP 1 rfl rfl kl_X4 7 (by decide) hlink rfl hdg kk
theorem lC_2 (X : ln_X p R s m c cc nL own D g d) (hP : va_P D ln_cl (CW a g σ) H) {k : Nat} (hk : k < 12) {v : Int32} (hv : σ 2 k = v) (hdg : decode cc pc = .ok (.iaload, 1)) (kk : W p l e R s m args below meth c H locs cells slots Q (F0 m (pc + 1) ls (.int v :: rest))) : W p l e R s m args below meth c H locs cells slots Q (F0 m pc ls (.int (nI k) :: .ref (a 2) :: rest)) := ln_iald X hP 2 rfl hk (by decide) hv hdg kk
theorem sC_2 (X : ln_X p R s m c cc nL own D g d) (hP : va_P D ln_cl (CW a g σ) H) (hD : va_D A (CW a g σ)) (hS : va_S A H0 H locs) {k : Nat} (hk : k < 12) {x : Int32} (hdg : decode cc pc = .ok (.iastore, 1)) (kk : ∀ (H1 : Heap) (locs1 : List Loc), va_P D ln_cl (CW a g (ln_up σ 2 (upd (σ 2) k x))) H1 → va_D A (CW a g (ln_up σ 2 (upd (σ 2) k x))) → va_S A H0 H1 locs1 → W p l e R s m args below meth c H1 locs1 cells slots Q (F0 m (pc + 1) ls rest)) : W p l e R s m args below meth c H locs cells slots Q (F0 m pc ls (.int x :: .int (nI k) :: .ref (a 2) :: rest)) := ln_iast X (Wd := CW a g) hP hD hS 2 rfl hk (by decide) rfl hdg kk
theorem lC_3 (X : ln_X p R s m c cc nL own D g d) (hP : va_P D ln_cl (CW a g σ) H) {k : Nat} (hk : k < 12) {v : Int32} (hv : σ 3 k = v) (hdg : decode cc pc = .ok (.iaload, 1)) (kk : W p l e R s m args below meth c H locs cells slots Q (F0 m (pc + 1) ls (.int v :: rest))) : W p l e R s m args below meth c H locs cells slots Q (F0 m pc ls (.int (nI k) :: .ref (a 3) :: rest)) := ln_iald X hP 3 rfl hk (by decide) hv hdg kk
theorem sC_3 (X : ln_X p R s m c cc nL own D g d) (hP : va_P D ln_cl (CW a g σ) H) (hD : va_D A (CW a g σ)) (hS : va_S A H0 H locs) {k : Nat} (hk : k < 12) {x : Int32} (hdg : decode cc pc = .ok (.iastore, 1)) (kk : ∀ (H1 : Heap) (locs1 : List Loc), va_P D ln_cl (CW a g (ln_up σ 3 (upd (σ 3) k x))) H1 → va_D A (CW a g (ln_up σ 3 (upd (σ 3) k x))) → va_S A H0 H1 locs1 → W p l e R s m args below meth c H1 locs1 cells slots Q (F0 m (pc + 1) ls rest)) : W p l e R s m args below meth c H locs cells slots Q (F0 m pc ls (.int x :: .int (nI k) :: .ref (a 3) :: rest)) := ln_iast X (Wd := CW a g) hP hD hS 3 rfl hk (by decide) rfl hdg kk
theorem oC_4 (X : ln_X p R s m c cc nL own D g d) (hP : va_P D ln_cl (CW a g σ) H) {k : Nat} (hk : k < 12) (hdg : decode cc pc = .ok (.aaload, 1)) (kk : W p l e R s m args below meth c H locs cells slots Q (F0 m (pc + 1) ls (.ref (a (25 + k)) :: rest))) : W p l e R s m args below meth c H locs cells slots Q (F0 m pc ls (.int (nI k) :: .ref (a 4) :: rest)) := ln_aald X hP 4 3 rfl rfl rfl hk (by decide) (if_pos hk) hdg kk
theorem lC_5 (X : ln_X p R s m c cc nL own D g d) (hP : va_P D ln_cl (CW a g σ) H) {k : Nat} (hk : k < 12) {v : Int32} (hv : σ 5 k = v) (hdg : decode cc pc = .ok (.iaload, 1)) (kk : W p l e R s m args below meth c H locs cells slots Q (F0 m (pc + 1) ls (.int v :: rest))) : W p l e R s m args below meth c H locs cells slots Q (F0 m pc ls (.int (nI k) :: .ref (a 5) :: rest)) := ln_iald X hP 5 rfl hk (by decide) hv hdg kk
theorem sC_5 (X : ln_X p R s m c cc nL own D g d) (hP : va_P D ln_cl (CW a g σ) H) (hD : va_D A (CW a g σ)) (hS : va_S A H0 H locs) {k : Nat} (hk : k < 12) {x : Int32} (hdg : decode cc pc = .ok (.iastore, 1)) (kk : ∀ (H1 : Heap) (locs1 : List Loc), va_P D ln_cl (CW a g (ln_up σ 5 (upd (σ 5) k x))) H1 → va_D A (CW a g (ln_up σ 5 (upd (σ 5) k x))) → va_S A H0 H1 locs1 → W p l e R s m args below meth c H1 locs1 cells slots Q (F0 m (pc + 1) ls rest)) : W p l e R s m args below meth c H locs cells slots Q (F0 m pc ls (.int x :: .int (nI k) :: .ref (a 5) :: rest)) := ln_iast X (Wd := CW a g) hP hD hS 5 rfl hk (by decide) rfl hdg kk
theorem lC_6 (X : ln_X p R s m c cc nL own D g d) (hP : va_P D ln_cl (CW a g σ) H) {k : Nat} (hk : k < 12) {v : Int32} (hv : σ 6 k = v) (hdg : decode cc pc = .ok (.iaload, 1)) (kk : W p l e R s m args below meth c H locs cells slots Q (F0 m (pc + 1) ls (.int v :: rest))) : W p l e R s m args below meth c H locs cells slots Q (F0 m pc ls (.int (nI k) :: .ref (a 6) :: rest)) := ln_iald X hP 6 rfl hk (by decide) hv hdg kk
theorem sC_6 (X : ln_X p R s m c cc nL own D g d) (hP : va_P D ln_cl (CW a g σ) H) (hD : va_D A (CW a g σ)) (hS : va_S A H0 H locs) {k : Nat} (hk : k < 12) {x : Int32} (hdg : decode cc pc = .ok (.iastore, 1)) (kk : ∀ (H1 : Heap) (locs1 : List Loc), va_P D ln_cl (CW a g (ln_up σ 6 (upd (σ 6) k x))) H1 → va_D A (CW a g (ln_up σ 6 (upd (σ 6) k x))) → va_S A H0 H1 locs1 → W p l e R s m args below meth c H1 locs1 cells slots Q (F0 m (pc + 1) ls rest)) : W p l e R s m args below meth c H locs cells slots Q (F0 m pc ls (.int x :: .int (nI k) :: .ref (a 6) :: rest)) := ln_iast X (Wd := CW a g) hP hD hS 6 rfl hk (by decide) rfl hdg kk
theorem gC_7_0 (X : ln_X p R s m c cc nL own D g d) (hP : va_P D ln_cl (CW a g σ) H) {index : Nat} (hlink : Cond.fieldLink own index "LampNet$Spread" "net" "LLampNet$Net;" ∈ lw_tbl) (hdg : decode cc pc = .ok (.getfield index, 3)) (kk : W p l e R s m args below meth c H locs cells slots Q (F0 m (pc + 3) ls (.ref (a 1) :: rest))) : W p l e R s m args below meth c H locs cells slots Q (F0 m pc ls (.ref (a 7) :: rest)) := ln_get X hP 7 rfl rfl kl_X6 0 (by decide) hlink rfl hdg kk
theorem gC_7_1 (X : ln_X p R s m c cc nL own D g d) (hP : va_P D ln_cl (CW a g σ) H) {index : Nat} (hlink : Cond.fieldLink own index "LampNet$Spread" "ends" "[[I" ∈ lw_tbl) (hdg : decode cc pc = .ok (.getfield index, 3)) (kk : W p l e R s m args below meth c H locs cells slots Q (F0 m (pc + 3) ls (.ref (a 8) :: rest))) : W p l e R s m args below meth c H locs cells slots Q (F0 m pc ls (.ref (a 7) :: rest)) := ln_get X hP 7 rfl rfl kl_X6 1 (by decide) hlink rfl hdg kk
theorem gC_7_2 (X : ln_X p R s m c cc nL own D g d) (hP : va_P D ln_cl (CW a g σ) H) {index : Nat} (hlink : Cond.fieldLink own index "LampNet$Spread" "endsVersion" "[I" ∈ lw_tbl) (hdg : decode cc pc = .ok (.getfield index, 3)) (kk : W p l e R s m args below meth c H locs cells slots Q (F0 m (pc + 3) ls (.ref (a 9) :: rest))) : W p l e R s m args below meth c H locs cells slots Q (F0 m pc ls (.ref (a 7) :: rest)) := ln_get X hP 7 rfl rfl kl_X6 2 (by decide) hlink rfl hdg kk
theorem oC_8 (X : ln_X p R s m c cc nL own D g d) (hP : va_P D ln_cl (CW a g σ) H) {k : Nat} (hk : k < 3) (hdg : decode cc pc = .ok (.aaload, 1)) (kk : W p l e R s m args below meth c H locs cells slots Q (F0 m (pc + 1) ls (.ref (a (37 + k)) :: rest))) : W p l e R s m args below meth c H locs cells slots Q (F0 m pc ls (.int (nI k) :: .ref (a 8) :: rest)) := ln_aald X hP 8 3 rfl rfl rfl hk (by decide) (if_pos hk) hdg kk
theorem lC_9 (X : ln_X p R s m c cc nL own D g d) (hP : va_P D ln_cl (CW a g σ) H) {k : Nat} (hk : k < 3) {v : Int32} (hv : σ 9 k = v) (hdg : decode cc pc = .ok (.iaload, 1)) (kk : W p l e R s m args below meth c H locs cells slots Q (F0 m (pc + 1) ls (.int v :: rest))) : W p l e R s m args below meth c H locs cells slots Q (F0 m pc ls (.int (nI k) :: .ref (a 9) :: rest)) := ln_iald X hP 9 rfl hk (by decide) hv hdg kk
theorem sC_9 (X : ln_X p R s m c cc nL own D g d) (hP : va_P D ln_cl (CW a g σ) H) (hD : va_D A (CW a g σ)) (hS : va_S A H0 H locs) {k : Nat} (hk : k < 3) {x : Int32} (hdg : decode cc pc = .ok (.iastore, 1)) (kk : ∀ (H1 : Heap) (locs1 : List Loc), va_P D ln_cl (CW a g (ln_up σ 9 (upd (σ 9) k x))) H1 → va_D A (CW a g (ln_up σ 9 (upd (σ 9) k x))) → va_S A H0 H1 locs1 → W p l e R s m args below meth c H1 locs1 cells slots Q (F0 m (pc + 1) ls rest)) : W p l e R s m args below meth c H locs cells slots Q (F0 m pc ls (.int x :: .int (nI k) :: .ref (a 9) :: rest)) := ln_iast X (Wd := CW a g) hP hD hS 9 rfl hk (by decide) rfl hdg kk
theorem gC_10_0 (X : ln_X p R s m c cc nL own D g d) (hP : va_P D ln_cl (CW a g σ) H) {index : Nat} (hlink : Cond.fieldLink own index "LampNet$Course" "net" "LLampNet$Net;" ∈ lw_tbl) (hdg : decode cc pc = .ok (.getfield index, 3)) (kk : W p l e R s m args below meth c H locs cells slots Q (F0 m (pc + 3) ls (.ref (a 1) :: rest))) : W p l e R s m args below meth c H locs cells slots Q (F0 m pc ls (.ref (a 10) :: rest)) := ln_get X hP 10 rfl rfl kl_X1 0 (by decide) hlink rfl hdg kk
theorem gC_10_1 (X : ln_X p R s m c cc nL own D g d) (hP : va_P D ln_cl (CW a g σ) H) {index : Nat} (hlink : Cond.fieldLink own index "LampNet$Course" "spread" "LLampNet$Spread;" ∈ lw_tbl) (hdg : decode cc pc = .ok (.getfield index, 3)) (kk : W p l e R s m args below meth c H locs cells slots Q (F0 m (pc + 3) ls (.ref (a 7) :: rest))) : W p l e R s m args below meth c H locs cells slots Q (F0 m pc ls (.ref (a 10) :: rest)) := ln_get X hP 10 rfl rfl kl_X1 1 (by decide) hlink rfl hdg kk
theorem gC_10_2 (X : ln_X p R s m c cc nL own D g d) (hP : va_P D ln_cl (CW a g σ) H) {index : Nat} (hlink : Cond.fieldLink own index "LampNet$Course" "onAt" "[I" ∈ lw_tbl) (hdg : decode cc pc = .ok (.getfield index, 3)) (kk : W p l e R s m args below meth c H locs cells slots Q (F0 m (pc + 3) ls (.ref (a 11) :: rest))) : W p l e R s m args below meth c H locs cells slots Q (F0 m pc ls (.ref (a 10) :: rest)) := ln_get X hP 10 rfl rfl kl_X1 2 (by decide) hlink rfl hdg kk
theorem gC_10_3 (X : ln_X p R s m c cc nL own D g d) (hP : va_P D ln_cl (CW a g σ) H) {v : Int32} (hv : σ 10 0 = v) {index : Nat} (hlink : Cond.fieldLink own index "LampNet$Course" "end" "I" ∈ lw_tbl) (hdg : decode cc pc = .ok (.getfield index, 3)) (kk : W p l e R s m args below meth c H locs cells slots Q (F0 m (pc + 3) ls (.int v :: rest))) : W p l e R s m args below meth c H locs cells slots Q (F0 m pc ls (.ref (a 10) :: rest)) := by subst hv; exact ln_get X hP 10 rfl rfl kl_X1 3 (by decide) hlink rfl hdg kk
theorem nC_10_3 (X : ln_X p R s m c cc nL own D g d) (hP : va_P D ln_cl (CW a g σ) H) {v : Int32} (hv : σ 10 0 = v) {index : Nat} {host : String} (hlink : Cond.fieldLinkNest own index "LampNet$Course" "end" "I" host ∈ lw_tbl) (hdg : decode cc pc = .ok (.getfield index, 3)) (kk : W p l e R s m args below meth c H locs cells slots Q (F0 m (pc + 3) ls (.int v :: rest))) : W p l e R s m args below meth c H locs cells slots Q (F0 m pc ls (.ref (a 10) :: rest)) := by subst hv; exact ln_getN X hP 10 rfl rfl kl_X1 3 (by decide) hlink rfl hdg kk
theorem pC_10_3 (X : ln_X p R s m c cc nL own D g d) (hP : va_P D ln_cl (CW a g σ) H) (hD : va_D A (CW a g σ)) (hS : va_S A H0 H locs) {index : Nat} {x : Int32} (hlink : Cond.fieldLink own index "LampNet$Course" "end" "I" ∈ lw_tbl) (hdg : decode cc pc = .ok (.putfield index, 3)) (kk : ∀ (H1 : Heap) (locs1 : List Loc), va_P D ln_cl (CW a g (ln_up σ 10 (upd (σ 10) 0 x))) H1 → va_D A (CW a g (ln_up σ 10 (upd (σ 10) 0 x))) → va_S A H0 H1 locs1 → W p l e R s m args below meth c H1 locs1 cells slots Q (F0 m (pc + 3) ls rest)) : W p l e R s m args below meth c H locs cells slots Q (F0 m pc ls (.int x :: .ref (a 10) :: rest)) := ln_put X (Wd := CW a g) hP hD hS 10 rfl rfl kl_X1 tyX1 tyX1_ok nmX1 3 (by decide) hlink rfl rfl (Nat.le_of_ble_eq_true rfl) rfl hdg kk
theorem lC_11 (X : ln_X p R s m c cc nL own D g d) (hP : va_P D ln_cl (CW a g σ) H) {k : Nat} (hk : k < 14) {v : Int32} (hv : σ 11 k = v) (hdg : decode cc pc = .ok (.iaload, 1)) (kk : W p l e R s m args below meth c H locs cells slots Q (F0 m (pc + 1) ls (.int v :: rest))) : W p l e R s m args below meth c H locs cells slots Q (F0 m pc ls (.int (nI k) :: .ref (a 11) :: rest)) := ln_iald X hP 11 rfl hk (by decide) hv hdg kk
theorem sC_11 (X : ln_X p R s m c cc nL own D g d) (hP : va_P D ln_cl (CW a g σ) H) (hD : va_D A (CW a g σ)) (hS : va_S A H0 H locs) {k : Nat} (hk : k < 14) {x : Int32} (hdg : decode cc pc = .ok (.iastore, 1)) (kk : ∀ (H1 : Heap) (locs1 : List Loc), va_P D ln_cl (CW a g (ln_up σ 11 (upd (σ 11) k x))) H1 → va_D A (CW a g (ln_up σ 11 (upd (σ 11) k x))) → va_S A H0 H1 locs1 → W p l e R s m args below meth c H1 locs1 cells slots Q (F0 m (pc + 1) ls rest)) : W p l e R s m args below meth c H locs cells slots Q (F0 m pc ls (.int x :: .int (nI k) :: .ref (a 11) :: rest)) := ln_iast X (Wd := CW a g) hP hD hS 11 rfl hk (by decide) rfl hdg kk
theorem gC_12_0 (X : ln_X p R s m c cc nL own D g d) (hP : va_P D ln_cl (CW a g σ) H) {index : Nat} (hlink : Cond.fieldLink own index "LampNet$Seeds" "net" "LLampNet$Net;" ∈ lw_tbl) (hdg : decode cc pc = .ok (.getfield index, 3)) (kk : W p l e R s m args below meth c H locs cells slots Q (F0 m (pc + 3) ls (.ref (a 1) :: rest))) : W p l e R s m args below meth c H locs cells slots Q (F0 m pc ls (.ref (a 12) :: rest)) := ln_get X hP 12 rfl rfl kl_X5 0 (by decide) hlink rfl hdg kk
theorem gC_13_0 (X : ln_X p R s m c cc nL own D g d) (hP : va_P D ln_cl (CW a g σ) H) {index : Nat} (hlink : Cond.fieldLink own index "LampNet$Strongholds" "net" "LLampNet$Net;" ∈ lw_tbl) (hdg : decode cc pc = .ok (.getfield index, 3)) (kk : W p l e R s m args below meth c H locs cells slots Q (F0 m (pc + 3) ls (.ref (a 1) :: rest))) : W p l e R s m args below meth c H locs cells slots Q (F0 m pc ls (.ref (a 13) :: rest)) := ln_get X hP 13 rfl rfl kl_X7 0 (by decide) hlink rfl hdg kk
theorem gC_13_1 (X : ln_X p R s m c cc nL own D g d) (hP : va_P D ln_cl (CW a g σ) H) {index : Nat} (hlink : Cond.fieldLink own index "LampNet$Strongholds" "spread" "LLampNet$Spread;" ∈ lw_tbl) (hdg : decode cc pc = .ok (.getfield index, 3)) (kk : W p l e R s m args below meth c H locs cells slots Q (F0 m (pc + 3) ls (.ref (a 7) :: rest))) : W p l e R s m args below meth c H locs cells slots Q (F0 m pc ls (.ref (a 13) :: rest)) := ln_get X hP 13 rfl rfl kl_X7 1 (by decide) hlink rfl hdg kk
theorem gC_13_2 (X : ln_X p R s m c cc nL own D g d) (hP : va_P D ln_cl (CW a g σ) H) {index : Nat} (hlink : Cond.fieldLink own index "LampNet$Strongholds" "most" "[I" ∈ lw_tbl) (hdg : decode cc pc = .ok (.getfield index, 3)) (kk : W p l e R s m args below meth c H locs cells slots Q (F0 m (pc + 3) ls (.ref (a 14) :: rest))) : W p l e R s m args below meth c H locs cells slots Q (F0 m pc ls (.ref (a 13) :: rest)) := ln_get X hP 13 rfl rfl kl_X7 2 (by decide) hlink rfl hdg kk
theorem gC_13_3 (X : ln_X p R s m c cc nL own D g d) (hP : va_P D ln_cl (CW a g σ) H) {index : Nat} (hlink : Cond.fieldLink own index "LampNet$Strongholds" "mostOfAll" "[I" ∈ lw_tbl) (hdg : decode cc pc = .ok (.getfield index, 3)) (kk : W p l e R s m args below meth c H locs cells slots Q (F0 m (pc + 3) ls (.ref (a 15) :: rest))) : W p l e R s m args below meth c H locs cells slots Q (F0 m pc ls (.ref (a 13) :: rest)) := ln_get X hP 13 rfl rfl kl_X7 3 (by decide) hlink rfl hdg kk
theorem gC_13_4 (X : ln_X p R s m c cc nL own D g d) (hP : va_P D ln_cl (CW a g σ) H) {index : Nat} (hlink : Cond.fieldLink own index "LampNet$Strongholds" "mostVersion" "[I" ∈ lw_tbl) (hdg : decode cc pc = .ok (.getfield index, 3)) (kk : W p l e R s m args below meth c H locs cells slots Q (F0 m (pc + 3) ls (.ref (a 16) :: rest))) : W p l e R s m args below meth c H locs cells slots Q (F0 m pc ls (.ref (a 13) :: rest)) := ln_get X hP 13 rfl rfl kl_X7 4 (by decide) hlink rfl hdg kk
theorem lC_14 (X : ln_X p R s m c cc nL own D g d) (hP : va_P D ln_cl (CW a g σ) H) {k : Nat} (hk : k < 4096) {v : Int32} (hv : σ 14 k = v) (hdg : decode cc pc = .ok (.iaload, 1)) (kk : W p l e R s m args below meth c H locs cells slots Q (F0 m (pc + 1) ls (.int v :: rest))) : W p l e R s m args below meth c H locs cells slots Q (F0 m pc ls (.int (nI k) :: .ref (a 14) :: rest)) := ln_iald X hP 14 rfl hk (by decide) hv hdg kk
theorem sC_14 (X : ln_X p R s m c cc nL own D g d) (hP : va_P D ln_cl (CW a g σ) H) (hD : va_D A (CW a g σ)) (hS : va_S A H0 H locs) {k : Nat} (hk : k < 4096) {x : Int32} (hdg : decode cc pc = .ok (.iastore, 1)) (kk : ∀ (H1 : Heap) (locs1 : List Loc), va_P D ln_cl (CW a g (ln_up σ 14 (upd (σ 14) k x))) H1 → va_D A (CW a g (ln_up σ 14 (upd (σ 14) k x))) → va_S A H0 H1 locs1 → W p l e R s m args below meth c H1 locs1 cells slots Q (F0 m (pc + 1) ls rest)) : W p l e R s m args below meth c H locs cells slots Q (F0 m pc ls (.int x :: .int (nI k) :: .ref (a 14) :: rest)) := ln_iast X (Wd := CW a g) hP hD hS 14 rfl hk (by decide) rfl hdg kk
theorem lC_15 (X : ln_X p R s m c cc nL own D g d) (hP : va_P D ln_cl (CW a g σ) H) {k : Nat} (hk : k < 2) {v : Int32} (hv : σ 15 k = v) (hdg : decode cc pc = .ok (.iaload, 1)) (kk : W p l e R s m args below meth c H locs cells slots Q (F0 m (pc + 1) ls (.int v :: rest))) : W p l e R s m args below meth c H locs cells slots Q (F0 m pc ls (.int (nI k) :: .ref (a 15) :: rest)) := ln_iald X hP 15 rfl hk (by decide) hv hdg kk
theorem sC_15 (X : ln_X p R s m c cc nL own D g d) (hP : va_P D ln_cl (CW a g σ) H) (hD : va_D A (CW a g σ)) (hS : va_S A H0 H locs) {k : Nat} (hk : k < 2) {x : Int32} (hdg : decode cc pc = .ok (.iastore, 1)) (kk : ∀ (H1 : Heap) (locs1 : List Loc), va_P D ln_cl (CW a g (ln_up σ 15 (upd (σ 15) k x))) H1 → va_D A (CW a g (ln_up σ 15 (upd (σ 15) k x))) → va_S A H0 H1 locs1 → W p l e R s m args below meth c H1 locs1 cells slots Q (F0 m (pc + 1) ls rest)) : W p l e R s m args below meth c H locs cells slots Q (F0 m pc ls (.int x :: .int (nI k) :: .ref (a 15) :: rest)) := ln_iast X (Wd := CW a g) hP hD hS 15 rfl hk (by decide) rfl hdg kk
theorem lC_16 (X : ln_X p R s m c cc nL own D g d) (hP : va_P D ln_cl (CW a g σ) H) {k : Nat} (hk : k < 2) {v : Int32} (hv : σ 16 k = v) (hdg : decode cc pc = .ok (.iaload, 1)) (kk : W p l e R s m args below meth c H locs cells slots Q (F0 m (pc + 1) ls (.int v :: rest))) : W p l e R s m args below meth c H locs cells slots Q (F0 m pc ls (.int (nI k) :: .ref (a 16) :: rest)) := ln_iald X hP 16 rfl hk (by decide) hv hdg kk
theorem sC_16 (X : ln_X p R s m c cc nL own D g d) (hP : va_P D ln_cl (CW a g σ) H) (hD : va_D A (CW a g σ)) (hS : va_S A H0 H locs) {k : Nat} (hk : k < 2) {x : Int32} (hdg : decode cc pc = .ok (.iastore, 1)) (kk : ∀ (H1 : Heap) (locs1 : List Loc), va_P D ln_cl (CW a g (ln_up σ 16 (upd (σ 16) k x))) H1 → va_D A (CW a g (ln_up σ 16 (upd (σ 16) k x))) → va_S A H0 H1 locs1 → W p l e R s m args below meth c H1 locs1 cells slots Q (F0 m (pc + 1) ls rest)) : W p l e R s m args below meth c H locs cells slots Q (F0 m pc ls (.int x :: .int (nI k) :: .ref (a 16) :: rest)) := ln_iast X (Wd := CW a g) hP hD hS 16 rfl hk (by decide) rfl hdg kk
theorem gC_17_0 (X : ln_X p R s m c cc nL own D g d) (hP : va_P D ln_cl (CW a g σ) H) {index : Nat} (hlink : Cond.fieldLink own index "LampNet$Burning" "net" "LLampNet$Net;" ∈ lw_tbl) (hdg : decode cc pc = .ok (.getfield index, 3)) (kk : W p l e R s m args below meth c H locs cells slots Q (F0 m (pc + 3) ls (.ref (a 1) :: rest))) : W p l e R s m args below meth c H locs cells slots Q (F0 m pc ls (.ref (a 17) :: rest)) := ln_get X hP 17 rfl rfl kl_X0 0 (by decide) hlink rfl hdg kk
theorem gC_17_1 (X : ln_X p R s m c cc nL own D g d) (hP : va_P D ln_cl (CW a g σ) H) {index : Nat} (hlink : Cond.fieldLink own index "LampNet$Burning" "ticksLeft" "[I" ∈ lw_tbl) (hdg : decode cc pc = .ok (.getfield index, 3)) (kk : W p l e R s m args below meth c H locs cells slots Q (F0 m (pc + 3) ls (.ref (a 18) :: rest))) : W p l e R s m args below meth c H locs cells slots Q (F0 m pc ls (.ref (a 17) :: rest)) := ln_get X hP 17 rfl rfl kl_X0 1 (by decide) hlink rfl hdg kk
theorem gC_17_2 (X : ln_X p R s m c cc nL own D g d) (hP : va_P D ln_cl (CW a g σ) H) {v : Int32} (hv : σ 17 0 = v) {index : Nat} (hlink : Cond.fieldLink own index "LampNet$Burning" "ticksVersion" "I" ∈ lw_tbl) (hdg : decode cc pc = .ok (.getfield index, 3)) (kk : W p l e R s m args below meth c H locs cells slots Q (F0 m (pc + 3) ls (.int v :: rest))) : W p l e R s m args below meth c H locs cells slots Q (F0 m pc ls (.ref (a 17) :: rest)) := by subst hv; exact ln_get X hP 17 rfl rfl kl_X0 2 (by decide) hlink rfl hdg kk
theorem pC_17_2 (X : ln_X p R s m c cc nL own D g d) (hP : va_P D ln_cl (CW a g σ) H) (hD : va_D A (CW a g σ)) (hS : va_S A H0 H locs) {index : Nat} {x : Int32} (hlink : Cond.fieldLink own index "LampNet$Burning" "ticksVersion" "I" ∈ lw_tbl) (hdg : decode cc pc = .ok (.putfield index, 3)) (kk : ∀ (H1 : Heap) (locs1 : List Loc), va_P D ln_cl (CW a g (ln_up σ 17 (upd (σ 17) 0 x))) H1 → va_D A (CW a g (ln_up σ 17 (upd (σ 17) 0 x))) → va_S A H0 H1 locs1 → W p l e R s m args below meth c H1 locs1 cells slots Q (F0 m (pc + 3) ls rest)) : W p l e R s m args below meth c H locs cells slots Q (F0 m pc ls (.int x :: .ref (a 17) :: rest)) := ln_put X (Wd := CW a g) hP hD hS 17 rfl rfl kl_X0 tyX0 tyX0_ok nmX0 2 (by decide) hlink rfl rfl (Nat.le_of_ble_eq_true rfl) rfl hdg kk
theorem lC_18 (X : ln_X p R s m c cc nL own D g d) (hP : va_P D ln_cl (CW a g σ) H) {k : Nat} (hk : k < 4096) {v : Int32} (hv : σ 18 k = v) (hdg : decode cc pc = .ok (.iaload, 1)) (kk : W p l e R s m args below meth c H locs cells slots Q (F0 m (pc + 1) ls (.int v :: rest))) : W p l e R s m args below meth c H locs cells slots Q (F0 m pc ls (.int (nI k) :: .ref (a 18) :: rest)) := ln_iald X hP 18 rfl hk (by decide) hv hdg kk
theorem sC_18 (X : ln_X p R s m c cc nL own D g d) (hP : va_P D ln_cl (CW a g σ) H) (hD : va_D A (CW a g σ)) (hS : va_S A H0 H locs) {k : Nat} (hk : k < 4096) {x : Int32} (hdg : decode cc pc = .ok (.iastore, 1)) (kk : ∀ (H1 : Heap) (locs1 : List Loc), va_P D ln_cl (CW a g (ln_up σ 18 (upd (σ 18) k x))) H1 → va_D A (CW a g (ln_up σ 18 (upd (σ 18) k x))) → va_S A H0 H1 locs1 → W p l e R s m args below meth c H1 locs1 cells slots Q (F0 m (pc + 1) ls rest)) : W p l e R s m args below meth c H locs cells slots Q (F0 m pc ls (.int x :: .int (nI k) :: .ref (a 18) :: rest)) := ln_iast X (Wd := CW a g) hP hD hS 18 rfl hk (by decide) rfl hdg kk
theorem gC_19_0 (X : ln_X p R s m c cc nL own D g d) (hP : va_P D ln_cl (CW a g σ) H) {index : Nat} (hlink : Cond.fieldLink own index "LampNet$Fire" "net" "LLampNet$Net;" ∈ lw_tbl) (hdg : decode cc pc = .ok (.getfield index, 3)) (kk : W p l e R s m args below meth c H locs cells slots Q (F0 m (pc + 3) ls (.ref (a 1) :: rest))) : W p l e R s m args below meth c H locs cells slots Q (F0 m pc ls (.ref (a 19) :: rest)) := ln_get X hP 19 rfl rfl kl_X2 0 (by decide) hlink rfl hdg kk
theorem gC_20_0 (X : ln_X p R s m c cc nL own D g d) (hP : va_P D ln_cl (CW a g σ) H) {index : Nat} (hlink : Cond.fieldLink own index "LampNet$Watch" "net" "LLampNet$Net;" ∈ lw_tbl) (hdg : decode cc pc = .ok (.getfield index, 3)) (kk : W p l e R s m args below meth c H locs cells slots Q (F0 m (pc + 3) ls (.ref (a 1) :: rest))) : W p l e R s m args below meth c H locs cells slots Q (F0 m pc ls (.ref (a 20) :: rest)) := ln_get X hP 20 rfl rfl kl_X8 0 (by decide) hlink rfl hdg kk
theorem gC_20_1 (X : ln_X p R s m c cc nL own D g d) (hP : va_P D ln_cl (CW a g σ) H) {index : Nat} (hlink : Cond.fieldLink own index "LampNet$Watch" "holding" "[Z" ∈ lw_tbl) (hdg : decode cc pc = .ok (.getfield index, 3)) (kk : W p l e R s m args below meth c H locs cells slots Q (F0 m (pc + 3) ls (.ref (a 21) :: rest))) : W p l e R s m args below meth c H locs cells slots Q (F0 m pc ls (.ref (a 20) :: rest)) := ln_get X hP 20 rfl rfl kl_X8 1 (by decide) hlink rfl hdg kk
theorem gC_20_2 (X : ln_X p R s m c cc nL own D g d) (hP : va_P D ln_cl (CW a g σ) H) {v : Int32} (hv : σ 20 0 = v) {index : Nat} (hlink : Cond.fieldLink own index "LampNet$Watch" "holdingVersion" "I" ∈ lw_tbl) (hdg : decode cc pc = .ok (.getfield index, 3)) (kk : W p l e R s m args below meth c H locs cells slots Q (F0 m (pc + 3) ls (.int v :: rest))) : W p l e R s m args below meth c H locs cells slots Q (F0 m pc ls (.ref (a 20) :: rest)) := by subst hv; exact ln_get X hP 20 rfl rfl kl_X8 2 (by decide) hlink rfl hdg kk
theorem pC_20_2 (X : ln_X p R s m c cc nL own D g d) (hP : va_P D ln_cl (CW a g σ) H) (hD : va_D A (CW a g σ)) (hS : va_S A H0 H locs) {index : Nat} {x : Int32} (hlink : Cond.fieldLink own index "LampNet$Watch" "holdingVersion" "I" ∈ lw_tbl) (hdg : decode cc pc = .ok (.putfield index, 3)) (kk : ∀ (H1 : Heap) (locs1 : List Loc), va_P D ln_cl (CW a g (ln_up σ 20 (upd (σ 20) 0 x))) H1 → va_D A (CW a g (ln_up σ 20 (upd (σ 20) 0 x))) → va_S A H0 H1 locs1 → W p l e R s m args below meth c H1 locs1 cells slots Q (F0 m (pc + 3) ls rest)) : W p l e R s m args below meth c H locs cells slots Q (F0 m pc ls (.int x :: .ref (a 20) :: rest)) := ln_put X (Wd := CW a g) hP hD hS 20 rfl rfl kl_X8 tyX8 tyX8_ok nmX8 2 (by decide) hlink rfl rfl (Nat.le_of_ble_eq_true rfl) rfl hdg kk
theorem lC_21 (X : ln_X p R s m c cc nL own D g d) (hP : va_P D ln_cl (CW a g σ) H) {k : Nat} (hk : k < 4096) {v : Int32} (hv : σ 21 k = v) (hdg : decode cc pc = .ok (.baload, 1)) (kk : W p l e R s m args below meth c H locs cells slots Q (F0 m (pc + 1) ls (.int v :: rest))) : W p l e R s m args below meth c H locs cells slots Q (F0 m pc ls (.int (nI k) :: .ref (a 21) :: rest)) := ln_zald X hP 21 rfl hk (by decide) hv hdg kk
theorem sC_21 (X : ln_X p R s m c cc nL own D g d) (hP : va_P D ln_cl (CW a g σ) H) (hD : va_D A (CW a g σ)) (hS : va_S A H0 H locs) {k : Nat} (hk : k < 4096) {x : Int32} (hx : vp_nar .boolean x = x) (hdg : decode cc pc = .ok (.bastore, 1)) (kk : ∀ (H1 : Heap) (locs1 : List Loc), va_P D ln_cl (CW a g (ln_up σ 21 (upd (σ 21) k x))) H1 → va_D A (CW a g (ln_up σ 21 (upd (σ 21) k x))) → va_S A H0 H1 locs1 → W p l e R s m args below meth c H1 locs1 cells slots Q (F0 m (pc + 1) ls rest)) : W p l e R s m args below meth c H locs cells slots Q (F0 m pc ls (.int x :: .int (nI k) :: .ref (a 21) :: rest)) := ln_zast X (Wd := CW a g) hP hD hS 21 rfl hk (by decide) hx rfl hdg kk
theorem gC_22_0 (X : ln_X p R s m c cc nL own D g d) (hP : va_P D ln_cl (CW a g σ) H) {index : Nat} (hlink : Cond.fieldLink own index "LampNet$Game" "net" "LLampNet$Net;" ∈ lw_tbl) (hdg : decode cc pc = .ok (.getfield index, 3)) (kk : W p l e R s m args below meth c H locs cells slots Q (F0 m (pc + 3) ls (.ref (a 1) :: rest))) : W p l e R s m args below meth c H locs cells slots Q (F0 m pc ls (.ref (a 22) :: rest)) := ln_get X hP 22 rfl rfl kl_X3 0 (by decide) hlink rfl hdg kk
theorem gC_22_1 (X : ln_X p R s m c cc nL own D g d) (hP : va_P D ln_cl (CW a g σ) H) {index : Nat} (hlink : Cond.fieldLink own index "LampNet$Game" "spread" "LLampNet$Spread;" ∈ lw_tbl) (hdg : decode cc pc = .ok (.getfield index, 3)) (kk : W p l e R s m args below meth c H locs cells slots Q (F0 m (pc + 3) ls (.ref (a 7) :: rest))) : W p l e R s m args below meth c H locs cells slots Q (F0 m pc ls (.ref (a 22) :: rest)) := ln_get X hP 22 rfl rfl kl_X3 1 (by decide) hlink rfl hdg kk
theorem gC_22_2 (X : ln_X p R s m c cc nL own D g d) (hP : va_P D ln_cl (CW a g σ) H) {index : Nat} (hlink : Cond.fieldLink own index "LampNet$Game" "wins" "[[B" ∈ lw_tbl) (hdg : decode cc pc = .ok (.getfield index, 3)) (kk : W p l e R s m args below meth c H locs cells slots Q (F0 m (pc + 3) ls (.ref (a 23) :: rest))) : W p l e R s m args below meth c H locs cells slots Q (F0 m pc ls (.ref (a 22) :: rest)) := ln_get X hP 22 rfl rfl kl_X3 2 (by decide) hlink rfl hdg kk
theorem gC_22_3 (X : ln_X p R s m c cc nL own D g d) (hP : va_P D ln_cl (CW a g σ) H) {index : Nat} (hlink : Cond.fieldLink own index "LampNet$Game" "winsVersion" "[I" ∈ lw_tbl) (hdg : decode cc pc = .ok (.getfield index, 3)) (kk : W p l e R s m args below meth c H locs cells slots Q (F0 m (pc + 3) ls (.ref (a 24) :: rest))) : W p l e R s m args below meth c H locs cells slots Q (F0 m pc ls (.ref (a 22) :: rest)) := ln_get X hP 22 rfl rfl kl_X3 3 (by decide) hlink rfl hdg kk
theorem oC_23 (X : ln_X p R s m c cc nL own D g d) (hP : va_P D ln_cl (CW a g σ) H) {k : Nat} (hk : k < 3) (hdg : decode cc pc = .ok (.aaload, 1)) (kk : W p l e R s m args below meth c H locs cells slots Q (F0 m (pc + 1) ls (.ref (a (40 + k)) :: rest))) : W p l e R s m args below meth c H locs cells slots Q (F0 m pc ls (.int (nI k) :: .ref (a 23) :: rest)) := ln_aald X hP 23 4 rfl rfl rfl hk (by decide) (if_pos hk) hdg kk
theorem lC_24 (X : ln_X p R s m c cc nL own D g d) (hP : va_P D ln_cl (CW a g σ) H) {k : Nat} (hk : k < 3) {v : Int32} (hv : σ 24 k = v) (hdg : decode cc pc = .ok (.iaload, 1)) (kk : W p l e R s m args below meth c H locs cells slots Q (F0 m (pc + 1) ls (.int v :: rest))) : W p l e R s m args below meth c H locs cells slots Q (F0 m pc ls (.int (nI k) :: .ref (a 24) :: rest)) := ln_iald X hP 24 rfl hk (by decide) hv hdg kk
theorem sC_24 (X : ln_X p R s m c cc nL own D g d) (hP : va_P D ln_cl (CW a g σ) H) (hD : va_D A (CW a g σ)) (hS : va_S A H0 H locs) {k : Nat} (hk : k < 3) {x : Int32} (hdg : decode cc pc = .ok (.iastore, 1)) (kk : ∀ (H1 : Heap) (locs1 : List Loc), va_P D ln_cl (CW a g (ln_up σ 24 (upd (σ 24) k x))) H1 → va_D A (CW a g (ln_up σ 24 (upd (σ 24) k x))) → va_S A H0 H1 locs1 → W p l e R s m args below meth c H1 locs1 cells slots Q (F0 m (pc + 1) ls rest)) : W p l e R s m args below meth c H locs cells slots Q (F0 m pc ls (.int x :: .int (nI k) :: .ref (a 24) :: rest)) := ln_iast X (Wd := CW a g) hP hD hS 24 rfl hk (by decide) rfl hdg kk
theorem CW_r25 (a : Nat → Nat) (g : Nat → ClassId) (σ : ln_S) {r : Nat} (hr : r < 12) : (CW a g σ)[25 + r]? = some (a (25 + r), .inl (g 0, 12, .inl (σ (25 + r)))) := by
  rcases (show r = 0 ∨ r = 1 ∨ r = 2 ∨ r = 3 ∨ r = 4 ∨ r = 5 ∨ r = 6 ∨ r = 7 ∨ r = 8 ∨ r = 9 ∨ r = 10 ∨ r = 11 by omega) with rfl | rfl | rfl | rfl | rfl | rfl | rfl | rfl | rfl | rfl | rfl | rfl <;> rfl
theorem CW_s25 (a : Nat → Nat) (g : Nat → ClassId) (σ : ln_S) {r : Nat} (hr : r < 12) (f : Nat → Int32) : (CW a g σ).set (25 + r) (a (25 + r), .inl (g 0, 12, .inl f)) = CW a g (ln_up σ (25 + r) f) := by
  rcases (show r = 0 ∨ r = 1 ∨ r = 2 ∨ r = 3 ∨ r = 4 ∨ r = 5 ∨ r = 6 ∨ r = 7 ∨ r = 8 ∨ r = 9 ∨ r = 10 ∨ r = 11 by omega) with rfl | rfl | rfl | rfl | rfl | rfl | rfl | rfl | rfl | rfl | rfl | rfl <;> rfl
theorem lC_r25 (X : ln_X p R s m c cc nL own D g d) (hP : va_P D ln_cl (CW a g σ) H) {r : Nat} (hr : r < 12) {k : Nat} (hk : k < 12) {v : Int32} (hv : σ (25 + r) k = v) (hdg : decode cc pc = .ok (.iaload, 1)) (kk : W p l e R s m args below meth c H locs cells slots Q (F0 m (pc + 1) ls (.int v :: rest))) : W p l e R s m args below meth c H locs cells slots Q (F0 m pc ls (.int (nI k) :: .ref (a (25 + r)) :: rest)) := ln_iald X hP (25 + r) (CW_r25 a g σ hr) hk (by decide) hv hdg kk
theorem sC_r25 (X : ln_X p R s m c cc nL own D g d) (hP : va_P D ln_cl (CW a g σ) H) (hD : va_D A (CW a g σ)) (hS : va_S A H0 H locs) {r : Nat} (hr : r < 12) {k : Nat} (hk : k < 12) {x : Int32} (hdg : decode cc pc = .ok (.iastore, 1)) (kk : ∀ (H1 : Heap) (locs1 : List Loc), va_P D ln_cl (CW a g (ln_up σ (25 + r) (upd (σ (25 + r)) k x))) H1 → va_D A (CW a g (ln_up σ (25 + r) (upd (σ (25 + r)) k x))) → va_S A H0 H1 locs1 → W p l e R s m args below meth c H1 locs1 cells slots Q (F0 m (pc + 1) ls rest)) : W p l e R s m args below meth c H locs cells slots Q (F0 m pc ls (.int x :: .int (nI k) :: .ref (a (25 + r)) :: rest)) := ln_iast X (Wd := CW a g) hP hD hS (25 + r) (CW_r25 a g σ hr) hk (by decide) (CW_s25 a g σ hr _) hdg kk
theorem CW_r37 (a : Nat → Nat) (g : Nat → ClassId) (σ : ln_S) {r : Nat} (hr : r < 3) : (CW a g σ)[37 + r]? = some (a (37 + r), .inl (g 0, 4096, .inl (σ (37 + r)))) := by
  rcases (show r = 0 ∨ r = 1 ∨ r = 2 by omega) with rfl | rfl | rfl <;> rfl
theorem CW_s37 (a : Nat → Nat) (g : Nat → ClassId) (σ : ln_S) {r : Nat} (hr : r < 3) (f : Nat → Int32) : (CW a g σ).set (37 + r) (a (37 + r), .inl (g 0, 4096, .inl f)) = CW a g (ln_up σ (37 + r) f) := by
  rcases (show r = 0 ∨ r = 1 ∨ r = 2 by omega) with rfl | rfl | rfl <;> rfl
theorem lC_r37 (X : ln_X p R s m c cc nL own D g d) (hP : va_P D ln_cl (CW a g σ) H) {r : Nat} (hr : r < 3) {k : Nat} (hk : k < 4096) {v : Int32} (hv : σ (37 + r) k = v) (hdg : decode cc pc = .ok (.iaload, 1)) (kk : W p l e R s m args below meth c H locs cells slots Q (F0 m (pc + 1) ls (.int v :: rest))) : W p l e R s m args below meth c H locs cells slots Q (F0 m pc ls (.int (nI k) :: .ref (a (37 + r)) :: rest)) := ln_iald X hP (37 + r) (CW_r37 a g σ hr) hk (by decide) hv hdg kk
theorem sC_r37 (X : ln_X p R s m c cc nL own D g d) (hP : va_P D ln_cl (CW a g σ) H) (hD : va_D A (CW a g σ)) (hS : va_S A H0 H locs) {r : Nat} (hr : r < 3) {k : Nat} (hk : k < 4096) {x : Int32} (hdg : decode cc pc = .ok (.iastore, 1)) (kk : ∀ (H1 : Heap) (locs1 : List Loc), va_P D ln_cl (CW a g (ln_up σ (37 + r) (upd (σ (37 + r)) k x))) H1 → va_D A (CW a g (ln_up σ (37 + r) (upd (σ (37 + r)) k x))) → va_S A H0 H1 locs1 → W p l e R s m args below meth c H1 locs1 cells slots Q (F0 m (pc + 1) ls rest)) : W p l e R s m args below meth c H locs cells slots Q (F0 m pc ls (.int x :: .int (nI k) :: .ref (a (37 + r)) :: rest)) := ln_iast X (Wd := CW a g) hP hD hS (37 + r) (CW_r37 a g σ hr) hk (by decide) (CW_s37 a g σ hr _) hdg kk
theorem CW_r40 (a : Nat → Nat) (g : Nat → ClassId) (σ : ln_S) {r : Nat} (hr : r < 3) : (CW a g σ)[40 + r]? = some (a (40 + r), .inl (g 2, 4096, .inl (σ (40 + r)))) := by
  rcases (show r = 0 ∨ r = 1 ∨ r = 2 by omega) with rfl | rfl | rfl <;> rfl
theorem CW_s40 (a : Nat → Nat) (g : Nat → ClassId) (σ : ln_S) {r : Nat} (hr : r < 3) (f : Nat → Int32) : (CW a g σ).set (40 + r) (a (40 + r), .inl (g 2, 4096, .inl f)) = CW a g (ln_up σ (40 + r) f) := by
  rcases (show r = 0 ∨ r = 1 ∨ r = 2 by omega) with rfl | rfl | rfl <;> rfl
theorem lC_r40 (X : ln_X p R s m c cc nL own D g d) (hP : va_P D ln_cl (CW a g σ) H) {r : Nat} (hr : r < 3) {k : Nat} (hk : k < 4096) {v : Int32} (hv : σ (40 + r) k = v) (hdg : decode cc pc = .ok (.baload, 1)) (kk : W p l e R s m args below meth c H locs cells slots Q (F0 m (pc + 1) ls (.int v :: rest))) : W p l e R s m args below meth c H locs cells slots Q (F0 m pc ls (.int (nI k) :: .ref (a (40 + r)) :: rest)) := ln_bald X hP (40 + r) (CW_r40 a g σ hr) hk (by decide) hv hdg kk
theorem sC_r40 (X : ln_X p R s m c cc nL own D g d) (hP : va_P D ln_cl (CW a g σ) H) (hD : va_D A (CW a g σ)) (hS : va_S A H0 H locs) {r : Nat} (hr : r < 3) {k : Nat} (hk : k < 4096) {x : Int32} (hx : vp_nar .byte x = x) (hdg : decode cc pc = .ok (.bastore, 1)) (kk : ∀ (H1 : Heap) (locs1 : List Loc), va_P D ln_cl (CW a g (ln_up σ (40 + r) (upd (σ (40 + r)) k x))) H1 → va_D A (CW a g (ln_up σ (40 + r) (upd (σ (40 + r)) k x))) → va_S A H0 H1 locs1 → W p l e R s m args below meth c H1 locs1 cells slots Q (F0 m (pc + 1) ls rest)) : W p l e R s m args below meth c H locs cells slots Q (F0 m pc ls (.int x :: .int (nI k) :: .ref (a (40 + r)) :: rest)) := ln_bast X (Wd := CW a g) hP hD hS (40 + r) (CW_r40 a g σ hr) hk (by decide) hx (CW_s40 a g σ hr _) hdg kk
end LWCW
def MW (a : Nat → Nat) (g : Nat → ClassId) (σ : ln_S) : va_W := [(a 0, .inr (10, [.int (σ 0 0), .ref (a 1), .ref (a 2), .ref (a 3), .ref (a 4), .int (σ 0 1), .ref (a 5), .int (σ 0 2), .ref (a 6), .ref (a 7), .ref (a 8), .ref (a 9), .ref (a 10), .ref (a 11), .ref (a 12)])), (a 1, .inl (g 0, 144, .inl (σ 1))), (a 2, .inl (g 0, 12, .inl (σ 2))), (a 3, .inl (g 0, 12, .inl (σ 3))), (a 4, .inl (g 0, 12, .inl (σ 4))), (a 5, .inl (g 0, 40, .inl (σ 5))), (a 6, .inl (g 0, 12288, .inl (σ 6))), (a 7, .inl (g 1, 8192, .inl (σ 7))), (a 8, .inl (g 0, 4096, .inl (σ 8))), (a 9, .inl (g 0, 4096, .inl (σ 9))), (a 10, .inl (g 0, 1048576, .inl (σ 10))), (a 11, .inl (g 1, 4096, .inl (σ 11))), (a 12, .inl (g 1, 12288, .inl (σ 12)))]
theorem MW_ad (a : Nat → Nat) (g : Nat → ClassId) : ln_ad (MW a g) := by
  intro σ τ k q hk
  have h : ((MW a g σ).map Prod.fst)[k]? = some q.1 := by rw [List.getElem?_map, hk]; rfl
  have h2 : (MW a g σ).map Prod.fst = (MW a g τ).map Prod.fst := rfl
  rw [h2, List.getElem?_map] at h
  cases hq : (MW a g τ)[k]? with
  | none => rw [hq] at h; cases h
  | some r => rw [hq] at h; exact ⟨r.2, by rw [← Option.some.inj h]⟩
section LWMW
variable {p : Program} {l : Launch} {e : Env} {R : Room} {s : State} {m : MethodId} {args : Array Value} {below : List Frame} {meth : Method} {c : Code} {H : Heap} {locs : List Loc} {cells slots : Nat} {Q : State → Prop}
variable {cc : ByteArray} {nL : Nat} {own : String} {D : va_G} {g : Nat → ClassId} {d : Nat} {pc : Nat} {ls : Array Slot} {rest : List Value} {a : Nat → Nat} {σ : ln_S} {A : Nat → Prop} {H0 : Heap}

theorem gM_0_0 (X : ln_X p R s m c cc nL own D g d) (hP : va_P D ln_cl (MW a g σ) H) {v : Int32} (hv : σ 0 0 = v) {index : Nat} (hlink : Cond.fieldLink own index "LampNetModel" "posts" "I" ∈ lw_tbl) (hdg : decode cc pc = .ok (.getfield index, 3)) (kk : W p l e R s m args below meth c H locs cells slots Q (F0 m (pc + 3) ls (.int v :: rest))) : W p l e R s m args below meth c H locs cells slots Q (F0 m pc ls (.ref (a 0) :: rest)) := by subst hv; exact ln_get X hP 0 rfl rfl kl_X10 0 (by decide) hlink rfl hdg kk
theorem pM_0_0 (X : ln_X p R s m c cc nL own D g d) (hP : va_P D ln_cl (MW a g σ) H) (hD : va_D A (MW a g σ)) (hS : va_S A H0 H locs) {index : Nat} {x : Int32} (hlink : Cond.fieldLink own index "LampNetModel" "posts" "I" ∈ lw_tbl) (hdg : decode cc pc = .ok (.putfield index, 3)) (kk : ∀ (H1 : Heap) (locs1 : List Loc), va_P D ln_cl (MW a g (ln_up σ 0 (upd (σ 0) 0 x))) H1 → va_D A (MW a g (ln_up σ 0 (upd (σ 0) 0 x))) → va_S A H0 H1 locs1 → W p l e R s m args below meth c H1 locs1 cells slots Q (F0 m (pc + 3) ls rest)) : W p l e R s m args below meth c H locs cells slots Q (F0 m pc ls (.int x :: .ref (a 0) :: rest)) := ln_put X (Wd := MW a g) hP hD hS 0 rfl rfl kl_X10 tyX10 tyX10_ok nmX10 0 (by decide) hlink rfl rfl (Nat.le_of_ble_eq_true rfl) rfl hdg kk
theorem gM_0_1 (X : ln_X p R s m c cc nL own D g d) (hP : va_P D ln_cl (MW a g σ) H) {index : Nat} (hlink : Cond.fieldLink own index "LampNetModel" "weights" "[I" ∈ lw_tbl) (hdg : decode cc pc = .ok (.getfield index, 3)) (kk : W p l e R s m args below meth c H locs cells slots Q (F0 m (pc + 3) ls (.ref (a 1) :: rest))) : W p l e R s m args below meth c H locs cells slots Q (F0 m pc ls (.ref (a 0) :: rest)) := ln_get X hP 0 rfl rfl kl_X10 1 (by decide) hlink rfl hdg kk
theorem gM_0_2 (X : ln_X p R s m c cc nL own D g d) (hP : va_P D ln_cl (MW a g σ) H) {index : Nat} (hlink : Cond.fieldLink own index "LampNetModel" "bars" "[I" ∈ lw_tbl) (hdg : decode cc pc = .ok (.getfield index, 3)) (kk : W p l e R s m args below meth c H locs cells slots Q (F0 m (pc + 3) ls (.ref (a 2) :: rest))) : W p l e R s m args below meth c H locs cells slots Q (F0 m pc ls (.ref (a 0) :: rest)) := ln_get X hP 0 rfl rfl kl_X10 2 (by decide) hlink rfl hdg kk
theorem gM_0_3 (X : ln_X p R s m c cc nL own D g d) (hP : va_P D ln_cl (MW a g σ) H) {index : Nat} (hlink : Cond.fieldLink own index "LampNetModel" "prices" "[I" ∈ lw_tbl) (hdg : decode cc pc = .ok (.getfield index, 3)) (kk : W p l e R s m args below meth c H locs cells slots Q (F0 m (pc + 3) ls (.ref (a 3) :: rest))) : W p l e R s m args below meth c H locs cells slots Q (F0 m pc ls (.ref (a 0) :: rest)) := ln_get X hP 0 rfl rfl kl_X10 3 (by decide) hlink rfl hdg kk
theorem gM_0_4 (X : ln_X p R s m c cc nL own D g d) (hP : va_P D ln_cl (MW a g σ) H) {index : Nat} (hlink : Cond.fieldLink own index "LampNetModel" "behinds" "[I" ∈ lw_tbl) (hdg : decode cc pc = .ok (.getfield index, 3)) (kk : W p l e R s m args below meth c H locs cells slots Q (F0 m (pc + 3) ls (.ref (a 4) :: rest))) : W p l e R s m args below meth c H locs cells slots Q (F0 m pc ls (.ref (a 0) :: rest)) := ln_get X hP 0 rfl rfl kl_X10 4 (by decide) hlink rfl hdg kk
theorem gM_0_5 (X : ln_X p R s m c cc nL own D g d) (hP : va_P D ln_cl (MW a g σ) H) {v : Int32} (hv : σ 0 1 = v) {index : Nat} (hlink : Cond.fieldLink own index "LampNetModel" "known" "I" ∈ lw_tbl) (hdg : decode cc pc = .ok (.getfield index, 3)) (kk : W p l e R s m args below meth c H locs cells slots Q (F0 m (pc + 3) ls (.int v :: rest))) : W p l e R s m args below meth c H locs cells slots Q (F0 m pc ls (.ref (a 0) :: rest)) := by subst hv; exact ln_get X hP 0 rfl rfl kl_X10 5 (by decide) hlink rfl hdg kk
theorem pM_0_5 (X : ln_X p R s m c cc nL own D g d) (hP : va_P D ln_cl (MW a g σ) H) (hD : va_D A (MW a g σ)) (hS : va_S A H0 H locs) {index : Nat} {x : Int32} (hlink : Cond.fieldLink own index "LampNetModel" "known" "I" ∈ lw_tbl) (hdg : decode cc pc = .ok (.putfield index, 3)) (kk : ∀ (H1 : Heap) (locs1 : List Loc), va_P D ln_cl (MW a g (ln_up σ 0 (upd (σ 0) 1 x))) H1 → va_D A (MW a g (ln_up σ 0 (upd (σ 0) 1 x))) → va_S A H0 H1 locs1 → W p l e R s m args below meth c H1 locs1 cells slots Q (F0 m (pc + 3) ls rest)) : W p l e R s m args below meth c H locs cells slots Q (F0 m pc ls (.int x :: .ref (a 0) :: rest)) := ln_put X (Wd := MW a g) hP hD hS 0 rfl rfl kl_X10 tyX10 tyX10_ok nmX10 5 (by decide) hlink rfl rfl (Nat.le_of_ble_eq_true rfl) rfl hdg kk
theorem gM_0_6 (X : ln_X p R s m c cc nL own D g d) (hP : va_P D ln_cl (MW a g σ) H) {index : Nat} (hlink : Cond.fieldLink own index "LampNetModel" "stands" "[I" ∈ lw_tbl) (hdg : decode cc pc = .ok (.getfield index, 3)) (kk : W p l e R s m args below meth c H locs cells slots Q (F0 m (pc + 3) ls (.ref (a 5) :: rest))) : W p l e R s m args below meth c H locs cells slots Q (F0 m pc ls (.ref (a 0) :: rest)) := ln_get X hP 0 rfl rfl kl_X10 6 (by decide) hlink rfl hdg kk
theorem gM_0_7 (X : ln_X p R s m c cc nL own D g d) (hP : va_P D ln_cl (MW a g σ) H) {v : Int32} (hv : σ 0 2 = v) {index : Nat} (hlink : Cond.fieldLink own index "LampNetModel" "end" "I" ∈ lw_tbl) (hdg : decode cc pc = .ok (.getfield index, 3)) (kk : W p l e R s m args below meth c H locs cells slots Q (F0 m (pc + 3) ls (.int v :: rest))) : W p l e R s m args below meth c H locs cells slots Q (F0 m pc ls (.ref (a 0) :: rest)) := by subst hv; exact ln_get X hP 0 rfl rfl kl_X10 7 (by decide) hlink rfl hdg kk
theorem pM_0_7 (X : ln_X p R s m c cc nL own D g d) (hP : va_P D ln_cl (MW a g σ) H) (hD : va_D A (MW a g σ)) (hS : va_S A H0 H locs) {index : Nat} {x : Int32} (hlink : Cond.fieldLink own index "LampNetModel" "end" "I" ∈ lw_tbl) (hdg : decode cc pc = .ok (.putfield index, 3)) (kk : ∀ (H1 : Heap) (locs1 : List Loc), va_P D ln_cl (MW a g (ln_up σ 0 (upd (σ 0) 2 x))) H1 → va_D A (MW a g (ln_up σ 0 (upd (σ 0) 2 x))) → va_S A H0 H1 locs1 → W p l e R s m args below meth c H1 locs1 cells slots Q (F0 m (pc + 3) ls rest)) : W p l e R s m args below meth c H locs cells slots Q (F0 m pc ls (.int x :: .ref (a 0) :: rest)) := ln_put X (Wd := MW a g) hP hD hS 0 rfl rfl kl_X10 tyX10 tyX10_ok nmX10 7 (by decide) hlink rfl rfl (Nat.le_of_ble_eq_true rfl) rfl hdg kk
theorem gM_0_8 (X : ln_X p R s m c cc nL own D g d) (hP : va_P D ln_cl (MW a g σ) H) {index : Nat} (hlink : Cond.fieldLink own index "LampNetModel" "ends" "[I" ∈ lw_tbl) (hdg : decode cc pc = .ok (.getfield index, 3)) (kk : W p l e R s m args below meth c H locs cells slots Q (F0 m (pc + 3) ls (.ref (a 6) :: rest))) : W p l e R s m args below meth c H locs cells slots Q (F0 m pc ls (.ref (a 0) :: rest)) := ln_get X hP 0 rfl rfl kl_X10 8 (by decide) hlink rfl hdg kk
theorem gM_0_9 (X : ln_X p R s m c cc nL own D g d) (hP : va_P D ln_cl (MW a g σ) H) {index : Nat} (hlink : Cond.fieldLink own index "LampNetModel" "isLeast" "[Z" ∈ lw_tbl) (hdg : decode cc pc = .ok (.getfield index, 3)) (kk : W p l e R s m args below meth c H locs cells slots Q (F0 m (pc + 3) ls (.ref (a 7) :: rest))) : W p l e R s m args below meth c H locs cells slots Q (F0 m pc ls (.ref (a 0) :: rest)) := ln_get X hP 0 rfl rfl kl_X10 9 (by decide) hlink rfl hdg kk
theorem gM_0_10 (X : ln_X p R s m c cc nL own D g d) (hP : va_P D ln_cl (MW a g σ) H) {index : Nat} (hlink : Cond.fieldLink own index "LampNetModel" "best" "[I" ∈ lw_tbl) (hdg : decode cc pc = .ok (.getfield index, 3)) (kk : W p l e R s m args below meth c H locs cells slots Q (F0 m (pc + 3) ls (.ref (a 8) :: rest))) : W p l e R s m args below meth c H locs cells slots Q (F0 m pc ls (.ref (a 0) :: rest)) := ln_get X hP 0 rfl rfl kl_X10 10 (by decide) hlink rfl hdg kk
theorem gM_0_11 (X : ln_X p R s m c cc nL own D g d) (hP : va_P D ln_cl (MW a g σ) H) {index : Nat} (hlink : Cond.fieldLink own index "LampNetModel" "fewest" "[I" ∈ lw_tbl) (hdg : decode cc pc = .ok (.getfield index, 3)) (kk : W p l e R s m args below meth c H locs cells slots Q (F0 m (pc + 3) ls (.ref (a 9) :: rest))) : W p l e R s m args below meth c H locs cells slots Q (F0 m pc ls (.ref (a 0) :: rest)) := ln_get X hP 0 rfl rfl kl_X10 11 (by decide) hlink rfl hdg kk
theorem gM_0_12 (X : ln_X p R s m c cc nL own D g d) (hP : va_P D ln_cl (MW a g σ) H) {index : Nat} (hlink : Cond.fieldLink own index "LampNetModel" "saved" "[I" ∈ lw_tbl) (hdg : decode cc pc = .ok (.getfield index, 3)) (kk : W p l e R s m args below meth c H locs cells slots Q (F0 m (pc + 3) ls (.ref (a 10) :: rest))) : W p l e R s m args below meth c H locs cells slots Q (F0 m pc ls (.ref (a 0) :: rest)) := ln_get X hP 0 rfl rfl kl_X10 12 (by decide) hlink rfl hdg kk
theorem gM_0_13 (X : ln_X p R s m c cc nL own D g d) (hP : va_P D ln_cl (MW a g σ) H) {index : Nat} (hlink : Cond.fieldLink own index "LampNetModel" "hold" "[Z" ∈ lw_tbl) (hdg : decode cc pc = .ok (.getfield index, 3)) (kk : W p l e R s m args below meth c H locs cells slots Q (F0 m (pc + 3) ls (.ref (a 11) :: rest))) : W p l e R s m args below meth c H locs cells slots Q (F0 m pc ls (.ref (a 0) :: rest)) := ln_get X hP 0 rfl rfl kl_X10 13 (by decide) hlink rfl hdg kk
theorem gM_0_14 (X : ln_X p R s m c cc nL own D g d) (hP : va_P D ln_cl (MW a g σ) H) {index : Nat} (hlink : Cond.fieldLink own index "LampNetModel" "wins" "[Z" ∈ lw_tbl) (hdg : decode cc pc = .ok (.getfield index, 3)) (kk : W p l e R s m args below meth c H locs cells slots Q (F0 m (pc + 3) ls (.ref (a 12) :: rest))) : W p l e R s m args below meth c H locs cells slots Q (F0 m pc ls (.ref (a 0) :: rest)) := ln_get X hP 0 rfl rfl kl_X10 14 (by decide) hlink rfl hdg kk
theorem lM_1 (X : ln_X p R s m c cc nL own D g d) (hP : va_P D ln_cl (MW a g σ) H) {k : Nat} (hk : k < 144) {v : Int32} (hv : σ 1 k = v) (hdg : decode cc pc = .ok (.iaload, 1)) (kk : W p l e R s m args below meth c H locs cells slots Q (F0 m (pc + 1) ls (.int v :: rest))) : W p l e R s m args below meth c H locs cells slots Q (F0 m pc ls (.int (nI k) :: .ref (a 1) :: rest)) := ln_iald X hP 1 rfl hk (by decide) hv hdg kk
theorem sM_1 (X : ln_X p R s m c cc nL own D g d) (hP : va_P D ln_cl (MW a g σ) H) (hD : va_D A (MW a g σ)) (hS : va_S A H0 H locs) {k : Nat} (hk : k < 144) {x : Int32} (hdg : decode cc pc = .ok (.iastore, 1)) (kk : ∀ (H1 : Heap) (locs1 : List Loc), va_P D ln_cl (MW a g (ln_up σ 1 (upd (σ 1) k x))) H1 → va_D A (MW a g (ln_up σ 1 (upd (σ 1) k x))) → va_S A H0 H1 locs1 → W p l e R s m args below meth c H1 locs1 cells slots Q (F0 m (pc + 1) ls rest)) : W p l e R s m args below meth c H locs cells slots Q (F0 m pc ls (.int x :: .int (nI k) :: .ref (a 1) :: rest)) := ln_iast X (Wd := MW a g) hP hD hS 1 rfl hk (by decide) rfl hdg kk
theorem lM_2 (X : ln_X p R s m c cc nL own D g d) (hP : va_P D ln_cl (MW a g σ) H) {k : Nat} (hk : k < 12) {v : Int32} (hv : σ 2 k = v) (hdg : decode cc pc = .ok (.iaload, 1)) (kk : W p l e R s m args below meth c H locs cells slots Q (F0 m (pc + 1) ls (.int v :: rest))) : W p l e R s m args below meth c H locs cells slots Q (F0 m pc ls (.int (nI k) :: .ref (a 2) :: rest)) := ln_iald X hP 2 rfl hk (by decide) hv hdg kk
theorem sM_2 (X : ln_X p R s m c cc nL own D g d) (hP : va_P D ln_cl (MW a g σ) H) (hD : va_D A (MW a g σ)) (hS : va_S A H0 H locs) {k : Nat} (hk : k < 12) {x : Int32} (hdg : decode cc pc = .ok (.iastore, 1)) (kk : ∀ (H1 : Heap) (locs1 : List Loc), va_P D ln_cl (MW a g (ln_up σ 2 (upd (σ 2) k x))) H1 → va_D A (MW a g (ln_up σ 2 (upd (σ 2) k x))) → va_S A H0 H1 locs1 → W p l e R s m args below meth c H1 locs1 cells slots Q (F0 m (pc + 1) ls rest)) : W p l e R s m args below meth c H locs cells slots Q (F0 m pc ls (.int x :: .int (nI k) :: .ref (a 2) :: rest)) := ln_iast X (Wd := MW a g) hP hD hS 2 rfl hk (by decide) rfl hdg kk
theorem lM_3 (X : ln_X p R s m c cc nL own D g d) (hP : va_P D ln_cl (MW a g σ) H) {k : Nat} (hk : k < 12) {v : Int32} (hv : σ 3 k = v) (hdg : decode cc pc = .ok (.iaload, 1)) (kk : W p l e R s m args below meth c H locs cells slots Q (F0 m (pc + 1) ls (.int v :: rest))) : W p l e R s m args below meth c H locs cells slots Q (F0 m pc ls (.int (nI k) :: .ref (a 3) :: rest)) := ln_iald X hP 3 rfl hk (by decide) hv hdg kk
theorem sM_3 (X : ln_X p R s m c cc nL own D g d) (hP : va_P D ln_cl (MW a g σ) H) (hD : va_D A (MW a g σ)) (hS : va_S A H0 H locs) {k : Nat} (hk : k < 12) {x : Int32} (hdg : decode cc pc = .ok (.iastore, 1)) (kk : ∀ (H1 : Heap) (locs1 : List Loc), va_P D ln_cl (MW a g (ln_up σ 3 (upd (σ 3) k x))) H1 → va_D A (MW a g (ln_up σ 3 (upd (σ 3) k x))) → va_S A H0 H1 locs1 → W p l e R s m args below meth c H1 locs1 cells slots Q (F0 m (pc + 1) ls rest)) : W p l e R s m args below meth c H locs cells slots Q (F0 m pc ls (.int x :: .int (nI k) :: .ref (a 3) :: rest)) := ln_iast X (Wd := MW a g) hP hD hS 3 rfl hk (by decide) rfl hdg kk
theorem lM_4 (X : ln_X p R s m c cc nL own D g d) (hP : va_P D ln_cl (MW a g σ) H) {k : Nat} (hk : k < 12) {v : Int32} (hv : σ 4 k = v) (hdg : decode cc pc = .ok (.iaload, 1)) (kk : W p l e R s m args below meth c H locs cells slots Q (F0 m (pc + 1) ls (.int v :: rest))) : W p l e R s m args below meth c H locs cells slots Q (F0 m pc ls (.int (nI k) :: .ref (a 4) :: rest)) := ln_iald X hP 4 rfl hk (by decide) hv hdg kk
theorem sM_4 (X : ln_X p R s m c cc nL own D g d) (hP : va_P D ln_cl (MW a g σ) H) (hD : va_D A (MW a g σ)) (hS : va_S A H0 H locs) {k : Nat} (hk : k < 12) {x : Int32} (hdg : decode cc pc = .ok (.iastore, 1)) (kk : ∀ (H1 : Heap) (locs1 : List Loc), va_P D ln_cl (MW a g (ln_up σ 4 (upd (σ 4) k x))) H1 → va_D A (MW a g (ln_up σ 4 (upd (σ 4) k x))) → va_S A H0 H1 locs1 → W p l e R s m args below meth c H1 locs1 cells slots Q (F0 m (pc + 1) ls rest)) : W p l e R s m args below meth c H locs cells slots Q (F0 m pc ls (.int x :: .int (nI k) :: .ref (a 4) :: rest)) := ln_iast X (Wd := MW a g) hP hD hS 4 rfl hk (by decide) rfl hdg kk
theorem lM_5 (X : ln_X p R s m c cc nL own D g d) (hP : va_P D ln_cl (MW a g σ) H) {k : Nat} (hk : k < 40) {v : Int32} (hv : σ 5 k = v) (hdg : decode cc pc = .ok (.iaload, 1)) (kk : W p l e R s m args below meth c H locs cells slots Q (F0 m (pc + 1) ls (.int v :: rest))) : W p l e R s m args below meth c H locs cells slots Q (F0 m pc ls (.int (nI k) :: .ref (a 5) :: rest)) := ln_iald X hP 5 rfl hk (by decide) hv hdg kk
theorem sM_5 (X : ln_X p R s m c cc nL own D g d) (hP : va_P D ln_cl (MW a g σ) H) (hD : va_D A (MW a g σ)) (hS : va_S A H0 H locs) {k : Nat} (hk : k < 40) {x : Int32} (hdg : decode cc pc = .ok (.iastore, 1)) (kk : ∀ (H1 : Heap) (locs1 : List Loc), va_P D ln_cl (MW a g (ln_up σ 5 (upd (σ 5) k x))) H1 → va_D A (MW a g (ln_up σ 5 (upd (σ 5) k x))) → va_S A H0 H1 locs1 → W p l e R s m args below meth c H1 locs1 cells slots Q (F0 m (pc + 1) ls rest)) : W p l e R s m args below meth c H locs cells slots Q (F0 m pc ls (.int x :: .int (nI k) :: .ref (a 5) :: rest)) := ln_iast X (Wd := MW a g) hP hD hS 5 rfl hk (by decide) rfl hdg kk
theorem lM_6 (X : ln_X p R s m c cc nL own D g d) (hP : va_P D ln_cl (MW a g σ) H) {k : Nat} (hk : k < 12288) {v : Int32} (hv : σ 6 k = v) (hdg : decode cc pc = .ok (.iaload, 1)) (kk : W p l e R s m args below meth c H locs cells slots Q (F0 m (pc + 1) ls (.int v :: rest))) : W p l e R s m args below meth c H locs cells slots Q (F0 m pc ls (.int (nI k) :: .ref (a 6) :: rest)) := ln_iald X hP 6 rfl hk (by decide) hv hdg kk
theorem sM_6 (X : ln_X p R s m c cc nL own D g d) (hP : va_P D ln_cl (MW a g σ) H) (hD : va_D A (MW a g σ)) (hS : va_S A H0 H locs) {k : Nat} (hk : k < 12288) {x : Int32} (hdg : decode cc pc = .ok (.iastore, 1)) (kk : ∀ (H1 : Heap) (locs1 : List Loc), va_P D ln_cl (MW a g (ln_up σ 6 (upd (σ 6) k x))) H1 → va_D A (MW a g (ln_up σ 6 (upd (σ 6) k x))) → va_S A H0 H1 locs1 → W p l e R s m args below meth c H1 locs1 cells slots Q (F0 m (pc + 1) ls rest)) : W p l e R s m args below meth c H locs cells slots Q (F0 m pc ls (.int x :: .int (nI k) :: .ref (a 6) :: rest)) := ln_iast X (Wd := MW a g) hP hD hS 6 rfl hk (by decide) rfl hdg kk
theorem lM_7 (X : ln_X p R s m c cc nL own D g d) (hP : va_P D ln_cl (MW a g σ) H) {k : Nat} (hk : k < 8192) {v : Int32} (hv : σ 7 k = v) (hdg : decode cc pc = .ok (.baload, 1)) (kk : W p l e R s m args below meth c H locs cells slots Q (F0 m (pc + 1) ls (.int v :: rest))) : W p l e R s m args below meth c H locs cells slots Q (F0 m pc ls (.int (nI k) :: .ref (a 7) :: rest)) := ln_zald X hP 7 rfl hk (by decide) hv hdg kk
theorem sM_7 (X : ln_X p R s m c cc nL own D g d) (hP : va_P D ln_cl (MW a g σ) H) (hD : va_D A (MW a g σ)) (hS : va_S A H0 H locs) {k : Nat} (hk : k < 8192) {x : Int32} (hx : vp_nar .boolean x = x) (hdg : decode cc pc = .ok (.bastore, 1)) (kk : ∀ (H1 : Heap) (locs1 : List Loc), va_P D ln_cl (MW a g (ln_up σ 7 (upd (σ 7) k x))) H1 → va_D A (MW a g (ln_up σ 7 (upd (σ 7) k x))) → va_S A H0 H1 locs1 → W p l e R s m args below meth c H1 locs1 cells slots Q (F0 m (pc + 1) ls rest)) : W p l e R s m args below meth c H locs cells slots Q (F0 m pc ls (.int x :: .int (nI k) :: .ref (a 7) :: rest)) := ln_zast X (Wd := MW a g) hP hD hS 7 rfl hk (by decide) hx rfl hdg kk
theorem lM_8 (X : ln_X p R s m c cc nL own D g d) (hP : va_P D ln_cl (MW a g σ) H) {k : Nat} (hk : k < 4096) {v : Int32} (hv : σ 8 k = v) (hdg : decode cc pc = .ok (.iaload, 1)) (kk : W p l e R s m args below meth c H locs cells slots Q (F0 m (pc + 1) ls (.int v :: rest))) : W p l e R s m args below meth c H locs cells slots Q (F0 m pc ls (.int (nI k) :: .ref (a 8) :: rest)) := ln_iald X hP 8 rfl hk (by decide) hv hdg kk
theorem sM_8 (X : ln_X p R s m c cc nL own D g d) (hP : va_P D ln_cl (MW a g σ) H) (hD : va_D A (MW a g σ)) (hS : va_S A H0 H locs) {k : Nat} (hk : k < 4096) {x : Int32} (hdg : decode cc pc = .ok (.iastore, 1)) (kk : ∀ (H1 : Heap) (locs1 : List Loc), va_P D ln_cl (MW a g (ln_up σ 8 (upd (σ 8) k x))) H1 → va_D A (MW a g (ln_up σ 8 (upd (σ 8) k x))) → va_S A H0 H1 locs1 → W p l e R s m args below meth c H1 locs1 cells slots Q (F0 m (pc + 1) ls rest)) : W p l e R s m args below meth c H locs cells slots Q (F0 m pc ls (.int x :: .int (nI k) :: .ref (a 8) :: rest)) := ln_iast X (Wd := MW a g) hP hD hS 8 rfl hk (by decide) rfl hdg kk
theorem lM_9 (X : ln_X p R s m c cc nL own D g d) (hP : va_P D ln_cl (MW a g σ) H) {k : Nat} (hk : k < 4096) {v : Int32} (hv : σ 9 k = v) (hdg : decode cc pc = .ok (.iaload, 1)) (kk : W p l e R s m args below meth c H locs cells slots Q (F0 m (pc + 1) ls (.int v :: rest))) : W p l e R s m args below meth c H locs cells slots Q (F0 m pc ls (.int (nI k) :: .ref (a 9) :: rest)) := ln_iald X hP 9 rfl hk (by decide) hv hdg kk
theorem sM_9 (X : ln_X p R s m c cc nL own D g d) (hP : va_P D ln_cl (MW a g σ) H) (hD : va_D A (MW a g σ)) (hS : va_S A H0 H locs) {k : Nat} (hk : k < 4096) {x : Int32} (hdg : decode cc pc = .ok (.iastore, 1)) (kk : ∀ (H1 : Heap) (locs1 : List Loc), va_P D ln_cl (MW a g (ln_up σ 9 (upd (σ 9) k x))) H1 → va_D A (MW a g (ln_up σ 9 (upd (σ 9) k x))) → va_S A H0 H1 locs1 → W p l e R s m args below meth c H1 locs1 cells slots Q (F0 m (pc + 1) ls rest)) : W p l e R s m args below meth c H locs cells slots Q (F0 m pc ls (.int x :: .int (nI k) :: .ref (a 9) :: rest)) := ln_iast X (Wd := MW a g) hP hD hS 9 rfl hk (by decide) rfl hdg kk
theorem lM_10 (X : ln_X p R s m c cc nL own D g d) (hP : va_P D ln_cl (MW a g σ) H) {k : Nat} (hk : k < 1048576) {v : Int32} (hv : σ 10 k = v) (hdg : decode cc pc = .ok (.iaload, 1)) (kk : W p l e R s m args below meth c H locs cells slots Q (F0 m (pc + 1) ls (.int v :: rest))) : W p l e R s m args below meth c H locs cells slots Q (F0 m pc ls (.int (nI k) :: .ref (a 10) :: rest)) := ln_iald X hP 10 rfl hk (by decide) hv hdg kk
theorem sM_10 (X : ln_X p R s m c cc nL own D g d) (hP : va_P D ln_cl (MW a g σ) H) (hD : va_D A (MW a g σ)) (hS : va_S A H0 H locs) {k : Nat} (hk : k < 1048576) {x : Int32} (hdg : decode cc pc = .ok (.iastore, 1)) (kk : ∀ (H1 : Heap) (locs1 : List Loc), va_P D ln_cl (MW a g (ln_up σ 10 (upd (σ 10) k x))) H1 → va_D A (MW a g (ln_up σ 10 (upd (σ 10) k x))) → va_S A H0 H1 locs1 → W p l e R s m args below meth c H1 locs1 cells slots Q (F0 m (pc + 1) ls rest)) : W p l e R s m args below meth c H locs cells slots Q (F0 m pc ls (.int x :: .int (nI k) :: .ref (a 10) :: rest)) := ln_iast X (Wd := MW a g) hP hD hS 10 rfl hk (by decide) rfl hdg kk
theorem lM_11 (X : ln_X p R s m c cc nL own D g d) (hP : va_P D ln_cl (MW a g σ) H) {k : Nat} (hk : k < 4096) {v : Int32} (hv : σ 11 k = v) (hdg : decode cc pc = .ok (.baload, 1)) (kk : W p l e R s m args below meth c H locs cells slots Q (F0 m (pc + 1) ls (.int v :: rest))) : W p l e R s m args below meth c H locs cells slots Q (F0 m pc ls (.int (nI k) :: .ref (a 11) :: rest)) := ln_zald X hP 11 rfl hk (by decide) hv hdg kk
theorem sM_11 (X : ln_X p R s m c cc nL own D g d) (hP : va_P D ln_cl (MW a g σ) H) (hD : va_D A (MW a g σ)) (hS : va_S A H0 H locs) {k : Nat} (hk : k < 4096) {x : Int32} (hx : vp_nar .boolean x = x) (hdg : decode cc pc = .ok (.bastore, 1)) (kk : ∀ (H1 : Heap) (locs1 : List Loc), va_P D ln_cl (MW a g (ln_up σ 11 (upd (σ 11) k x))) H1 → va_D A (MW a g (ln_up σ 11 (upd (σ 11) k x))) → va_S A H0 H1 locs1 → W p l e R s m args below meth c H1 locs1 cells slots Q (F0 m (pc + 1) ls rest)) : W p l e R s m args below meth c H locs cells slots Q (F0 m pc ls (.int x :: .int (nI k) :: .ref (a 11) :: rest)) := ln_zast X (Wd := MW a g) hP hD hS 11 rfl hk (by decide) hx rfl hdg kk
theorem lM_12 (X : ln_X p R s m c cc nL own D g d) (hP : va_P D ln_cl (MW a g σ) H) {k : Nat} (hk : k < 12288) {v : Int32} (hv : σ 12 k = v) (hdg : decode cc pc = .ok (.baload, 1)) (kk : W p l e R s m args below meth c H locs cells slots Q (F0 m (pc + 1) ls (.int v :: rest))) : W p l e R s m args below meth c H locs cells slots Q (F0 m pc ls (.int (nI k) :: .ref (a 12) :: rest)) := ln_zald X hP 12 rfl hk (by decide) hv hdg kk
theorem sM_12 (X : ln_X p R s m c cc nL own D g d) (hP : va_P D ln_cl (MW a g σ) H) (hD : va_D A (MW a g σ)) (hS : va_S A H0 H locs) {k : Nat} (hk : k < 12288) {x : Int32} (hx : vp_nar .boolean x = x) (hdg : decode cc pc = .ok (.bastore, 1)) (kk : ∀ (H1 : Heap) (locs1 : List Loc), va_P D ln_cl (MW a g (ln_up σ 12 (upd (σ 12) k x))) H1 → va_D A (MW a g (ln_up σ 12 (upd (σ 12) k x))) → va_S A H0 H1 locs1 → W p l e R s m args below meth c H1 locs1 cells slots Q (F0 m (pc + 1) ls rest)) : W p l e R s m args below meth c H locs cells slots Q (F0 m pc ls (.int x :: .int (nI k) :: .ref (a 12) :: rest)) := ln_zast X (Wd := MW a g) hP hD hS 12 rfl hk (by decide) hx rfl hdg kk
end LWMW
end
section
theorem dJ6_bitCount_0f7a4_0 : decode cJ6_bitCount_0f7a4 0 = .ok (.iload_n 0, 1) := by decide +kernel
theorem dJ6_bitCount_0f7a4_1 : decode cJ6_bitCount_0f7a4 1 = .ok (.iload_n 0, 1) := by decide +kernel
theorem dJ6_bitCount_0f7a4_2 : decode cJ6_bitCount_0f7a4 2 = .ok (.iconst 1, 1) := by decide +kernel
theorem dJ6_bitCount_0f7a4_3 : decode cJ6_bitCount_0f7a4 3 = .ok (.iushr, 1) := by decide +kernel
theorem dJ6_bitCount_0f7a4_4 : decode cJ6_bitCount_0f7a4 4 = .ok (.ldc_w 265, 3) := by decide +kernel
theorem dJ6_bitCount_0f7a4_7 : decode cJ6_bitCount_0f7a4 7 = .ok (.iand, 1) := by decide +kernel
theorem dJ6_bitCount_0f7a4_8 : decode cJ6_bitCount_0f7a4 8 = .ok (.isub, 1) := by decide +kernel
theorem dJ6_bitCount_0f7a4_9 : decode cJ6_bitCount_0f7a4 9 = .ok (.istore_n 0, 1) := by decide +kernel
theorem dJ6_bitCount_0f7a4_10 : decode cJ6_bitCount_0f7a4 10 = .ok (.iload_n 0, 1) := by decide +kernel
theorem dJ6_bitCount_0f7a4_11 : decode cJ6_bitCount_0f7a4 11 = .ok (.ldc_w 266, 3) := by decide +kernel
theorem dJ6_bitCount_0f7a4_14 : decode cJ6_bitCount_0f7a4 14 = .ok (.iand, 1) := by decide +kernel
theorem dJ6_bitCount_0f7a4_15 : decode cJ6_bitCount_0f7a4 15 = .ok (.iload_n 0, 1) := by decide +kernel
theorem dJ6_bitCount_0f7a4_16 : decode cJ6_bitCount_0f7a4 16 = .ok (.iconst 2, 1) := by decide +kernel
theorem dJ6_bitCount_0f7a4_17 : decode cJ6_bitCount_0f7a4 17 = .ok (.iushr, 1) := by decide +kernel
theorem dJ6_bitCount_0f7a4_18 : decode cJ6_bitCount_0f7a4 18 = .ok (.ldc_w 266, 3) := by decide +kernel
theorem dJ6_bitCount_0f7a4_21 : decode cJ6_bitCount_0f7a4 21 = .ok (.iand, 1) := by decide +kernel
theorem dJ6_bitCount_0f7a4_22 : decode cJ6_bitCount_0f7a4 22 = .ok (.iadd, 1) := by decide +kernel
theorem dJ6_bitCount_0f7a4_23 : decode cJ6_bitCount_0f7a4 23 = .ok (.istore_n 0, 1) := by decide +kernel
theorem dJ6_bitCount_0f7a4_24 : decode cJ6_bitCount_0f7a4 24 = .ok (.iload_n 0, 1) := by decide +kernel
theorem dJ6_bitCount_0f7a4_25 : decode cJ6_bitCount_0f7a4 25 = .ok (.iload_n 0, 1) := by decide +kernel
theorem dJ6_bitCount_0f7a4_26 : decode cJ6_bitCount_0f7a4 26 = .ok (.iconst 4, 1) := by decide +kernel
theorem dJ6_bitCount_0f7a4_27 : decode cJ6_bitCount_0f7a4 27 = .ok (.iushr, 1) := by decide +kernel
theorem dJ6_bitCount_0f7a4_28 : decode cJ6_bitCount_0f7a4 28 = .ok (.iadd, 1) := by decide +kernel
theorem dJ6_bitCount_0f7a4_29 : decode cJ6_bitCount_0f7a4 29 = .ok (.ldc_w 267, 3) := by decide +kernel
theorem dJ6_bitCount_0f7a4_32 : decode cJ6_bitCount_0f7a4 32 = .ok (.iand, 1) := by decide +kernel
theorem dJ6_bitCount_0f7a4_33 : decode cJ6_bitCount_0f7a4 33 = .ok (.istore_n 0, 1) := by decide +kernel
theorem dJ6_bitCount_0f7a4_34 : decode cJ6_bitCount_0f7a4 34 = .ok (.iload_n 0, 1) := by decide +kernel
theorem dJ6_bitCount_0f7a4_35 : decode cJ6_bitCount_0f7a4 35 = .ok (.iload_n 0, 1) := by decide +kernel
theorem dJ6_bitCount_0f7a4_36 : decode cJ6_bitCount_0f7a4 36 = .ok (.bipush 8, 2) := by decide +kernel
theorem dJ6_bitCount_0f7a4_38 : decode cJ6_bitCount_0f7a4 38 = .ok (.iushr, 1) := by decide +kernel
theorem dJ6_bitCount_0f7a4_39 : decode cJ6_bitCount_0f7a4 39 = .ok (.iadd, 1) := by decide +kernel
theorem dJ6_bitCount_0f7a4_40 : decode cJ6_bitCount_0f7a4 40 = .ok (.istore_n 0, 1) := by decide +kernel
theorem dJ6_bitCount_0f7a4_41 : decode cJ6_bitCount_0f7a4 41 = .ok (.iload_n 0, 1) := by decide +kernel
theorem dJ6_bitCount_0f7a4_42 : decode cJ6_bitCount_0f7a4 42 = .ok (.iload_n 0, 1) := by decide +kernel
theorem dJ6_bitCount_0f7a4_43 : decode cJ6_bitCount_0f7a4 43 = .ok (.bipush 16, 2) := by decide +kernel
theorem dJ6_bitCount_0f7a4_45 : decode cJ6_bitCount_0f7a4 45 = .ok (.iushr, 1) := by decide +kernel
theorem dJ6_bitCount_0f7a4_46 : decode cJ6_bitCount_0f7a4 46 = .ok (.iadd, 1) := by decide +kernel
theorem dJ6_bitCount_0f7a4_47 : decode cJ6_bitCount_0f7a4 47 = .ok (.istore_n 0, 1) := by decide +kernel
theorem dJ6_bitCount_0f7a4_48 : decode cJ6_bitCount_0f7a4 48 = .ok (.iload_n 0, 1) := by decide +kernel
theorem dJ6_bitCount_0f7a4_49 : decode cJ6_bitCount_0f7a4 49 = .ok (.bipush 63, 2) := by decide +kernel
theorem dJ6_bitCount_0f7a4_51 : decode cJ6_bitCount_0f7a4 51 = .ok (.iand, 1) := by decide +kernel
theorem dJ6_bitCount_0f7a4_52 : decode cJ6_bitCount_0f7a4 52 = .ok (.ireturn, 1) := by decide +kernel
end
section
theorem dX4_init_0 : decode cX4_init 0 = .ok (.aload_n 0, 1) := by decide +kernel
theorem dX4_init_1 : decode cX4_init 1 = .ok (.invokespecial 3, 3) := by decide +kernel
theorem dX4_init_4 : decode cX4_init 4 = .ok (.aload_n 0, 1) := by decide +kernel
theorem dX4_init_5 : decode cX4_init 5 = .ok (.iconst 1, 1) := by decide +kernel
theorem dX4_init_6 : decode cX4_init 6 = .ok (.putfield 9, 3) := by decide +kernel
theorem dX4_init_9 : decode cX4_init 9 = .ok (.aload_n 0, 1) := by decide +kernel
theorem dX4_init_10 : decode cX4_init 10 = .ok (.bipush 12, 2) := by decide +kernel
theorem dX4_init_12 : decode cX4_init 12 = .ok (.newarray .int, 2) := by decide +kernel
theorem dX4_init_14 : decode cX4_init 14 = .ok (.putfield 15, 3) := by decide +kernel
theorem dX4_init_17 : decode cX4_init 17 = .ok (.aload_n 0, 1) := by decide +kernel
theorem dX4_init_18 : decode cX4_init 18 = .ok (.bipush 12, 2) := by decide +kernel
theorem dX4_init_20 : decode cX4_init 20 = .ok (.newarray .int, 2) := by decide +kernel
theorem dX4_init_22 : decode cX4_init 22 = .ok (.putfield 19, 3) := by decide +kernel
theorem dX4_init_25 : decode cX4_init 25 = .ok (.aload_n 0, 1) := by decide +kernel
theorem dX4_init_26 : decode cX4_init 26 = .ok (.bipush 12, 2) := by decide +kernel
theorem dX4_init_28 : decode cX4_init 28 = .ok (.bipush 12, 2) := by decide +kernel
theorem dX4_init_30 : decode cX4_init 30 = .ok (.multianewarray 22 2, 4) := by decide +kernel
theorem dX4_init_34 : decode cX4_init 34 = .ok (.putfield 24, 3) := by decide +kernel
theorem dX4_init_37 : decode cX4_init 37 = .ok (.aload_n 0, 1) := by decide +kernel
theorem dX4_init_38 : decode cX4_init 38 = .ok (.bipush 12, 2) := by decide +kernel
theorem dX4_init_40 : decode cX4_init 40 = .ok (.newarray .int, 2) := by decide +kernel
theorem dX4_init_42 : decode cX4_init 42 = .ok (.putfield 27, 3) := by decide +kernel
theorem dX4_init_45 : decode cX4_init 45 = .ok (.aload_n 0, 1) := by decide +kernel
theorem dX4_init_46 : decode cX4_init 46 = .ok (.bipush 12, 2) := by decide +kernel
theorem dX4_init_48 : decode cX4_init 48 = .ok (.newarray .int, 2) := by decide +kernel
theorem dX4_init_50 : decode cX4_init 50 = .ok (.putfield 30, 3) := by decide +kernel
theorem dX4_init_53 : decode cX4_init 53 = .ok (.return_, 1) := by decide +kernel
theorem dX4_isPost_0 : decode cX4_isPost 0 = .ok (.iload_n 1, 1) := by decide +kernel
theorem dX4_isPost_1 : decode cX4_isPost 1 = .ok (.ifCond .lt 15, 3) := by decide +kernel
theorem dX4_isPost_4 : decode cX4_isPost 4 = .ok (.iload_n 1, 1) := by decide +kernel
theorem dX4_isPost_5 : decode cX4_isPost 5 = .ok (.aload_n 0, 1) := by decide +kernel
theorem dX4_isPost_6 : decode cX4_isPost 6 = .ok (.getfield 33, 3) := by decide +kernel
theorem dX4_isPost_9 : decode cX4_isPost 9 = .ok (.if_icmp .ge 7, 3) := by decide +kernel
theorem dX4_isPost_12 : decode cX4_isPost 12 = .ok (.iconst 1, 1) := by decide +kernel
theorem dX4_isPost_13 : decode cX4_isPost 13 = .ok (.goto 4, 3) := by decide +kernel
theorem dX4_isPost_16 : decode cX4_isPost 16 = .ok (.iconst 0, 1) := by decide +kernel
theorem dX4_isPost_17 : decode cX4_isPost 17 = .ok (.ireturn, 1) := by decide +kernel
theorem dX4_isSet_0 : decode cX4_isSet 0 = .ok (.iload_n 1, 1) := by decide +kernel
theorem dX4_isSet_1 : decode cX4_isSet 1 = .ok (.ifCond .lt 15, 3) := by decide +kernel
theorem dX4_isSet_4 : decode cX4_isSet 4 = .ok (.iload_n 1, 1) := by decide +kernel
theorem dX4_isSet_5 : decode cX4_isSet 5 = .ok (.aload_n 0, 1) := by decide +kernel
theorem dX4_isSet_6 : decode cX4_isSet 6 = .ok (.invokevirtual 36, 3) := by decide +kernel
theorem dX4_isSet_9 : decode cX4_isSet 9 = .ok (.if_icmp .gt 7, 3) := by decide +kernel
theorem dX4_isSet_12 : decode cX4_isSet 12 = .ok (.iconst 1, 1) := by decide +kernel
theorem dX4_isSet_13 : decode cX4_isSet 13 = .ok (.goto 4, 3) := by decide +kernel
theorem dX4_isSet_16 : decode cX4_isSet 16 = .ok (.iconst 0, 1) := by decide +kernel
theorem dX4_isSet_17 : decode cX4_isSet 17 = .ok (.ireturn, 1) := by decide +kernel
theorem dX4_allPosts_0 : decode cX4_allPosts 0 = .ok (.iconst 1, 1) := by decide +kernel
theorem dX4_allPosts_1 : decode cX4_allPosts 1 = .ok (.aload_n 0, 1) := by decide +kernel
theorem dX4_allPosts_2 : decode cX4_allPosts 2 = .ok (.getfield 33, 3) := by decide +kernel
theorem dX4_allPosts_5 : decode cX4_allPosts 5 = .ok (.ishl, 1) := by decide +kernel
theorem dX4_allPosts_6 : decode cX4_allPosts 6 = .ok (.iconst 1, 1) := by decide +kernel
theorem dX4_allPosts_7 : decode cX4_allPosts 7 = .ok (.isub, 1) := by decide +kernel
theorem dX4_allPosts_8 : decode cX4_allPosts 8 = .ok (.ireturn, 1) := by decide +kernel
theorem dX4_versionOf_0 : decode cX4_versionOf 0 = .ok (.iload_n 1, 1) := by decide +kernel
theorem dX4_versionOf_1 : decode cX4_versionOf 1 = .ok (.ifCond .ne 15, 3) := by decide +kernel
theorem dX4_versionOf_4 : decode cX4_versionOf 4 = .ok (.aload_n 0, 1) := by decide +kernel
theorem dX4_versionOf_5 : decode cX4_versionOf 5 = .ok (.getfield 9, 3) := by decide +kernel
theorem dX4_versionOf_8 : decode cX4_versionOf 8 = .ok (.aload_n 0, 1) := by decide +kernel
theorem dX4_versionOf_9 : decode cX4_versionOf 9 = .ok (.getfield 40, 3) := by decide +kernel
theorem dX4_versionOf_12 : decode cX4_versionOf 12 = .ok (.iadd, 1) := by decide +kernel
theorem dX4_versionOf_13 : decode cX4_versionOf 13 = .ok (.goto 7, 3) := by decide +kernel
theorem dX4_versionOf_16 : decode cX4_versionOf 16 = .ok (.aload_n 0, 1) := by decide +kernel
theorem dX4_versionOf_17 : decode cX4_versionOf 17 = .ok (.getfield 9, 3) := by decide +kernel
theorem dX4_versionOf_20 : decode cX4_versionOf 20 = .ok (.ireturn, 1) := by decide +kernel
theorem dX4_addPost_0 : decode cX4_addPost 0 = .ok (.aload_n 0, 1) := by decide +kernel
theorem dX4_addPost_1 : decode cX4_addPost 1 = .ok (.getfield 33, 3) := by decide +kernel
theorem dX4_addPost_4 : decode cX4_addPost 4 = .ok (.istore_n 1, 1) := by decide +kernel
theorem dX4_addPost_5 : decode cX4_addPost 5 = .ok (.aload_n 0, 1) := by decide +kernel
theorem dX4_addPost_6 : decode cX4_addPost 6 = .ok (.getfield 15, 3) := by decide +kernel
theorem dX4_addPost_9 : decode cX4_addPost 9 = .ok (.iload_n 1, 1) := by decide +kernel
theorem dX4_addPost_10 : decode cX4_addPost 10 = .ok (.iconst 1, 1) := by decide +kernel
theorem dX4_addPost_11 : decode cX4_addPost 11 = .ok (.iastore, 1) := by decide +kernel
theorem dX4_addPost_12 : decode cX4_addPost 12 = .ok (.aload_n 0, 1) := by decide +kernel
theorem dX4_addPost_13 : decode cX4_addPost 13 = .ok (.getfield 19, 3) := by decide +kernel
theorem dX4_addPost_16 : decode cX4_addPost 16 = .ok (.iload_n 1, 1) := by decide +kernel
theorem dX4_addPost_17 : decode cX4_addPost 17 = .ok (.iconst 1, 1) := by decide +kernel
theorem dX4_addPost_18 : decode cX4_addPost 18 = .ok (.iastore, 1) := by decide +kernel
theorem dX4_addPost_19 : decode cX4_addPost 19 = .ok (.aload_n 0, 1) := by decide +kernel
theorem dX4_addPost_20 : decode cX4_addPost 20 = .ok (.dup, 1) := by decide +kernel
theorem dX4_addPost_21 : decode cX4_addPost 21 = .ok (.getfield 33, 3) := by decide +kernel
theorem dX4_addPost_24 : decode cX4_addPost 24 = .ok (.iconst 1, 1) := by decide +kernel
theorem dX4_addPost_25 : decode cX4_addPost 25 = .ok (.iadd, 1) := by decide +kernel
theorem dX4_addPost_26 : decode cX4_addPost 26 = .ok (.putfield 33, 3) := by decide +kernel
theorem dX4_addPost_29 : decode cX4_addPost 29 = .ok (.aload_n 0, 1) := by decide +kernel
theorem dX4_addPost_30 : decode cX4_addPost 30 = .ok (.dup, 1) := by decide +kernel
theorem dX4_addPost_31 : decode cX4_addPost 31 = .ok (.getfield 9, 3) := by decide +kernel
theorem dX4_addPost_34 : decode cX4_addPost 34 = .ok (.iconst 1, 1) := by decide +kernel
theorem dX4_addPost_35 : decode cX4_addPost 35 = .ok (.iadd, 1) := by decide +kernel
theorem dX4_addPost_36 : decode cX4_addPost 36 = .ok (.putfield 9, 3) := by decide +kernel
theorem dX4_addPost_39 : decode cX4_addPost 39 = .ok (.iload_n 1, 1) := by decide +kernel
theorem dX4_addPost_40 : decode cX4_addPost 40 = .ok (.ireturn, 1) := by decide +kernel
theorem dX4_setWeight_0 : decode cX4_setWeight 0 = .ok (.aload_n 0, 1) := by decide +kernel
theorem dX4_setWeight_1 : decode cX4_setWeight 1 = .ok (.getfield 24, 3) := by decide +kernel
theorem dX4_setWeight_4 : decode cX4_setWeight 4 = .ok (.iload_n 1, 1) := by decide +kernel
theorem dX4_setWeight_5 : decode cX4_setWeight 5 = .ok (.aaload, 1) := by decide +kernel
theorem dX4_setWeight_6 : decode cX4_setWeight 6 = .ok (.iload_n 2, 1) := by decide +kernel
theorem dX4_setWeight_7 : decode cX4_setWeight 7 = .ok (.iaload, 1) := by decide +kernel
theorem dX4_setWeight_8 : decode cX4_setWeight 8 = .ok (.istore 4, 2) := by decide +kernel
theorem dX4_setWeight_10 : decode cX4_setWeight 10 = .ok (.aload_n 0, 1) := by decide +kernel
theorem dX4_setWeight_11 : decode cX4_setWeight 11 = .ok (.getfield 24, 3) := by decide +kernel
theorem dX4_setWeight_14 : decode cX4_setWeight 14 = .ok (.iload_n 1, 1) := by decide +kernel
theorem dX4_setWeight_15 : decode cX4_setWeight 15 = .ok (.aaload, 1) := by decide +kernel
theorem dX4_setWeight_16 : decode cX4_setWeight 16 = .ok (.iload_n 2, 1) := by decide +kernel
theorem dX4_setWeight_17 : decode cX4_setWeight 17 = .ok (.iload_n 3, 1) := by decide +kernel
theorem dX4_setWeight_18 : decode cX4_setWeight 18 = .ok (.iastore, 1) := by decide +kernel
theorem dX4_setWeight_19 : decode cX4_setWeight 19 = .ok (.iload_n 3, 1) := by decide +kernel
theorem dX4_setWeight_20 : decode cX4_setWeight 20 = .ok (.ifCond .ne 34, 3) := by decide +kernel
theorem dX4_setWeight_23 : decode cX4_setWeight 23 = .ok (.aload_n 0, 1) := by decide +kernel
theorem dX4_setWeight_24 : decode cX4_setWeight 24 = .ok (.getfield 27, 3) := by decide +kernel
theorem dX4_setWeight_27 : decode cX4_setWeight 27 = .ok (.iload_n 1, 1) := by decide +kernel
theorem dX4_setWeight_28 : decode cX4_setWeight 28 = .ok (.dup2, 1) := by decide +kernel
theorem dX4_setWeight_29 : decode cX4_setWeight 29 = .ok (.iaload, 1) := by decide +kernel
theorem dX4_setWeight_30 : decode cX4_setWeight 30 = .ok (.iconst 1, 1) := by decide +kernel
theorem dX4_setWeight_31 : decode cX4_setWeight 31 = .ok (.iload_n 2, 1) := by decide +kernel
theorem dX4_setWeight_32 : decode cX4_setWeight 32 = .ok (.ishl, 1) := by decide +kernel
theorem dX4_setWeight_33 : decode cX4_setWeight 33 = .ok (.iconst (-1), 1) := by decide +kernel
theorem dX4_setWeight_34 : decode cX4_setWeight 34 = .ok (.ixor, 1) := by decide +kernel
theorem dX4_setWeight_35 : decode cX4_setWeight 35 = .ok (.iand, 1) := by decide +kernel
theorem dX4_setWeight_36 : decode cX4_setWeight 36 = .ok (.iastore, 1) := by decide +kernel
theorem dX4_setWeight_37 : decode cX4_setWeight 37 = .ok (.aload_n 0, 1) := by decide +kernel
theorem dX4_setWeight_38 : decode cX4_setWeight 38 = .ok (.getfield 30, 3) := by decide +kernel
theorem dX4_setWeight_41 : decode cX4_setWeight 41 = .ok (.iload_n 2, 1) := by decide +kernel
theorem dX4_setWeight_42 : decode cX4_setWeight 42 = .ok (.dup2, 1) := by decide +kernel
theorem dX4_setWeight_43 : decode cX4_setWeight 43 = .ok (.iaload, 1) := by decide +kernel
theorem dX4_setWeight_44 : decode cX4_setWeight 44 = .ok (.iconst 1, 1) := by decide +kernel
theorem dX4_setWeight_45 : decode cX4_setWeight 45 = .ok (.iload_n 1, 1) := by decide +kernel
theorem dX4_setWeight_46 : decode cX4_setWeight 46 = .ok (.ishl, 1) := by decide +kernel
theorem dX4_setWeight_47 : decode cX4_setWeight 47 = .ok (.iconst (-1), 1) := by decide +kernel
theorem dX4_setWeight_48 : decode cX4_setWeight 48 = .ok (.ixor, 1) := by decide +kernel
theorem dX4_setWeight_49 : decode cX4_setWeight 49 = .ok (.iand, 1) := by decide +kernel
theorem dX4_setWeight_50 : decode cX4_setWeight 50 = .ok (.iastore, 1) := by decide +kernel
theorem dX4_setWeight_51 : decode cX4_setWeight 51 = .ok (.goto 27, 3) := by decide +kernel
theorem dX4_setWeight_54 : decode cX4_setWeight 54 = .ok (.aload_n 0, 1) := by decide +kernel
theorem dX4_setWeight_55 : decode cX4_setWeight 55 = .ok (.getfield 27, 3) := by decide +kernel
theorem dX4_setWeight_58 : decode cX4_setWeight 58 = .ok (.iload_n 1, 1) := by decide +kernel
theorem dX4_setWeight_59 : decode cX4_setWeight 59 = .ok (.dup2, 1) := by decide +kernel
theorem dX4_setWeight_60 : decode cX4_setWeight 60 = .ok (.iaload, 1) := by decide +kernel
theorem dX4_setWeight_61 : decode cX4_setWeight 61 = .ok (.iconst 1, 1) := by decide +kernel
theorem dX4_setWeight_62 : decode cX4_setWeight 62 = .ok (.iload_n 2, 1) := by decide +kernel
theorem dX4_setWeight_63 : decode cX4_setWeight 63 = .ok (.ishl, 1) := by decide +kernel
theorem dX4_setWeight_64 : decode cX4_setWeight 64 = .ok (.ior, 1) := by decide +kernel
theorem dX4_setWeight_65 : decode cX4_setWeight 65 = .ok (.iastore, 1) := by decide +kernel
theorem dX4_setWeight_66 : decode cX4_setWeight 66 = .ok (.aload_n 0, 1) := by decide +kernel
theorem dX4_setWeight_67 : decode cX4_setWeight 67 = .ok (.getfield 30, 3) := by decide +kernel
theorem dX4_setWeight_70 : decode cX4_setWeight 70 = .ok (.iload_n 2, 1) := by decide +kernel
theorem dX4_setWeight_71 : decode cX4_setWeight 71 = .ok (.dup2, 1) := by decide +kernel
theorem dX4_setWeight_72 : decode cX4_setWeight 72 = .ok (.iaload, 1) := by decide +kernel
theorem dX4_setWeight_73 : decode cX4_setWeight 73 = .ok (.iconst 1, 1) := by decide +kernel
theorem dX4_setWeight_74 : decode cX4_setWeight 74 = .ok (.iload_n 1, 1) := by decide +kernel
theorem dX4_setWeight_75 : decode cX4_setWeight 75 = .ok (.ishl, 1) := by decide +kernel
theorem dX4_setWeight_76 : decode cX4_setWeight 76 = .ok (.ior, 1) := by decide +kernel
theorem dX4_setWeight_77 : decode cX4_setWeight 77 = .ok (.iastore, 1) := by decide +kernel
theorem dX4_setWeight_78 : decode cX4_setWeight 78 = .ok (.aload_n 0, 1) := by decide +kernel
theorem dX4_setWeight_79 : decode cX4_setWeight 79 = .ok (.dup, 1) := by decide +kernel
theorem dX4_setWeight_80 : decode cX4_setWeight 80 = .ok (.getfield 9, 3) := by decide +kernel
theorem dX4_setWeight_83 : decode cX4_setWeight 83 = .ok (.iconst 1, 1) := by decide +kernel
theorem dX4_setWeight_84 : decode cX4_setWeight 84 = .ok (.iadd, 1) := by decide +kernel
theorem dX4_setWeight_85 : decode cX4_setWeight 85 = .ok (.putfield 9, 3) := by decide +kernel
theorem dX4_setWeight_88 : decode cX4_setWeight 88 = .ok (.iload 4, 2) := by decide +kernel
theorem dX4_setWeight_90 : decode cX4_setWeight 90 = .ok (.ireturn, 1) := by decide +kernel
theorem dX4_setBar_0 : decode cX4_setBar 0 = .ok (.aload_n 0, 1) := by decide +kernel
theorem dX4_setBar_1 : decode cX4_setBar 1 = .ok (.getfield 15, 3) := by decide +kernel
theorem dX4_setBar_4 : decode cX4_setBar 4 = .ok (.iload_n 1, 1) := by decide +kernel
theorem dX4_setBar_5 : decode cX4_setBar 5 = .ok (.iaload, 1) := by decide +kernel
theorem dX4_setBar_6 : decode cX4_setBar 6 = .ok (.istore_n 3, 1) := by decide +kernel
theorem dX4_setBar_7 : decode cX4_setBar 7 = .ok (.aload_n 0, 1) := by decide +kernel
theorem dX4_setBar_8 : decode cX4_setBar 8 = .ok (.getfield 15, 3) := by decide +kernel
theorem dX4_setBar_11 : decode cX4_setBar 11 = .ok (.iload_n 1, 1) := by decide +kernel
theorem dX4_setBar_12 : decode cX4_setBar 12 = .ok (.iload_n 2, 1) := by decide +kernel
theorem dX4_setBar_13 : decode cX4_setBar 13 = .ok (.iastore, 1) := by decide +kernel
theorem dX4_setBar_14 : decode cX4_setBar 14 = .ok (.aload_n 0, 1) := by decide +kernel
theorem dX4_setBar_15 : decode cX4_setBar 15 = .ok (.dup, 1) := by decide +kernel
theorem dX4_setBar_16 : decode cX4_setBar 16 = .ok (.getfield 40, 3) := by decide +kernel
theorem dX4_setBar_19 : decode cX4_setBar 19 = .ok (.iconst 1, 1) := by decide +kernel
theorem dX4_setBar_20 : decode cX4_setBar 20 = .ok (.iadd, 1) := by decide +kernel
theorem dX4_setBar_21 : decode cX4_setBar 21 = .ok (.putfield 40, 3) := by decide +kernel
theorem dX4_setBar_24 : decode cX4_setBar 24 = .ok (.iload_n 3, 1) := by decide +kernel
theorem dX4_setBar_25 : decode cX4_setBar 25 = .ok (.ireturn, 1) := by decide +kernel
theorem dX4_setPrice_0 : decode cX4_setPrice 0 = .ok (.aload_n 0, 1) := by decide +kernel
theorem dX4_setPrice_1 : decode cX4_setPrice 1 = .ok (.getfield 19, 3) := by decide +kernel
theorem dX4_setPrice_4 : decode cX4_setPrice 4 = .ok (.iload_n 1, 1) := by decide +kernel
theorem dX4_setPrice_5 : decode cX4_setPrice 5 = .ok (.iaload, 1) := by decide +kernel
theorem dX4_setPrice_6 : decode cX4_setPrice 6 = .ok (.istore_n 3, 1) := by decide +kernel
theorem dX4_setPrice_7 : decode cX4_setPrice 7 = .ok (.aload_n 0, 1) := by decide +kernel
theorem dX4_setPrice_8 : decode cX4_setPrice 8 = .ok (.getfield 19, 3) := by decide +kernel
theorem dX4_setPrice_11 : decode cX4_setPrice 11 = .ok (.iload_n 1, 1) := by decide +kernel
theorem dX4_setPrice_12 : decode cX4_setPrice 12 = .ok (.iload_n 2, 1) := by decide +kernel
theorem dX4_setPrice_13 : decode cX4_setPrice 13 = .ok (.iastore, 1) := by decide +kernel
theorem dX4_setPrice_14 : decode cX4_setPrice 14 = .ok (.iload_n 3, 1) := by decide +kernel
theorem dX4_setPrice_15 : decode cX4_setPrice 15 = .ok (.ireturn, 1) := by decide +kernel
theorem dX4_priceOf_0 : decode cX4_priceOf 0 = .ok (.iconst 0, 1) := by decide +kernel
theorem dX4_priceOf_1 : decode cX4_priceOf 1 = .ok (.istore_n 2, 1) := by decide +kernel
theorem dX4_priceOf_2 : decode cX4_priceOf 2 = .ok (.iconst 0, 1) := by decide +kernel
theorem dX4_priceOf_3 : decode cX4_priceOf 3 = .ok (.istore_n 3, 1) := by decide +kernel
theorem dX4_priceOf_4 : decode cX4_priceOf 4 = .ok (.iload_n 3, 1) := by decide +kernel
theorem dX4_priceOf_5 : decode cX4_priceOf 5 = .ok (.aload_n 0, 1) := by decide +kernel
theorem dX4_priceOf_6 : decode cX4_priceOf 6 = .ok (.getfield 33, 3) := by decide +kernel
theorem dX4_priceOf_9 : decode cX4_priceOf 9 = .ok (.if_icmp .ge 26, 3) := by decide +kernel
theorem dX4_priceOf_12 : decode cX4_priceOf 12 = .ok (.iload_n 1, 1) := by decide +kernel
theorem dX4_priceOf_13 : decode cX4_priceOf 13 = .ok (.iload_n 3, 1) := by decide +kernel
theorem dX4_priceOf_14 : decode cX4_priceOf 14 = .ok (.invokestatic 43, 3) := by decide +kernel
theorem dX4_priceOf_17 : decode cX4_priceOf 17 = .ok (.ifCond .eq 12, 3) := by decide +kernel
theorem dX4_priceOf_20 : decode cX4_priceOf 20 = .ok (.iload_n 2, 1) := by decide +kernel
theorem dX4_priceOf_21 : decode cX4_priceOf 21 = .ok (.aload_n 0, 1) := by decide +kernel
theorem dX4_priceOf_22 : decode cX4_priceOf 22 = .ok (.getfield 19, 3) := by decide +kernel
theorem dX4_priceOf_25 : decode cX4_priceOf 25 = .ok (.iload_n 3, 1) := by decide +kernel
theorem dX4_priceOf_26 : decode cX4_priceOf 26 = .ok (.iaload, 1) := by decide +kernel
theorem dX4_priceOf_27 : decode cX4_priceOf 27 = .ok (.iadd, 1) := by decide +kernel
theorem dX4_priceOf_28 : decode cX4_priceOf 28 = .ok (.istore_n 2, 1) := by decide +kernel
theorem dX4_priceOf_29 : decode cX4_priceOf 29 = .ok (.iinc 3 1, 3) := by decide +kernel
theorem dX4_priceOf_32 : decode cX4_priceOf 32 = .ok (.goto (-28), 3) := by decide +kernel
theorem dX4_priceOf_35 : decode cX4_priceOf 35 = .ok (.iload_n 2, 1) := by decide +kernel
theorem dX4_priceOf_36 : decode cX4_priceOf 36 = .ok (.ireturn, 1) := by decide +kernel
theorem dX4_weightOnto_0 : decode cX4_weightOnto 0 = .ok (.iload_n 2, 1) := by decide +kernel
theorem dX4_weightOnto_1 : decode cX4_weightOnto 1 = .ok (.aload_n 0, 1) := by decide +kernel
theorem dX4_weightOnto_2 : decode cX4_weightOnto 2 = .ok (.getfield 30, 3) := by decide +kernel
theorem dX4_weightOnto_5 : decode cX4_weightOnto 5 = .ok (.iload_n 1, 1) := by decide +kernel
theorem dX4_weightOnto_6 : decode cX4_weightOnto 6 = .ok (.iaload, 1) := by decide +kernel
theorem dX4_weightOnto_7 : decode cX4_weightOnto 7 = .ok (.iand, 1) := by decide +kernel
theorem dX4_weightOnto_8 : decode cX4_weightOnto 8 = .ok (.istore_n 3, 1) := by decide +kernel
theorem dX4_weightOnto_9 : decode cX4_weightOnto 9 = .ok (.iconst 0, 1) := by decide +kernel
theorem dX4_weightOnto_10 : decode cX4_weightOnto 10 = .ok (.istore 4, 2) := by decide +kernel
theorem dX4_weightOnto_12 : decode cX4_weightOnto 12 = .ok (.iconst 0, 1) := by decide +kernel
theorem dX4_weightOnto_13 : decode cX4_weightOnto 13 = .ok (.istore 5, 2) := by decide +kernel
theorem dX4_weightOnto_15 : decode cX4_weightOnto 15 = .ok (.iload 5, 2) := by decide +kernel
theorem dX4_weightOnto_17 : decode cX4_weightOnto 17 = .ok (.aload_n 0, 1) := by decide +kernel
theorem dX4_weightOnto_18 : decode cX4_weightOnto 18 = .ok (.getfield 33, 3) := by decide +kernel
theorem dX4_weightOnto_21 : decode cX4_weightOnto 21 = .ok (.if_icmp .ge 37, 3) := by decide +kernel
theorem dX4_weightOnto_24 : decode cX4_weightOnto 24 = .ok (.iload_n 3, 1) := by decide +kernel
theorem dX4_weightOnto_25 : decode cX4_weightOnto 25 = .ok (.iload 5, 2) := by decide +kernel
theorem dX4_weightOnto_27 : decode cX4_weightOnto 27 = .ok (.ishr, 1) := by decide +kernel
theorem dX4_weightOnto_28 : decode cX4_weightOnto 28 = .ok (.ifCond .eq 30, 3) := by decide +kernel
theorem dX4_weightOnto_31 : decode cX4_weightOnto 31 = .ok (.iload 4, 2) := by decide +kernel
theorem dX4_weightOnto_33 : decode cX4_weightOnto 33 = .ok (.iload_n 3, 1) := by decide +kernel
theorem dX4_weightOnto_34 : decode cX4_weightOnto 34 = .ok (.iload 5, 2) := by decide +kernel
theorem dX4_weightOnto_36 : decode cX4_weightOnto 36 = .ok (.ishr, 1) := by decide +kernel
theorem dX4_weightOnto_37 : decode cX4_weightOnto 37 = .ok (.iconst 1, 1) := by decide +kernel
theorem dX4_weightOnto_38 : decode cX4_weightOnto 38 = .ok (.iand, 1) := by decide +kernel
theorem dX4_weightOnto_39 : decode cX4_weightOnto 39 = .ok (.aload_n 0, 1) := by decide +kernel
theorem dX4_weightOnto_40 : decode cX4_weightOnto 40 = .ok (.getfield 24, 3) := by decide +kernel
theorem dX4_weightOnto_43 : decode cX4_weightOnto 43 = .ok (.iload 5, 2) := by decide +kernel
theorem dX4_weightOnto_45 : decode cX4_weightOnto 45 = .ok (.aaload, 1) := by decide +kernel
theorem dX4_weightOnto_46 : decode cX4_weightOnto 46 = .ok (.iload_n 1, 1) := by decide +kernel
theorem dX4_weightOnto_47 : decode cX4_weightOnto 47 = .ok (.iaload, 1) := by decide +kernel
theorem dX4_weightOnto_48 : decode cX4_weightOnto 48 = .ok (.imul, 1) := by decide +kernel
theorem dX4_weightOnto_49 : decode cX4_weightOnto 49 = .ok (.iadd, 1) := by decide +kernel
theorem dX4_weightOnto_50 : decode cX4_weightOnto 50 = .ok (.istore 4, 2) := by decide +kernel
theorem dX4_weightOnto_52 : decode cX4_weightOnto 52 = .ok (.iinc 5 1, 3) := by decide +kernel
theorem dX4_weightOnto_55 : decode cX4_weightOnto 55 = .ok (.goto (-40), 3) := by decide +kernel
theorem dX4_weightOnto_58 : decode cX4_weightOnto 58 = .ok (.iload 4, 2) := by decide +kernel
theorem dX4_weightOnto_60 : decode cX4_weightOnto 60 = .ok (.ireturn, 1) := by decide +kernel
theorem dX4_withBehind_0 : decode cX4_withBehind 0 = .ok (.iload_n 1, 1) := by decide +kernel
theorem dX4_withBehind_1 : decode cX4_withBehind 1 = .ok (.istore_n 2, 1) := by decide +kernel
theorem dX4_withBehind_2 : decode cX4_withBehind 2 = .ok (.iconst 0, 1) := by decide +kernel
theorem dX4_withBehind_3 : decode cX4_withBehind 3 = .ok (.istore_n 3, 1) := by decide +kernel
theorem dX4_withBehind_4 : decode cX4_withBehind 4 = .ok (.iload_n 3, 1) := by decide +kernel
theorem dX4_withBehind_5 : decode cX4_withBehind 5 = .ok (.aload_n 0, 1) := by decide +kernel
theorem dX4_withBehind_6 : decode cX4_withBehind 6 = .ok (.getfield 33, 3) := by decide +kernel
theorem dX4_withBehind_9 : decode cX4_withBehind 9 = .ok (.if_icmp .ge 26, 3) := by decide +kernel
theorem dX4_withBehind_12 : decode cX4_withBehind 12 = .ok (.iload_n 1, 1) := by decide +kernel
theorem dX4_withBehind_13 : decode cX4_withBehind 13 = .ok (.iload_n 3, 1) := by decide +kernel
theorem dX4_withBehind_14 : decode cX4_withBehind 14 = .ok (.invokestatic 43, 3) := by decide +kernel
theorem dX4_withBehind_17 : decode cX4_withBehind 17 = .ok (.ifCond .eq 12, 3) := by decide +kernel
theorem dX4_withBehind_20 : decode cX4_withBehind 20 = .ok (.iload_n 2, 1) := by decide +kernel
theorem dX4_withBehind_21 : decode cX4_withBehind 21 = .ok (.aload_n 0, 1) := by decide +kernel
theorem dX4_withBehind_22 : decode cX4_withBehind 22 = .ok (.getfield 27, 3) := by decide +kernel
theorem dX4_withBehind_25 : decode cX4_withBehind 25 = .ok (.iload_n 3, 1) := by decide +kernel
theorem dX4_withBehind_26 : decode cX4_withBehind 26 = .ok (.iaload, 1) := by decide +kernel
theorem dX4_withBehind_27 : decode cX4_withBehind 27 = .ok (.ior, 1) := by decide +kernel
theorem dX4_withBehind_28 : decode cX4_withBehind 28 = .ok (.istore_n 2, 1) := by decide +kernel
theorem dX4_withBehind_29 : decode cX4_withBehind 29 = .ok (.iinc 3 1, 3) := by decide +kernel
theorem dX4_withBehind_32 : decode cX4_withBehind 32 = .ok (.goto (-28), 3) := by decide +kernel
theorem dX4_withBehind_35 : decode cX4_withBehind 35 = .ok (.iload_n 2, 1) := by decide +kernel
theorem dX4_withBehind_36 : decode cX4_withBehind 36 = .ok (.ireturn, 1) := by decide +kernel
end
section
theorem dX6_init_0 : decode cX6_init 0 = .ok (.aload_n 0, 1) := by decide +kernel
theorem dX6_init_1 : decode cX6_init 1 = .ok (.invokespecial 3, 3) := by decide +kernel
theorem dX6_init_4 : decode cX6_init 4 = .ok (.aload_n 0, 1) := by decide +kernel
theorem dX6_init_5 : decode cX6_init 5 = .ok (.iconst 3, 1) := by decide +kernel
theorem dX6_init_6 : decode cX6_init 6 = .ok (.sipush 4096, 3) := by decide +kernel
theorem dX6_init_9 : decode cX6_init 9 = .ok (.multianewarray 9 2, 4) := by decide +kernel
theorem dX6_init_13 : decode cX6_init 13 = .ok (.putfield 11, 3) := by decide +kernel
theorem dX6_init_16 : decode cX6_init 16 = .ok (.aload_n 0, 1) := by decide +kernel
theorem dX6_init_17 : decode cX6_init 17 = .ok (.iconst 3, 1) := by decide +kernel
theorem dX6_init_18 : decode cX6_init 18 = .ok (.newarray .int, 2) := by decide +kernel
theorem dX6_init_20 : decode cX6_init 20 = .ok (.putfield 16, 3) := by decide +kernel
theorem dX6_init_23 : decode cX6_init 23 = .ok (.aload_n 0, 1) := by decide +kernel
theorem dX6_init_24 : decode cX6_init 24 = .ok (.aload_n 1, 1) := by decide +kernel
theorem dX6_init_25 : decode cX6_init 25 = .ok (.putfield 20, 3) := by decide +kernel
theorem dX6_init_28 : decode cX6_init 28 = .ok (.return_, 1) := by decide +kernel
theorem dX6_afterTick_0 : decode cX6_afterTick 0 = .ok (.iload_n 1, 1) := by decide +kernel
theorem dX6_afterTick_1 : decode cX6_afterTick 1 = .ok (.ifCond .ne 11, 3) := by decide +kernel
theorem dX6_afterTick_4 : decode cX6_afterTick 4 = .ok (.aload_n 0, 1) := by decide +kernel
theorem dX6_afterTick_5 : decode cX6_afterTick 5 = .ok (.iload_n 2, 1) := by decide +kernel
theorem dX6_afterTick_6 : decode cX6_afterTick 6 = .ok (.invokevirtual 24, 3) := by decide +kernel
theorem dX6_afterTick_9 : decode cX6_afterTick 9 = .ok (.goto 8, 3) := by decide +kernel
theorem dX6_afterTick_12 : decode cX6_afterTick 12 = .ok (.aload_n 0, 1) := by decide +kernel
theorem dX6_afterTick_13 : decode cX6_afterTick 13 = .ok (.iload_n 2, 1) := by decide +kernel
theorem dX6_afterTick_14 : decode cX6_afterTick 14 = .ok (.invokevirtual 28, 3) := by decide +kernel
theorem dX6_afterTick_17 : decode cX6_afterTick 17 = .ok (.ireturn, 1) := by decide +kernel
theorem dX6_afterTickOfBars_0 : decode cX6_afterTickOfBars 0 = .ok (.iload_n 1, 1) := by decide +kernel
theorem dX6_afterTickOfBars_1 : decode cX6_afterTickOfBars 1 = .ok (.istore_n 2, 1) := by decide +kernel
theorem dX6_afterTickOfBars_2 : decode cX6_afterTickOfBars 2 = .ok (.iconst 0, 1) := by decide +kernel
theorem dX6_afterTickOfBars_3 : decode cX6_afterTickOfBars 3 = .ok (.istore_n 3, 1) := by decide +kernel
theorem dX6_afterTickOfBars_4 : decode cX6_afterTickOfBars 4 = .ok (.iload_n 3, 1) := by decide +kernel
theorem dX6_afterTickOfBars_5 : decode cX6_afterTickOfBars 5 = .ok (.aload_n 0, 1) := by decide +kernel
theorem dX6_afterTickOfBars_6 : decode cX6_afterTickOfBars 6 = .ok (.getfield 20, 3) := by decide +kernel
theorem dX6_afterTickOfBars_9 : decode cX6_afterTickOfBars 9 = .ok (.getfield 31, 3) := by decide +kernel
theorem dX6_afterTickOfBars_12 : decode cX6_afterTickOfBars 12 = .ok (.if_icmp .ge 44, 3) := by decide +kernel
theorem dX6_afterTickOfBars_15 : decode cX6_afterTickOfBars 15 = .ok (.iload_n 1, 1) := by decide +kernel
theorem dX6_afterTickOfBars_16 : decode cX6_afterTickOfBars 16 = .ok (.iload_n 3, 1) := by decide +kernel
theorem dX6_afterTickOfBars_17 : decode cX6_afterTickOfBars 17 = .ok (.invokestatic 37, 3) := by decide +kernel
theorem dX6_afterTickOfBars_20 : decode cX6_afterTickOfBars 20 = .ok (.ifCond .ne 30, 3) := by decide +kernel
theorem dX6_afterTickOfBars_23 : decode cX6_afterTickOfBars 23 = .ok (.aload_n 0, 1) := by decide +kernel
theorem dX6_afterTickOfBars_24 : decode cX6_afterTickOfBars 24 = .ok (.getfield 20, 3) := by decide +kernel
theorem dX6_afterTickOfBars_27 : decode cX6_afterTickOfBars 27 = .ok (.iload_n 3, 1) := by decide +kernel
theorem dX6_afterTickOfBars_28 : decode cX6_afterTickOfBars 28 = .ok (.iload_n 1, 1) := by decide +kernel
theorem dX6_afterTickOfBars_29 : decode cX6_afterTickOfBars 29 = .ok (.invokevirtual 41, 3) := by decide +kernel
theorem dX6_afterTickOfBars_32 : decode cX6_afterTickOfBars 32 = .ok (.aload_n 0, 1) := by decide +kernel
theorem dX6_afterTickOfBars_33 : decode cX6_afterTickOfBars 33 = .ok (.getfield 20, 3) := by decide +kernel
theorem dX6_afterTickOfBars_36 : decode cX6_afterTickOfBars 36 = .ok (.getfield 45, 3) := by decide +kernel
theorem dX6_afterTickOfBars_39 : decode cX6_afterTickOfBars 39 = .ok (.iload_n 3, 1) := by decide +kernel
theorem dX6_afterTickOfBars_40 : decode cX6_afterTickOfBars 40 = .ok (.iaload, 1) := by decide +kernel
theorem dX6_afterTickOfBars_41 : decode cX6_afterTickOfBars 41 = .ok (.if_icmp .lt 9, 3) := by decide +kernel
theorem dX6_afterTickOfBars_44 : decode cX6_afterTickOfBars 44 = .ok (.iload_n 2, 1) := by decide +kernel
theorem dX6_afterTickOfBars_45 : decode cX6_afterTickOfBars 45 = .ok (.iconst 1, 1) := by decide +kernel
theorem dX6_afterTickOfBars_46 : decode cX6_afterTickOfBars 46 = .ok (.iload_n 3, 1) := by decide +kernel
theorem dX6_afterTickOfBars_47 : decode cX6_afterTickOfBars 47 = .ok (.ishl, 1) := by decide +kernel
theorem dX6_afterTickOfBars_48 : decode cX6_afterTickOfBars 48 = .ok (.ior, 1) := by decide +kernel
theorem dX6_afterTickOfBars_49 : decode cX6_afterTickOfBars 49 = .ok (.istore_n 2, 1) := by decide +kernel
theorem dX6_afterTickOfBars_50 : decode cX6_afterTickOfBars 50 = .ok (.iinc 3 1, 3) := by decide +kernel
theorem dX6_afterTickOfBars_53 : decode cX6_afterTickOfBars 53 = .ok (.goto (-49), 3) := by decide +kernel
theorem dX6_afterTickOfBars_56 : decode cX6_afterTickOfBars 56 = .ok (.iload_n 2, 1) := by decide +kernel
theorem dX6_afterTickOfBars_57 : decode cX6_afterTickOfBars 57 = .ok (.ireturn, 1) := by decide +kernel
theorem dX6_afterTickOfForced_0 : decode cX6_afterTickOfForced 0 = .ok (.iload_n 1, 1) := by decide +kernel
theorem dX6_afterTickOfForced_1 : decode cX6_afterTickOfForced 1 = .ok (.istore_n 2, 1) := by decide +kernel
theorem dX6_afterTickOfForced_2 : decode cX6_afterTickOfForced 2 = .ok (.iconst 0, 1) := by decide +kernel
theorem dX6_afterTickOfForced_3 : decode cX6_afterTickOfForced 3 = .ok (.istore_n 3, 1) := by decide +kernel
theorem dX6_afterTickOfForced_4 : decode cX6_afterTickOfForced 4 = .ok (.iload_n 3, 1) := by decide +kernel
theorem dX6_afterTickOfForced_5 : decode cX6_afterTickOfForced 5 = .ok (.aload_n 0, 1) := by decide +kernel
theorem dX6_afterTickOfForced_6 : decode cX6_afterTickOfForced 6 = .ok (.getfield 20, 3) := by decide +kernel
theorem dX6_afterTickOfForced_9 : decode cX6_afterTickOfForced 9 = .ok (.getfield 31, 3) := by decide +kernel
theorem dX6_afterTickOfForced_12 : decode cX6_afterTickOfForced 12 = .ok (.if_icmp .ge 59, 3) := by decide +kernel
theorem dX6_afterTickOfForced_15 : decode cX6_afterTickOfForced 15 = .ok (.aload_n 0, 1) := by decide +kernel
theorem dX6_afterTickOfForced_16 : decode cX6_afterTickOfForced 16 = .ok (.getfield 20, 3) := by decide +kernel
theorem dX6_afterTickOfForced_19 : decode cX6_afterTickOfForced 19 = .ok (.getfield 48, 3) := by decide +kernel
theorem dX6_afterTickOfForced_22 : decode cX6_afterTickOfForced 22 = .ok (.iload_n 3, 1) := by decide +kernel
theorem dX6_afterTickOfForced_23 : decode cX6_afterTickOfForced 23 = .ok (.iaload, 1) := by decide +kernel
theorem dX6_afterTickOfForced_24 : decode cX6_afterTickOfForced 24 = .ok (.iload_n 1, 1) := by decide +kernel
theorem dX6_afterTickOfForced_25 : decode cX6_afterTickOfForced 25 = .ok (.iconst (-1), 1) := by decide +kernel
theorem dX6_afterTickOfForced_26 : decode cX6_afterTickOfForced 26 = .ok (.ixor, 1) := by decide +kernel
theorem dX6_afterTickOfForced_27 : decode cX6_afterTickOfForced 27 = .ok (.iand, 1) := by decide +kernel
theorem dX6_afterTickOfForced_28 : decode cX6_afterTickOfForced 28 = .ok (.istore 4, 2) := by decide +kernel
theorem dX6_afterTickOfForced_30 : decode cX6_afterTickOfForced 30 = .ok (.iload 4, 2) := by decide +kernel
theorem dX6_afterTickOfForced_32 : decode cX6_afterTickOfForced 32 = .ok (.iload 4, 2) := by decide +kernel
theorem dX6_afterTickOfForced_34 : decode cX6_afterTickOfForced 34 = .ok (.iconst 1, 1) := by decide +kernel
theorem dX6_afterTickOfForced_35 : decode cX6_afterTickOfForced 35 = .ok (.isub, 1) := by decide +kernel
theorem dX6_afterTickOfForced_36 : decode cX6_afterTickOfForced 36 = .ok (.iand, 1) := by decide +kernel
theorem dX6_afterTickOfForced_37 : decode cX6_afterTickOfForced 37 = .ok (.ifCond .ne 7, 3) := by decide +kernel
theorem dX6_afterTickOfForced_40 : decode cX6_afterTickOfForced 40 = .ok (.iconst 1, 1) := by decide +kernel
theorem dX6_afterTickOfForced_41 : decode cX6_afterTickOfForced 41 = .ok (.goto 4, 3) := by decide +kernel
theorem dX6_afterTickOfForced_44 : decode cX6_afterTickOfForced 44 = .ok (.iconst 0, 1) := by decide +kernel
theorem dX6_afterTickOfForced_45 : decode cX6_afterTickOfForced 45 = .ok (.istore 5, 2) := by decide +kernel
theorem dX6_afterTickOfForced_47 : decode cX6_afterTickOfForced 47 = .ok (.iload 5, 2) := by decide +kernel
theorem dX6_afterTickOfForced_49 : decode cX6_afterTickOfForced 49 = .ok (.ifCond .eq 16, 3) := by decide +kernel
theorem dX6_afterTickOfForced_52 : decode cX6_afterTickOfForced 52 = .ok (.iload_n 1, 1) := by decide +kernel
theorem dX6_afterTickOfForced_53 : decode cX6_afterTickOfForced 53 = .ok (.iload_n 3, 1) := by decide +kernel
theorem dX6_afterTickOfForced_54 : decode cX6_afterTickOfForced 54 = .ok (.invokestatic 37, 3) := by decide +kernel
theorem dX6_afterTickOfForced_57 : decode cX6_afterTickOfForced 57 = .ok (.ifCond .eq 8, 3) := by decide +kernel
theorem dX6_afterTickOfForced_60 : decode cX6_afterTickOfForced 60 = .ok (.iload_n 2, 1) := by decide +kernel
theorem dX6_afterTickOfForced_61 : decode cX6_afterTickOfForced 61 = .ok (.iload 4, 2) := by decide +kernel
theorem dX6_afterTickOfForced_63 : decode cX6_afterTickOfForced 63 = .ok (.ior, 1) := by decide +kernel
theorem dX6_afterTickOfForced_64 : decode cX6_afterTickOfForced 64 = .ok (.istore_n 2, 1) := by decide +kernel
theorem dX6_afterTickOfForced_65 : decode cX6_afterTickOfForced 65 = .ok (.iinc 3 1, 3) := by decide +kernel
theorem dX6_afterTickOfForced_68 : decode cX6_afterTickOfForced 68 = .ok (.goto (-64), 3) := by decide +kernel
theorem dX6_afterTickOfForced_71 : decode cX6_afterTickOfForced 71 = .ok (.iload_n 2, 1) := by decide +kernel
theorem dX6_afterTickOfForced_72 : decode cX6_afterTickOfForced 72 = .ok (.ireturn, 1) := by decide +kernel
theorem dX6_endsOf_0 : decode cX6_endsOf 0 = .ok (.aload_n 0, 1) := by decide +kernel
theorem dX6_endsOf_1 : decode cX6_endsOf 1 = .ok (.getfield 16, 3) := by decide +kernel
theorem dX6_endsOf_4 : decode cX6_endsOf 4 = .ok (.iload_n 1, 1) := by decide +kernel
theorem dX6_endsOf_5 : decode cX6_endsOf 5 = .ok (.iaload, 1) := by decide +kernel
theorem dX6_endsOf_6 : decode cX6_endsOf 6 = .ok (.aload_n 0, 1) := by decide +kernel
theorem dX6_endsOf_7 : decode cX6_endsOf 7 = .ok (.getfield 20, 3) := by decide +kernel
theorem dX6_endsOf_10 : decode cX6_endsOf 10 = .ok (.iload_n 1, 1) := by decide +kernel
theorem dX6_endsOf_11 : decode cX6_endsOf 11 = .ok (.invokevirtual 51, 3) := by decide +kernel
theorem dX6_endsOf_14 : decode cX6_endsOf 14 = .ok (.if_icmp .eq 25, 3) := by decide +kernel
theorem dX6_endsOf_17 : decode cX6_endsOf 17 = .ok (.iload_n 1, 1) := by decide +kernel
theorem dX6_endsOf_18 : decode cX6_endsOf 18 = .ok (.iconst 2, 1) := by decide +kernel
theorem dX6_endsOf_19 : decode cX6_endsOf 19 = .ok (.if_icmp .ne 15, 3) := by decide +kernel
theorem dX6_endsOf_22 : decode cX6_endsOf 22 = .ok (.aload_n 0, 1) := by decide +kernel
theorem dX6_endsOf_23 : decode cX6_endsOf 23 = .ok (.iconst 1, 1) := by decide +kernel
theorem dX6_endsOf_24 : decode cX6_endsOf 24 = .ok (.invokevirtual 54, 3) := by decide +kernel
theorem dX6_endsOf_27 : decode cX6_endsOf 27 = .ok (.aload_n 0, 1) := by decide +kernel
theorem dX6_endsOf_28 : decode cX6_endsOf 28 = .ok (.invokevirtual 58, 3) := by decide +kernel
theorem dX6_endsOf_31 : decode cX6_endsOf 31 = .ok (.goto 8, 3) := by decide +kernel
theorem dX6_endsOf_34 : decode cX6_endsOf 34 = .ok (.aload_n 0, 1) := by decide +kernel
theorem dX6_endsOf_35 : decode cX6_endsOf 35 = .ok (.iload_n 1, 1) := by decide +kernel
theorem dX6_endsOf_36 : decode cX6_endsOf 36 = .ok (.invokevirtual 54, 3) := by decide +kernel
theorem dX6_endsOf_39 : decode cX6_endsOf 39 = .ok (.aload_n 0, 1) := by decide +kernel
theorem dX6_endsOf_40 : decode cX6_endsOf 40 = .ok (.getfield 11, 3) := by decide +kernel
theorem dX6_endsOf_43 : decode cX6_endsOf 43 = .ok (.iload_n 1, 1) := by decide +kernel
theorem dX6_endsOf_44 : decode cX6_endsOf 44 = .ok (.aaload, 1) := by decide +kernel
theorem dX6_endsOf_45 : decode cX6_endsOf 45 = .ok (.areturn, 1) := by decide +kernel
theorem dX6_fillPlain_0 : decode cX6_fillPlain 0 = .ok (.aload_n 0, 1) := by decide +kernel
theorem dX6_fillPlain_1 : decode cX6_fillPlain 1 = .ok (.getfield 11, 3) := by decide +kernel
theorem dX6_fillPlain_4 : decode cX6_fillPlain 4 = .ok (.iload_n 1, 1) := by decide +kernel
theorem dX6_fillPlain_5 : decode cX6_fillPlain 5 = .ok (.aaload, 1) := by decide +kernel
theorem dX6_fillPlain_6 : decode cX6_fillPlain 6 = .ok (.astore_n 2, 1) := by decide +kernel
theorem dX6_fillPlain_7 : decode cX6_fillPlain 7 = .ok (.aload_n 0, 1) := by decide +kernel
theorem dX6_fillPlain_8 : decode cX6_fillPlain 8 = .ok (.getfield 20, 3) := by decide +kernel
theorem dX6_fillPlain_11 : decode cX6_fillPlain 11 = .ok (.invokevirtual 61, 3) := by decide +kernel
theorem dX6_fillPlain_14 : decode cX6_fillPlain 14 = .ok (.istore_n 3, 1) := by decide +kernel
theorem dX6_fillPlain_15 : decode cX6_fillPlain 15 = .ok (.iload_n 3, 1) := by decide +kernel
theorem dX6_fillPlain_16 : decode cX6_fillPlain 16 = .ok (.ifCond .lt 34, 3) := by decide +kernel
theorem dX6_fillPlain_19 : decode cX6_fillPlain 19 = .ok (.aload_n 0, 1) := by decide +kernel
theorem dX6_fillPlain_20 : decode cX6_fillPlain 20 = .ok (.iload_n 1, 1) := by decide +kernel
theorem dX6_fillPlain_21 : decode cX6_fillPlain 21 = .ok (.iload_n 3, 1) := by decide +kernel
theorem dX6_fillPlain_22 : decode cX6_fillPlain 22 = .ok (.invokevirtual 65, 3) := by decide +kernel
theorem dX6_fillPlain_25 : decode cX6_fillPlain 25 = .ok (.istore 4, 2) := by decide +kernel
theorem dX6_fillPlain_27 : decode cX6_fillPlain 27 = .ok (.aload_n 2, 1) := by decide +kernel
theorem dX6_fillPlain_28 : decode cX6_fillPlain 28 = .ok (.iload_n 3, 1) := by decide +kernel
theorem dX6_fillPlain_29 : decode cX6_fillPlain 29 = .ok (.iload 4, 2) := by decide +kernel
theorem dX6_fillPlain_31 : decode cX6_fillPlain 31 = .ok (.iload_n 3, 1) := by decide +kernel
theorem dX6_fillPlain_32 : decode cX6_fillPlain 32 = .ok (.if_icmp .ne 7, 3) := by decide +kernel
theorem dX6_fillPlain_35 : decode cX6_fillPlain 35 = .ok (.iload_n 3, 1) := by decide +kernel
theorem dX6_fillPlain_36 : decode cX6_fillPlain 36 = .ok (.goto 7, 3) := by decide +kernel
theorem dX6_fillPlain_39 : decode cX6_fillPlain 39 = .ok (.aload_n 2, 1) := by decide +kernel
theorem dX6_fillPlain_40 : decode cX6_fillPlain 40 = .ok (.iload 4, 2) := by decide +kernel
theorem dX6_fillPlain_42 : decode cX6_fillPlain 42 = .ok (.iaload, 1) := by decide +kernel
theorem dX6_fillPlain_43 : decode cX6_fillPlain 43 = .ok (.iastore, 1) := by decide +kernel
theorem dX6_fillPlain_44 : decode cX6_fillPlain 44 = .ok (.iinc 3 (-1), 3) := by decide +kernel
theorem dX6_fillPlain_47 : decode cX6_fillPlain 47 = .ok (.goto (-32), 3) := by decide +kernel
theorem dX6_fillPlain_50 : decode cX6_fillPlain 50 = .ok (.aload_n 0, 1) := by decide +kernel
theorem dX6_fillPlain_51 : decode cX6_fillPlain 51 = .ok (.getfield 16, 3) := by decide +kernel
theorem dX6_fillPlain_54 : decode cX6_fillPlain 54 = .ok (.iload_n 1, 1) := by decide +kernel
theorem dX6_fillPlain_55 : decode cX6_fillPlain 55 = .ok (.aload_n 0, 1) := by decide +kernel
theorem dX6_fillPlain_56 : decode cX6_fillPlain 56 = .ok (.getfield 20, 3) := by decide +kernel
theorem dX6_fillPlain_59 : decode cX6_fillPlain 59 = .ok (.iload_n 1, 1) := by decide +kernel
theorem dX6_fillPlain_60 : decode cX6_fillPlain 60 = .ok (.invokevirtual 51, 3) := by decide +kernel
theorem dX6_fillPlain_63 : decode cX6_fillPlain 63 = .ok (.iastore, 1) := by decide +kernel
theorem dX6_fillPlain_64 : decode cX6_fillPlain 64 = .ok (.return_, 1) := by decide +kernel
theorem dX6_fillSeen_0 : decode cX6_fillSeen 0 = .ok (.aload_n 0, 1) := by decide +kernel
theorem dX6_fillSeen_1 : decode cX6_fillSeen 1 = .ok (.getfield 20, 3) := by decide +kernel
theorem dX6_fillSeen_4 : decode cX6_fillSeen 4 = .ok (.invokevirtual 61, 3) := by decide +kernel
theorem dX6_fillSeen_7 : decode cX6_fillSeen 7 = .ok (.istore_n 1, 1) := by decide +kernel
theorem dX6_fillSeen_8 : decode cX6_fillSeen 8 = .ok (.iconst 0, 1) := by decide +kernel
theorem dX6_fillSeen_9 : decode cX6_fillSeen 9 = .ok (.istore_n 2, 1) := by decide +kernel
theorem dX6_fillSeen_10 : decode cX6_fillSeen 10 = .ok (.iload_n 2, 1) := by decide +kernel
theorem dX6_fillSeen_11 : decode cX6_fillSeen 11 = .ok (.iload_n 1, 1) := by decide +kernel
theorem dX6_fillSeen_12 : decode cX6_fillSeen 12 = .ok (.if_icmp .gt 32, 3) := by decide +kernel
theorem dX6_fillSeen_15 : decode cX6_fillSeen 15 = .ok (.aload_n 0, 1) := by decide +kernel
theorem dX6_fillSeen_16 : decode cX6_fillSeen 16 = .ok (.getfield 11, 3) := by decide +kernel
theorem dX6_fillSeen_19 : decode cX6_fillSeen 19 = .ok (.iconst 2, 1) := by decide +kernel
theorem dX6_fillSeen_20 : decode cX6_fillSeen 20 = .ok (.aaload, 1) := by decide +kernel
theorem dX6_fillSeen_21 : decode cX6_fillSeen 21 = .ok (.iload_n 2, 1) := by decide +kernel
theorem dX6_fillSeen_22 : decode cX6_fillSeen 22 = .ok (.aload_n 0, 1) := by decide +kernel
theorem dX6_fillSeen_23 : decode cX6_fillSeen 23 = .ok (.getfield 11, 3) := by decide +kernel
theorem dX6_fillSeen_26 : decode cX6_fillSeen 26 = .ok (.iconst 1, 1) := by decide +kernel
theorem dX6_fillSeen_27 : decode cX6_fillSeen 27 = .ok (.aaload, 1) := by decide +kernel
theorem dX6_fillSeen_28 : decode cX6_fillSeen 28 = .ok (.aload_n 0, 1) := by decide +kernel
theorem dX6_fillSeen_29 : decode cX6_fillSeen 29 = .ok (.getfield 20, 3) := by decide +kernel
theorem dX6_fillSeen_32 : decode cX6_fillSeen 32 = .ok (.iload_n 2, 1) := by decide +kernel
theorem dX6_fillSeen_33 : decode cX6_fillSeen 33 = .ok (.invokevirtual 68, 3) := by decide +kernel
theorem dX6_fillSeen_36 : decode cX6_fillSeen 36 = .ok (.iaload, 1) := by decide +kernel
theorem dX6_fillSeen_37 : decode cX6_fillSeen 37 = .ok (.iastore, 1) := by decide +kernel
theorem dX6_fillSeen_38 : decode cX6_fillSeen 38 = .ok (.iinc 2 1, 3) := by decide +kernel
theorem dX6_fillSeen_41 : decode cX6_fillSeen 41 = .ok (.goto (-31), 3) := by decide +kernel
theorem dX6_fillSeen_44 : decode cX6_fillSeen 44 = .ok (.aload_n 0, 1) := by decide +kernel
theorem dX6_fillSeen_45 : decode cX6_fillSeen 45 = .ok (.getfield 16, 3) := by decide +kernel
theorem dX6_fillSeen_48 : decode cX6_fillSeen 48 = .ok (.iconst 2, 1) := by decide +kernel
theorem dX6_fillSeen_49 : decode cX6_fillSeen 49 = .ok (.aload_n 0, 1) := by decide +kernel
theorem dX6_fillSeen_50 : decode cX6_fillSeen 50 = .ok (.getfield 20, 3) := by decide +kernel
theorem dX6_fillSeen_53 : decode cX6_fillSeen 53 = .ok (.iconst 2, 1) := by decide +kernel
theorem dX6_fillSeen_54 : decode cX6_fillSeen 54 = .ok (.invokevirtual 51, 3) := by decide +kernel
theorem dX6_fillSeen_57 : decode cX6_fillSeen 57 = .ok (.iastore, 1) := by decide +kernel
theorem dX6_fillSeen_58 : decode cX6_fillSeen 58 = .ok (.return_, 1) := by decide +kernel
end
section
theorem dX1_init_0 : decode cX1_init 0 = .ok (.aload_n 0, 1) := by decide +kernel
theorem dX1_init_1 : decode cX1_init 1 = .ok (.invokespecial 3, 3) := by decide +kernel
theorem dX1_init_4 : decode cX1_init 4 = .ok (.aload_n 0, 1) := by decide +kernel
theorem dX1_init_5 : decode cX1_init 5 = .ok (.bipush 14, 2) := by decide +kernel
theorem dX1_init_7 : decode cX1_init 7 = .ok (.newarray .int, 2) := by decide +kernel
theorem dX1_init_9 : decode cX1_init 9 = .ok (.putfield 9, 3) := by decide +kernel
theorem dX1_init_12 : decode cX1_init 12 = .ok (.aload_n 0, 1) := by decide +kernel
theorem dX1_init_13 : decode cX1_init 13 = .ok (.aload_n 1, 1) := by decide +kernel
theorem dX1_init_14 : decode cX1_init 14 = .ok (.putfield 15, 3) := by decide +kernel
theorem dX1_init_17 : decode cX1_init 17 = .ok (.aload_n 0, 1) := by decide +kernel
theorem dX1_init_18 : decode cX1_init 18 = .ok (.aload_n 2, 1) := by decide +kernel
theorem dX1_init_19 : decode cX1_init 19 = .ok (.putfield 19, 3) := by decide +kernel
theorem dX1_init_22 : decode cX1_init 22 = .ok (.return_, 1) := by decide +kernel
theorem dX1_follow_0 : decode cX1_follow 0 = .ok (.aload_n 0, 1) := by decide +kernel
theorem dX1_follow_1 : decode cX1_follow 1 = .ok (.getfield 9, 3) := by decide +kernel
theorem dX1_follow_4 : decode cX1_follow 4 = .ok (.iconst 0, 1) := by decide +kernel
theorem dX1_follow_5 : decode cX1_follow 5 = .ok (.iload_n 2, 1) := by decide +kernel
theorem dX1_follow_6 : decode cX1_follow 6 = .ok (.iastore, 1) := by decide +kernel
theorem dX1_follow_7 : decode cX1_follow 7 = .ok (.aload_n 0, 1) := by decide +kernel
theorem dX1_follow_8 : decode cX1_follow 8 = .ok (.iconst 0, 1) := by decide +kernel
theorem dX1_follow_9 : decode cX1_follow 9 = .ok (.putfield 23, 3) := by decide +kernel
theorem dX1_follow_12 : decode cX1_follow 12 = .ok (.iconst 1, 1) := by decide +kernel
theorem dX1_follow_13 : decode cX1_follow 13 = .ok (.istore_n 3, 1) := by decide +kernel
theorem dX1_follow_14 : decode cX1_follow 14 = .ok (.iload_n 3, 1) := by decide +kernel
theorem dX1_follow_15 : decode cX1_follow 15 = .ok (.aload_n 0, 1) := by decide +kernel
theorem dX1_follow_16 : decode cX1_follow 16 = .ok (.getfield 9, 3) := by decide +kernel
theorem dX1_follow_19 : decode cX1_follow 19 = .ok (.arraylength, 1) := by decide +kernel
theorem dX1_follow_20 : decode cX1_follow 20 = .ok (.if_icmp .ge 94, 3) := by decide +kernel
theorem dX1_follow_23 : decode cX1_follow 23 = .ok (.aload_n 0, 1) := by decide +kernel
theorem dX1_follow_24 : decode cX1_follow 24 = .ok (.getfield 9, 3) := by decide +kernel
theorem dX1_follow_27 : decode cX1_follow 27 = .ok (.iload_n 3, 1) := by decide +kernel
theorem dX1_follow_28 : decode cX1_follow 28 = .ok (.iconst 1, 1) := by decide +kernel
theorem dX1_follow_29 : decode cX1_follow 29 = .ok (.isub, 1) := by decide +kernel
theorem dX1_follow_30 : decode cX1_follow 30 = .ok (.iaload, 1) := by decide +kernel
theorem dX1_follow_31 : decode cX1_follow 31 = .ok (.istore 4, 2) := by decide +kernel
theorem dX1_follow_33 : decode cX1_follow 33 = .ok (.iload_n 1, 1) := by decide +kernel
theorem dX1_follow_34 : decode cX1_follow 34 = .ok (.iconst 2, 1) := by decide +kernel
theorem dX1_follow_35 : decode cX1_follow 35 = .ok (.if_icmp .ne 12, 3) := by decide +kernel
theorem dX1_follow_38 : decode cX1_follow 38 = .ok (.iload_n 3, 1) := by decide +kernel
theorem dX1_follow_39 : decode cX1_follow 39 = .ok (.iconst 1, 1) := by decide +kernel
theorem dX1_follow_40 : decode cX1_follow 40 = .ok (.if_icmp .ne 7, 3) := by decide +kernel
theorem dX1_follow_43 : decode cX1_follow 43 = .ok (.iconst 1, 1) := by decide +kernel
theorem dX1_follow_44 : decode cX1_follow 44 = .ok (.goto 4, 3) := by decide +kernel
theorem dX1_follow_47 : decode cX1_follow 47 = .ok (.iconst 0, 1) := by decide +kernel
theorem dX1_follow_48 : decode cX1_follow 48 = .ok (.istore 5, 2) := by decide +kernel
theorem dX1_follow_50 : decode cX1_follow 50 = .ok (.aload_n 0, 1) := by decide +kernel
theorem dX1_follow_51 : decode cX1_follow 51 = .ok (.getfield 9, 3) := by decide +kernel
theorem dX1_follow_54 : decode cX1_follow 54 = .ok (.iload_n 3, 1) := by decide +kernel
theorem dX1_follow_55 : decode cX1_follow 55 = .ok (.iload 5, 2) := by decide +kernel
theorem dX1_follow_57 : decode cX1_follow 57 = .ok (.ifCond .eq 15, 3) := by decide +kernel
theorem dX1_follow_60 : decode cX1_follow 60 = .ok (.aload_n 0, 1) := by decide +kernel
theorem dX1_follow_61 : decode cX1_follow 61 = .ok (.getfield 15, 3) := by decide +kernel
theorem dX1_follow_64 : decode cX1_follow 64 = .ok (.iload 4, 2) := by decide +kernel
theorem dX1_follow_66 : decode cX1_follow 66 = .ok (.invokevirtual 27, 3) := by decide +kernel
theorem dX1_follow_69 : decode cX1_follow 69 = .ok (.goto 13, 3) := by decide +kernel
theorem dX1_follow_72 : decode cX1_follow 72 = .ok (.aload_n 0, 1) := by decide +kernel
theorem dX1_follow_73 : decode cX1_follow 73 = .ok (.getfield 19, 3) := by decide +kernel
theorem dX1_follow_76 : decode cX1_follow 76 = .ok (.iload_n 1, 1) := by decide +kernel
theorem dX1_follow_77 : decode cX1_follow 77 = .ok (.iload 4, 2) := by decide +kernel
theorem dX1_follow_79 : decode cX1_follow 79 = .ok (.invokevirtual 33, 3) := by decide +kernel
theorem dX1_follow_82 : decode cX1_follow 82 = .ok (.iastore, 1) := by decide +kernel
theorem dX1_follow_83 : decode cX1_follow 83 = .ok (.aload_n 0, 1) := by decide +kernel
theorem dX1_follow_84 : decode cX1_follow 84 = .ok (.getfield 9, 3) := by decide +kernel
theorem dX1_follow_87 : decode cX1_follow 87 = .ok (.iload_n 3, 1) := by decide +kernel
theorem dX1_follow_88 : decode cX1_follow 88 = .ok (.iaload, 1) := by decide +kernel
theorem dX1_follow_89 : decode cX1_follow 89 = .ok (.iload 4, 2) := by decide +kernel
theorem dX1_follow_91 : decode cX1_follow 91 = .ok (.if_icmp .eq 11, 3) := by decide +kernel
theorem dX1_follow_94 : decode cX1_follow 94 = .ok (.aload_n 0, 1) := by decide +kernel
theorem dX1_follow_95 : decode cX1_follow 95 = .ok (.iload_n 3, 1) := by decide +kernel
theorem dX1_follow_96 : decode cX1_follow 96 = .ok (.putfield 23, 3) := by decide +kernel
theorem dX1_follow_99 : decode cX1_follow 99 = .ok (.goto 9, 3) := by decide +kernel
theorem dX1_follow_102 : decode cX1_follow 102 = .ok (.iload 5, 2) := by decide +kernel
theorem dX1_follow_104 : decode cX1_follow 104 = .ok (.ifCond .ne 4, 3) := by decide +kernel
theorem dX1_follow_107 : decode cX1_follow 107 = .ok (.return_, 1) := by decide +kernel
theorem dX1_follow_108 : decode cX1_follow 108 = .ok (.iinc 3 1, 3) := by decide +kernel
theorem dX1_follow_111 : decode cX1_follow 111 = .ok (.goto (-97), 3) := by decide +kernel
theorem dX1_follow_114 : decode cX1_follow 114 = .ok (.return_, 1) := by decide +kernel
theorem dX1_onAtEnd_0 : decode cX1_onAtEnd 0 = .ok (.aload_n 0, 1) := by decide +kernel
theorem dX1_onAtEnd_1 : decode cX1_onAtEnd 1 = .ok (.getfield 9, 3) := by decide +kernel
theorem dX1_onAtEnd_4 : decode cX1_onAtEnd 4 = .ok (.aload_n 0, 1) := by decide +kernel
theorem dX1_onAtEnd_5 : decode cX1_onAtEnd 5 = .ok (.getfield 23, 3) := by decide +kernel
theorem dX1_onAtEnd_8 : decode cX1_onAtEnd 8 = .ok (.iaload, 1) := by decide +kernel
theorem dX1_onAtEnd_9 : decode cX1_onAtEnd 9 = .ok (.ireturn, 1) := by decide +kernel
theorem dX1_tickOf_0 : decode cX1_tickOf 0 = .ok (.iconst 0, 1) := by decide +kernel
theorem dX1_tickOf_1 : decode cX1_tickOf 1 = .ok (.istore_n 2, 1) := by decide +kernel
theorem dX1_tickOf_2 : decode cX1_tickOf 2 = .ok (.iload_n 2, 1) := by decide +kernel
theorem dX1_tickOf_3 : decode cX1_tickOf 3 = .ok (.aload_n 0, 1) := by decide +kernel
theorem dX1_tickOf_4 : decode cX1_tickOf 4 = .ok (.getfield 23, 3) := by decide +kernel
theorem dX1_tickOf_7 : decode cX1_tickOf 7 = .ok (.if_icmp .gt 24, 3) := by decide +kernel
theorem dX1_tickOf_10 : decode cX1_tickOf 10 = .ok (.aload_n 0, 1) := by decide +kernel
theorem dX1_tickOf_11 : decode cX1_tickOf 11 = .ok (.getfield 9, 3) := by decide +kernel
theorem dX1_tickOf_14 : decode cX1_tickOf 14 = .ok (.iload_n 2, 1) := by decide +kernel
theorem dX1_tickOf_15 : decode cX1_tickOf 15 = .ok (.iaload, 1) := by decide +kernel
theorem dX1_tickOf_16 : decode cX1_tickOf 16 = .ok (.iload_n 1, 1) := by decide +kernel
theorem dX1_tickOf_17 : decode cX1_tickOf 17 = .ok (.invokestatic 39, 3) := by decide +kernel
theorem dX1_tickOf_20 : decode cX1_tickOf 20 = .ok (.ifCond .eq 5, 3) := by decide +kernel
theorem dX1_tickOf_23 : decode cX1_tickOf 23 = .ok (.iload_n 2, 1) := by decide +kernel
theorem dX1_tickOf_24 : decode cX1_tickOf 24 = .ok (.ireturn, 1) := by decide +kernel
theorem dX1_tickOf_25 : decode cX1_tickOf 25 = .ok (.iinc 2 1, 3) := by decide +kernel
theorem dX1_tickOf_28 : decode cX1_tickOf 28 = .ok (.goto (-26), 3) := by decide +kernel
theorem dX1_tickOf_31 : decode cX1_tickOf 31 = .ok (.iconst (-1), 1) := by decide +kernel
theorem dX1_tickOf_32 : decode cX1_tickOf 32 = .ok (.ireturn, 1) := by decide +kernel
theorem dX1_bringersOf_0 : decode cX1_bringersOf 0 = .ok (.aload_n 0, 1) := by decide +kernel
theorem dX1_bringersOf_1 : decode cX1_bringersOf 1 = .ok (.iload_n 2, 1) := by decide +kernel
theorem dX1_bringersOf_2 : decode cX1_bringersOf 2 = .ok (.invokevirtual 43, 3) := by decide +kernel
theorem dX1_bringersOf_5 : decode cX1_bringersOf 5 = .ok (.istore_n 3, 1) := by decide +kernel
theorem dX1_bringersOf_6 : decode cX1_bringersOf 6 = .ok (.iload_n 3, 1) := by decide +kernel
theorem dX1_bringersOf_7 : decode cX1_bringersOf 7 = .ok (.ifCond .ge 5, 3) := by decide +kernel
theorem dX1_bringersOf_10 : decode cX1_bringersOf 10 = .ok (.iconst (-1), 1) := by decide +kernel
theorem dX1_bringersOf_11 : decode cX1_bringersOf 11 = .ok (.ireturn, 1) := by decide +kernel
theorem dX1_bringersOf_12 : decode cX1_bringersOf 12 = .ok (.iload_n 3, 1) := by decide +kernel
theorem dX1_bringersOf_13 : decode cX1_bringersOf 13 = .ok (.ifCond .ne 5, 3) := by decide +kernel
theorem dX1_bringersOf_16 : decode cX1_bringersOf 16 = .ok (.iconst 0, 1) := by decide +kernel
theorem dX1_bringersOf_17 : decode cX1_bringersOf 17 = .ok (.ireturn, 1) := by decide +kernel
theorem dX1_bringersOf_18 : decode cX1_bringersOf 18 = .ok (.aload_n 0, 1) := by decide +kernel
theorem dX1_bringersOf_19 : decode cX1_bringersOf 19 = .ok (.getfield 9, 3) := by decide +kernel
theorem dX1_bringersOf_22 : decode cX1_bringersOf 22 = .ok (.iload_n 3, 1) := by decide +kernel
theorem dX1_bringersOf_23 : decode cX1_bringersOf 23 = .ok (.iconst 1, 1) := by decide +kernel
theorem dX1_bringersOf_24 : decode cX1_bringersOf 24 = .ok (.isub, 1) := by decide +kernel
theorem dX1_bringersOf_25 : decode cX1_bringersOf 25 = .ok (.iaload, 1) := by decide +kernel
theorem dX1_bringersOf_26 : decode cX1_bringersOf 26 = .ok (.istore 4, 2) := by decide +kernel
theorem dX1_bringersOf_28 : decode cX1_bringersOf 28 = .ok (.iload 4, 2) := by decide +kernel
theorem dX1_bringersOf_30 : decode cX1_bringersOf 30 = .ok (.aload_n 0, 1) := by decide +kernel
theorem dX1_bringersOf_31 : decode cX1_bringersOf 31 = .ok (.getfield 15, 3) := by decide +kernel
theorem dX1_bringersOf_34 : decode cX1_bringersOf 34 = .ok (.getfield 46, 3) := by decide +kernel
theorem dX1_bringersOf_37 : decode cX1_bringersOf 37 = .ok (.iload_n 2, 1) := by decide +kernel
theorem dX1_bringersOf_38 : decode cX1_bringersOf 38 = .ok (.iaload, 1) := by decide +kernel
theorem dX1_bringersOf_39 : decode cX1_bringersOf 39 = .ok (.iand, 1) := by decide +kernel
theorem dX1_bringersOf_40 : decode cX1_bringersOf 40 = .ok (.istore 5, 2) := by decide +kernel
theorem dX1_bringersOf_42 : decode cX1_bringersOf 42 = .ok (.iload_n 1, 1) := by decide +kernel
theorem dX1_bringersOf_43 : decode cX1_bringersOf 43 = .ok (.ifCond .ne 6, 3) := by decide +kernel
theorem dX1_bringersOf_46 : decode cX1_bringersOf 46 = .ok (.iload 5, 2) := by decide +kernel
theorem dX1_bringersOf_48 : decode cX1_bringersOf 48 = .ok (.ireturn, 1) := by decide +kernel
theorem dX1_bringersOf_49 : decode cX1_bringersOf 49 = .ok (.iload_n 1, 1) := by decide +kernel
theorem dX1_bringersOf_50 : decode cX1_bringersOf 50 = .ok (.iconst 2, 1) := by decide +kernel
theorem dX1_bringersOf_51 : decode cX1_bringersOf 51 = .ok (.if_icmp .ne 17, 3) := by decide +kernel
theorem dX1_bringersOf_54 : decode cX1_bringersOf 54 = .ok (.iload_n 3, 1) := by decide +kernel
theorem dX1_bringersOf_55 : decode cX1_bringersOf 55 = .ok (.iconst 1, 1) := by decide +kernel
theorem dX1_bringersOf_56 : decode cX1_bringersOf 56 = .ok (.if_icmp .ne 12, 3) := by decide +kernel
theorem dX1_bringersOf_59 : decode cX1_bringersOf 59 = .ok (.iload 5, 2) := by decide +kernel
theorem dX1_bringersOf_61 : decode cX1_bringersOf 61 = .ok (.iload 5, 2) := by decide +kernel
theorem dX1_bringersOf_63 : decode cX1_bringersOf 63 = .ok (.ineg, 1) := by decide +kernel
theorem dX1_bringersOf_64 : decode cX1_bringersOf 64 = .ok (.iand, 1) := by decide +kernel
theorem dX1_bringersOf_65 : decode cX1_bringersOf 65 = .ok (.goto 10, 3) := by decide +kernel
theorem dX1_bringersOf_68 : decode cX1_bringersOf 68 = .ok (.aload_n 0, 1) := by decide +kernel
theorem dX1_bringersOf_69 : decode cX1_bringersOf 69 = .ok (.iload_n 2, 1) := by decide +kernel
theorem dX1_bringersOf_70 : decode cX1_bringersOf 70 = .ok (.iload 4, 2) := by decide +kernel
theorem dX1_bringersOf_72 : decode cX1_bringersOf 72 = .ok (.invokevirtual 49, 3) := by decide +kernel
theorem dX1_bringersOf_75 : decode cX1_bringersOf 75 = .ok (.ireturn, 1) := by decide +kernel
theorem dX1_leastForcing_0 : decode cX1_leastForcing 0 = .ok (.iconst 0, 1) := by decide +kernel
theorem dX1_leastForcing_1 : decode cX1_leastForcing 1 = .ok (.istore_n 3, 1) := by decide +kernel
theorem dX1_leastForcing_2 : decode cX1_leastForcing 2 = .ok (.iload_n 3, 1) := by decide +kernel
theorem dX1_leastForcing_3 : decode cX1_leastForcing 3 = .ok (.aload_n 0, 1) := by decide +kernel
theorem dX1_leastForcing_4 : decode cX1_leastForcing 4 = .ok (.getfield 15, 3) := by decide +kernel
theorem dX1_leastForcing_7 : decode cX1_leastForcing 7 = .ok (.getfield 52, 3) := by decide +kernel
theorem dX1_leastForcing_10 : decode cX1_leastForcing 10 = .ok (.if_icmp .ge 40, 3) := by decide +kernel
theorem dX1_leastForcing_13 : decode cX1_leastForcing 13 = .ok (.iload_n 2, 1) := by decide +kernel
theorem dX1_leastForcing_14 : decode cX1_leastForcing 14 = .ok (.iload_n 3, 1) := by decide +kernel
theorem dX1_leastForcing_15 : decode cX1_leastForcing 15 = .ok (.invokestatic 39, 3) := by decide +kernel
theorem dX1_leastForcing_18 : decode cX1_leastForcing 18 = .ok (.ifCond .eq 26, 3) := by decide +kernel
theorem dX1_leastForcing_21 : decode cX1_leastForcing 21 = .ok (.aload_n 0, 1) := by decide +kernel
theorem dX1_leastForcing_22 : decode cX1_leastForcing 22 = .ok (.getfield 15, 3) := by decide +kernel
theorem dX1_leastForcing_25 : decode cX1_leastForcing 25 = .ok (.getfield 55, 3) := by decide +kernel
theorem dX1_leastForcing_28 : decode cX1_leastForcing 28 = .ok (.iload_n 3, 1) := by decide +kernel
theorem dX1_leastForcing_29 : decode cX1_leastForcing 29 = .ok (.iaload, 1) := by decide +kernel
theorem dX1_leastForcing_30 : decode cX1_leastForcing 30 = .ok (.iload_n 2, 1) := by decide +kernel
theorem dX1_leastForcing_31 : decode cX1_leastForcing 31 = .ok (.iconst (-1), 1) := by decide +kernel
theorem dX1_leastForcing_32 : decode cX1_leastForcing 32 = .ok (.ixor, 1) := by decide +kernel
theorem dX1_leastForcing_33 : decode cX1_leastForcing 33 = .ok (.iand, 1) := by decide +kernel
theorem dX1_leastForcing_34 : decode cX1_leastForcing 34 = .ok (.iconst 1, 1) := by decide +kernel
theorem dX1_leastForcing_35 : decode cX1_leastForcing 35 = .ok (.iload_n 1, 1) := by decide +kernel
theorem dX1_leastForcing_36 : decode cX1_leastForcing 36 = .ok (.ishl, 1) := by decide +kernel
theorem dX1_leastForcing_37 : decode cX1_leastForcing 37 = .ok (.if_icmp .ne 7, 3) := by decide +kernel
theorem dX1_leastForcing_40 : decode cX1_leastForcing 40 = .ok (.iconst 1, 1) := by decide +kernel
theorem dX1_leastForcing_41 : decode cX1_leastForcing 41 = .ok (.iload_n 3, 1) := by decide +kernel
theorem dX1_leastForcing_42 : decode cX1_leastForcing 42 = .ok (.ishl, 1) := by decide +kernel
theorem dX1_leastForcing_43 : decode cX1_leastForcing 43 = .ok (.ireturn, 1) := by decide +kernel
theorem dX1_leastForcing_44 : decode cX1_leastForcing 44 = .ok (.iinc 3 1, 3) := by decide +kernel
theorem dX1_leastForcing_47 : decode cX1_leastForcing 47 = .ok (.goto (-45), 3) := by decide +kernel
theorem dX1_leastForcing_50 : decode cX1_leastForcing 50 = .ok (.iconst 0, 1) := by decide +kernel
theorem dX1_leastForcing_51 : decode cX1_leastForcing 51 = .ok (.ireturn, 1) := by decide +kernel
end
section
theorem dX5_init_0 : decode cX5_init 0 = .ok (.aload_n 0, 1) := by decide +kernel
theorem dX5_init_1 : decode cX5_init 1 = .ok (.invokespecial 1, 3) := by decide +kernel
theorem dX5_init_4 : decode cX5_init 4 = .ok (.aload_n 0, 1) := by decide +kernel
theorem dX5_init_5 : decode cX5_init 5 = .ok (.aload_n 1, 1) := by decide +kernel
theorem dX5_init_6 : decode cX5_init 6 = .ok (.putfield 7, 3) := by decide +kernel
theorem dX5_init_9 : decode cX5_init 9 = .ok (.return_, 1) := by decide +kernel
theorem dX5_smallest_0 : decode cX5_smallest 0 = .ok (.aload_n 0, 1) := by decide +kernel
theorem dX5_smallest_1 : decode cX5_smallest 1 = .ok (.getfield 7, 3) := by decide +kernel
theorem dX5_smallest_4 : decode cX5_smallest 4 = .ok (.invokevirtual 13, 3) := by decide +kernel
theorem dX5_smallest_7 : decode cX5_smallest 7 = .ok (.istore_n 2, 1) := by decide +kernel
theorem dX5_smallest_8 : decode cX5_smallest 8 = .ok (.iload_n 2, 1) := by decide +kernel
theorem dX5_smallest_9 : decode cX5_smallest 9 = .ok (.istore_n 3, 1) := by decide +kernel
theorem dX5_smallest_10 : decode cX5_smallest 10 = .ok (.iconst 0, 1) := by decide +kernel
theorem dX5_smallest_11 : decode cX5_smallest 11 = .ok (.istore 4, 2) := by decide +kernel
theorem dX5_smallest_13 : decode cX5_smallest 13 = .ok (.iload 4, 2) := by decide +kernel
theorem dX5_smallest_15 : decode cX5_smallest 15 = .ok (.iload_n 2, 1) := by decide +kernel
theorem dX5_smallest_16 : decode cX5_smallest 16 = .ok (.if_icmp .ge 32, 3) := by decide +kernel
theorem dX5_smallest_19 : decode cX5_smallest 19 = .ok (.aload_n 1, 1) := by decide +kernel
theorem dX5_smallest_20 : decode cX5_smallest 20 = .ok (.iload 4, 2) := by decide +kernel
theorem dX5_smallest_22 : decode cX5_smallest 22 = .ok (.iaload, 1) := by decide +kernel
theorem dX5_smallest_23 : decode cX5_smallest 23 = .ok (.iload_n 2, 1) := by decide +kernel
theorem dX5_smallest_24 : decode cX5_smallest 24 = .ok (.if_icmp .ne 18, 3) := by decide +kernel
theorem dX5_smallest_27 : decode cX5_smallest 27 = .ok (.iload 4, 2) := by decide +kernel
theorem dX5_smallest_29 : decode cX5_smallest 29 = .ok (.invokestatic 19, 3) := by decide +kernel
theorem dX5_smallest_32 : decode cX5_smallest 32 = .ok (.iload_n 3, 1) := by decide +kernel
theorem dX5_smallest_33 : decode cX5_smallest 33 = .ok (.invokestatic 19, 3) := by decide +kernel
theorem dX5_smallest_36 : decode cX5_smallest 36 = .ok (.if_icmp .ge 6, 3) := by decide +kernel
theorem dX5_smallest_39 : decode cX5_smallest 39 = .ok (.iload 4, 2) := by decide +kernel
theorem dX5_smallest_41 : decode cX5_smallest 41 = .ok (.istore_n 3, 1) := by decide +kernel
theorem dX5_smallest_42 : decode cX5_smallest 42 = .ok (.iinc 4 1, 3) := by decide +kernel
theorem dX5_smallest_45 : decode cX5_smallest 45 = .ok (.goto (-32), 3) := by decide +kernel
theorem dX5_smallest_48 : decode cX5_smallest 48 = .ok (.iload_n 3, 1) := by decide +kernel
theorem dX5_smallest_49 : decode cX5_smallest 49 = .ok (.ireturn, 1) := by decide +kernel
theorem dX5_howManySmallest_0 : decode cX5_howManySmallest 0 = .ok (.aload_n 0, 1) := by decide +kernel
theorem dX5_howManySmallest_1 : decode cX5_howManySmallest 1 = .ok (.getfield 7, 3) := by decide +kernel
theorem dX5_howManySmallest_4 : decode cX5_howManySmallest 4 = .ok (.invokevirtual 13, 3) := by decide +kernel
theorem dX5_howManySmallest_7 : decode cX5_howManySmallest 7 = .ok (.istore_n 2, 1) := by decide +kernel
theorem dX5_howManySmallest_8 : decode cX5_howManySmallest 8 = .ok (.aload_n 0, 1) := by decide +kernel
theorem dX5_howManySmallest_9 : decode cX5_howManySmallest 9 = .ok (.aload_n 1, 1) := by decide +kernel
theorem dX5_howManySmallest_10 : decode cX5_howManySmallest 10 = .ok (.invokevirtual 25, 3) := by decide +kernel
theorem dX5_howManySmallest_13 : decode cX5_howManySmallest 13 = .ok (.invokestatic 19, 3) := by decide +kernel
theorem dX5_howManySmallest_16 : decode cX5_howManySmallest 16 = .ok (.istore_n 3, 1) := by decide +kernel
theorem dX5_howManySmallest_17 : decode cX5_howManySmallest 17 = .ok (.iconst 0, 1) := by decide +kernel
theorem dX5_howManySmallest_18 : decode cX5_howManySmallest 18 = .ok (.istore 4, 2) := by decide +kernel
theorem dX5_howManySmallest_20 : decode cX5_howManySmallest 20 = .ok (.iconst 0, 1) := by decide +kernel
theorem dX5_howManySmallest_21 : decode cX5_howManySmallest 21 = .ok (.istore 5, 2) := by decide +kernel
theorem dX5_howManySmallest_23 : decode cX5_howManySmallest 23 = .ok (.iload 5, 2) := by decide +kernel
theorem dX5_howManySmallest_25 : decode cX5_howManySmallest 25 = .ok (.iload_n 2, 1) := by decide +kernel
theorem dX5_howManySmallest_26 : decode cX5_howManySmallest 26 = .ok (.if_icmp .gt 29, 3) := by decide +kernel
theorem dX5_howManySmallest_29 : decode cX5_howManySmallest 29 = .ok (.aload_n 1, 1) := by decide +kernel
theorem dX5_howManySmallest_30 : decode cX5_howManySmallest 30 = .ok (.iload 5, 2) := by decide +kernel
theorem dX5_howManySmallest_32 : decode cX5_howManySmallest 32 = .ok (.iaload, 1) := by decide +kernel
theorem dX5_howManySmallest_33 : decode cX5_howManySmallest 33 = .ok (.iload_n 2, 1) := by decide +kernel
theorem dX5_howManySmallest_34 : decode cX5_howManySmallest 34 = .ok (.if_icmp .ne 15, 3) := by decide +kernel
theorem dX5_howManySmallest_37 : decode cX5_howManySmallest 37 = .ok (.iload 5, 2) := by decide +kernel
theorem dX5_howManySmallest_39 : decode cX5_howManySmallest 39 = .ok (.invokestatic 19, 3) := by decide +kernel
theorem dX5_howManySmallest_42 : decode cX5_howManySmallest 42 = .ok (.iload_n 3, 1) := by decide +kernel
theorem dX5_howManySmallest_43 : decode cX5_howManySmallest 43 = .ok (.if_icmp .ne 6, 3) := by decide +kernel
theorem dX5_howManySmallest_46 : decode cX5_howManySmallest 46 = .ok (.iinc 4 1, 3) := by decide +kernel
theorem dX5_howManySmallest_49 : decode cX5_howManySmallest 49 = .ok (.iinc 5 1, 3) := by decide +kernel
theorem dX5_howManySmallest_52 : decode cX5_howManySmallest 52 = .ok (.goto (-29), 3) := by decide +kernel
theorem dX5_howManySmallest_55 : decode cX5_howManySmallest 55 = .ok (.iload 4, 2) := by decide +kernel
theorem dX5_howManySmallest_57 : decode cX5_howManySmallest 57 = .ok (.ireturn, 1) := by decide +kernel
theorem dX5_leastPriced_0 : decode cX5_leastPriced 0 = .ok (.aload_n 0, 1) := by decide +kernel
theorem dX5_leastPriced_1 : decode cX5_leastPriced 1 = .ok (.getfield 7, 3) := by decide +kernel
theorem dX5_leastPriced_4 : decode cX5_leastPriced 4 = .ok (.invokevirtual 13, 3) := by decide +kernel
theorem dX5_leastPriced_7 : decode cX5_leastPriced 7 = .ok (.istore_n 2, 1) := by decide +kernel
theorem dX5_leastPriced_8 : decode cX5_leastPriced 8 = .ok (.iload_n 2, 1) := by decide +kernel
theorem dX5_leastPriced_9 : decode cX5_leastPriced 9 = .ok (.istore_n 3, 1) := by decide +kernel
theorem dX5_leastPriced_10 : decode cX5_leastPriced 10 = .ok (.aload_n 0, 1) := by decide +kernel
theorem dX5_leastPriced_11 : decode cX5_leastPriced 11 = .ok (.getfield 7, 3) := by decide +kernel
theorem dX5_leastPriced_14 : decode cX5_leastPriced 14 = .ok (.iload_n 2, 1) := by decide +kernel
theorem dX5_leastPriced_15 : decode cX5_leastPriced 15 = .ok (.invokevirtual 29, 3) := by decide +kernel
theorem dX5_leastPriced_18 : decode cX5_leastPriced 18 = .ok (.iconst 1, 1) := by decide +kernel
theorem dX5_leastPriced_19 : decode cX5_leastPriced 19 = .ok (.iadd, 1) := by decide +kernel
theorem dX5_leastPriced_20 : decode cX5_leastPriced 20 = .ok (.istore 4, 2) := by decide +kernel
theorem dX5_leastPriced_22 : decode cX5_leastPriced 22 = .ok (.iconst 0, 1) := by decide +kernel
theorem dX5_leastPriced_23 : decode cX5_leastPriced 23 = .ok (.istore 5, 2) := by decide +kernel
theorem dX5_leastPriced_25 : decode cX5_leastPriced 25 = .ok (.iload 5, 2) := by decide +kernel
theorem dX5_leastPriced_27 : decode cX5_leastPriced 27 = .ok (.iload_n 2, 1) := by decide +kernel
theorem dX5_leastPriced_28 : decode cX5_leastPriced 28 = .ok (.if_icmp .gt 45, 3) := by decide +kernel
theorem dX5_leastPriced_31 : decode cX5_leastPriced 31 = .ok (.aload_n 1, 1) := by decide +kernel
theorem dX5_leastPriced_32 : decode cX5_leastPriced 32 = .ok (.iload 5, 2) := by decide +kernel
theorem dX5_leastPriced_34 : decode cX5_leastPriced 34 = .ok (.iaload, 1) := by decide +kernel
theorem dX5_leastPriced_35 : decode cX5_leastPriced 35 = .ok (.iload_n 2, 1) := by decide +kernel
theorem dX5_leastPriced_36 : decode cX5_leastPriced 36 = .ok (.if_icmp .ne 31, 3) := by decide +kernel
theorem dX5_leastPriced_39 : decode cX5_leastPriced 39 = .ok (.aload_n 0, 1) := by decide +kernel
theorem dX5_leastPriced_40 : decode cX5_leastPriced 40 = .ok (.getfield 7, 3) := by decide +kernel
theorem dX5_leastPriced_43 : decode cX5_leastPriced 43 = .ok (.iload 5, 2) := by decide +kernel
theorem dX5_leastPriced_45 : decode cX5_leastPriced 45 = .ok (.invokevirtual 29, 3) := by decide +kernel
theorem dX5_leastPriced_48 : decode cX5_leastPriced 48 = .ok (.iload 4, 2) := by decide +kernel
theorem dX5_leastPriced_50 : decode cX5_leastPriced 50 = .ok (.if_icmp .ge 17, 3) := by decide +kernel
theorem dX5_leastPriced_53 : decode cX5_leastPriced 53 = .ok (.iload 5, 2) := by decide +kernel
theorem dX5_leastPriced_55 : decode cX5_leastPriced 55 = .ok (.istore_n 3, 1) := by decide +kernel
theorem dX5_leastPriced_56 : decode cX5_leastPriced 56 = .ok (.aload_n 0, 1) := by decide +kernel
theorem dX5_leastPriced_57 : decode cX5_leastPriced 57 = .ok (.getfield 7, 3) := by decide +kernel
theorem dX5_leastPriced_60 : decode cX5_leastPriced 60 = .ok (.iload 5, 2) := by decide +kernel
theorem dX5_leastPriced_62 : decode cX5_leastPriced 62 = .ok (.invokevirtual 29, 3) := by decide +kernel
theorem dX5_leastPriced_65 : decode cX5_leastPriced 65 = .ok (.istore 4, 2) := by decide +kernel
theorem dX5_leastPriced_67 : decode cX5_leastPriced 67 = .ok (.iinc 5 1, 3) := by decide +kernel
theorem dX5_leastPriced_70 : decode cX5_leastPriced 70 = .ok (.goto (-45), 3) := by decide +kernel
theorem dX5_leastPriced_73 : decode cX5_leastPriced 73 = .ok (.iload_n 3, 1) := by decide +kernel
theorem dX5_leastPriced_74 : decode cX5_leastPriced 74 = .ok (.ireturn, 1) := by decide +kernel
theorem dX5_paredDown_0 : decode cX5_paredDown 0 = .ok (.aload_n 0, 1) := by decide +kernel
theorem dX5_paredDown_1 : decode cX5_paredDown 1 = .ok (.getfield 7, 3) := by decide +kernel
theorem dX5_paredDown_4 : decode cX5_paredDown 4 = .ok (.invokevirtual 13, 3) := by decide +kernel
theorem dX5_paredDown_7 : decode cX5_paredDown 7 = .ok (.istore_n 2, 1) := by decide +kernel
theorem dX5_paredDown_8 : decode cX5_paredDown 8 = .ok (.iload_n 2, 1) := by decide +kernel
theorem dX5_paredDown_9 : decode cX5_paredDown 9 = .ok (.istore_n 3, 1) := by decide +kernel
theorem dX5_paredDown_10 : decode cX5_paredDown 10 = .ok (.aload_n 0, 1) := by decide +kernel
theorem dX5_paredDown_11 : decode cX5_paredDown 11 = .ok (.getfield 7, 3) := by decide +kernel
theorem dX5_paredDown_14 : decode cX5_paredDown 14 = .ok (.getfield 32, 3) := by decide +kernel
theorem dX5_paredDown_17 : decode cX5_paredDown 17 = .ok (.iconst 1, 1) := by decide +kernel
theorem dX5_paredDown_18 : decode cX5_paredDown 18 = .ok (.isub, 1) := by decide +kernel
theorem dX5_paredDown_19 : decode cX5_paredDown 19 = .ok (.istore 4, 2) := by decide +kernel
theorem dX5_paredDown_21 : decode cX5_paredDown 21 = .ok (.iload 4, 2) := by decide +kernel
theorem dX5_paredDown_23 : decode cX5_paredDown 23 = .ok (.ifCond .lt 30, 3) := by decide +kernel
theorem dX5_paredDown_26 : decode cX5_paredDown 26 = .ok (.iload_n 3, 1) := by decide +kernel
theorem dX5_paredDown_27 : decode cX5_paredDown 27 = .ok (.iconst 1, 1) := by decide +kernel
theorem dX5_paredDown_28 : decode cX5_paredDown 28 = .ok (.iload 4, 2) := by decide +kernel
theorem dX5_paredDown_30 : decode cX5_paredDown 30 = .ok (.ishl, 1) := by decide +kernel
theorem dX5_paredDown_31 : decode cX5_paredDown 31 = .ok (.iconst (-1), 1) := by decide +kernel
theorem dX5_paredDown_32 : decode cX5_paredDown 32 = .ok (.ixor, 1) := by decide +kernel
theorem dX5_paredDown_33 : decode cX5_paredDown 33 = .ok (.iand, 1) := by decide +kernel
theorem dX5_paredDown_34 : decode cX5_paredDown 34 = .ok (.istore 5, 2) := by decide +kernel
theorem dX5_paredDown_36 : decode cX5_paredDown 36 = .ok (.aload_n 1, 1) := by decide +kernel
theorem dX5_paredDown_37 : decode cX5_paredDown 37 = .ok (.iload 5, 2) := by decide +kernel
theorem dX5_paredDown_39 : decode cX5_paredDown 39 = .ok (.iaload, 1) := by decide +kernel
theorem dX5_paredDown_40 : decode cX5_paredDown 40 = .ok (.iload_n 2, 1) := by decide +kernel
theorem dX5_paredDown_41 : decode cX5_paredDown 41 = .ok (.if_icmp .ne 6, 3) := by decide +kernel
theorem dX5_paredDown_44 : decode cX5_paredDown 44 = .ok (.iload 5, 2) := by decide +kernel
theorem dX5_paredDown_46 : decode cX5_paredDown 46 = .ok (.istore_n 3, 1) := by decide +kernel
theorem dX5_paredDown_47 : decode cX5_paredDown 47 = .ok (.iinc 4 (-1), 3) := by decide +kernel
theorem dX5_paredDown_50 : decode cX5_paredDown 50 = .ok (.goto (-29), 3) := by decide +kernel
theorem dX5_paredDown_53 : decode cX5_paredDown 53 = .ok (.iload_n 3, 1) := by decide +kernel
theorem dX5_paredDown_54 : decode cX5_paredDown 54 = .ok (.ireturn, 1) := by decide +kernel
end
section
theorem dX7_init_0 : decode cX7_init 0 = .ok (.aload_n 0, 1) := by decide +kernel
theorem dX7_init_1 : decode cX7_init 1 = .ok (.invokespecial 3, 3) := by decide +kernel
theorem dX7_init_4 : decode cX7_init 4 = .ok (.aload_n 0, 1) := by decide +kernel
theorem dX7_init_5 : decode cX7_init 5 = .ok (.sipush 4096, 3) := by decide +kernel
theorem dX7_init_8 : decode cX7_init 8 = .ok (.newarray .int, 2) := by decide +kernel
theorem dX7_init_10 : decode cX7_init 10 = .ok (.putfield 9, 3) := by decide +kernel
theorem dX7_init_13 : decode cX7_init 13 = .ok (.aload_n 0, 1) := by decide +kernel
theorem dX7_init_14 : decode cX7_init 14 = .ok (.iconst 2, 1) := by decide +kernel
theorem dX7_init_15 : decode cX7_init 15 = .ok (.newarray .int, 2) := by decide +kernel
theorem dX7_init_17 : decode cX7_init 17 = .ok (.putfield 15, 3) := by decide +kernel
theorem dX7_init_20 : decode cX7_init 20 = .ok (.aload_n 0, 1) := by decide +kernel
theorem dX7_init_21 : decode cX7_init 21 = .ok (.iconst 2, 1) := by decide +kernel
theorem dX7_init_22 : decode cX7_init 22 = .ok (.newarray .int, 2) := by decide +kernel
theorem dX7_init_24 : decode cX7_init 24 = .ok (.putfield 18, 3) := by decide +kernel
theorem dX7_init_27 : decode cX7_init 27 = .ok (.aload_n 0, 1) := by decide +kernel
theorem dX7_init_28 : decode cX7_init 28 = .ok (.aload_n 1, 1) := by decide +kernel
theorem dX7_init_29 : decode cX7_init 29 = .ok (.putfield 21, 3) := by decide +kernel
theorem dX7_init_32 : decode cX7_init 32 = .ok (.aload_n 0, 1) := by decide +kernel
theorem dX7_init_33 : decode cX7_init 33 = .ok (.aload_n 2, 1) := by decide +kernel
theorem dX7_init_34 : decode cX7_init 34 = .ok (.putfield 25, 3) := by decide +kernel
theorem dX7_init_37 : decode cX7_init 37 = .ok (.return_, 1) := by decide +kernel
theorem dX7_isFort_0 : decode cX7_isFort 0 = .ok (.iload_n 2, 1) := by decide +kernel
theorem dX7_isFort_1 : decode cX7_isFort 1 = .ok (.ifCond .eq 24, 3) := by decide +kernel
theorem dX7_isFort_4 : decode cX7_isFort 4 = .ok (.aload_n 0, 1) := by decide +kernel
theorem dX7_isFort_5 : decode cX7_isFort 5 = .ok (.aload_n 0, 1) := by decide +kernel
theorem dX7_isFort_6 : decode cX7_isFort 6 = .ok (.getfield 25, 3) := by decide +kernel
theorem dX7_isFort_9 : decode cX7_isFort 9 = .ok (.iload_n 1, 1) := by decide +kernel
theorem dX7_isFort_10 : decode cX7_isFort 10 = .ok (.invokevirtual 29, 3) := by decide +kernel
theorem dX7_isFort_13 : decode cX7_isFort 13 = .ok (.iload_n 2, 1) := by decide +kernel
theorem dX7_isFort_14 : decode cX7_isFort 14 = .ok (.invokevirtual 35, 3) := by decide +kernel
theorem dX7_isFort_17 : decode cX7_isFort 17 = .ok (.iload_n 2, 1) := by decide +kernel
theorem dX7_isFort_18 : decode cX7_isFort 18 = .ok (.if_icmp .ne 7, 3) := by decide +kernel
theorem dX7_isFort_21 : decode cX7_isFort 21 = .ok (.iconst 1, 1) := by decide +kernel
theorem dX7_isFort_22 : decode cX7_isFort 22 = .ok (.goto 4, 3) := by decide +kernel
theorem dX7_isFort_25 : decode cX7_isFort 25 = .ok (.iconst 0, 1) := by decide +kernel
theorem dX7_isFort_26 : decode cX7_isFort 26 = .ok (.ireturn, 1) := by decide +kernel
theorem dX7_fortsWithin_0 : decode cX7_fortsWithin 0 = .ok (.aload_n 0, 1) := by decide +kernel
theorem dX7_fortsWithin_1 : decode cX7_fortsWithin 1 = .ok (.getfield 21, 3) := by decide +kernel
theorem dX7_fortsWithin_4 : decode cX7_fortsWithin 4 = .ok (.invokevirtual 39, 3) := by decide +kernel
theorem dX7_fortsWithin_7 : decode cX7_fortsWithin 7 = .ok (.istore_n 3, 1) := by decide +kernel
theorem dX7_fortsWithin_8 : decode cX7_fortsWithin 8 = .ok (.iload_n 3, 1) := by decide +kernel
theorem dX7_fortsWithin_9 : decode cX7_fortsWithin 9 = .ok (.aload_n 1, 1) := by decide +kernel
theorem dX7_fortsWithin_10 : decode cX7_fortsWithin 10 = .ok (.iload_n 3, 1) := by decide +kernel
theorem dX7_fortsWithin_11 : decode cX7_fortsWithin 11 = .ok (.iload_n 2, 1) := by decide +kernel
theorem dX7_fortsWithin_12 : decode cX7_fortsWithin 12 = .ok (.iconst (-1), 1) := by decide +kernel
theorem dX7_fortsWithin_13 : decode cX7_fortsWithin 13 = .ok (.ixor, 1) := by decide +kernel
theorem dX7_fortsWithin_14 : decode cX7_fortsWithin 14 = .ok (.iand, 1) := by decide +kernel
theorem dX7_fortsWithin_15 : decode cX7_fortsWithin 15 = .ok (.iaload, 1) := by decide +kernel
theorem dX7_fortsWithin_16 : decode cX7_fortsWithin 16 = .ok (.iconst (-1), 1) := by decide +kernel
theorem dX7_fortsWithin_17 : decode cX7_fortsWithin 17 = .ok (.ixor, 1) := by decide +kernel
theorem dX7_fortsWithin_18 : decode cX7_fortsWithin 18 = .ok (.iand, 1) := by decide +kernel
theorem dX7_fortsWithin_19 : decode cX7_fortsWithin 19 = .ok (.ireturn, 1) := by decide +kernel
theorem dX7_leastFort_0 : decode cX7_leastFort 0 = .ok (.aload_n 0, 1) := by decide +kernel
theorem dX7_leastFort_1 : decode cX7_leastFort 1 = .ok (.getfield 25, 3) := by decide +kernel
theorem dX7_leastFort_4 : decode cX7_leastFort 4 = .ok (.iload_n 1, 1) := by decide +kernel
theorem dX7_leastFort_5 : decode cX7_leastFort 5 = .ok (.invokevirtual 29, 3) := by decide +kernel
theorem dX7_leastFort_8 : decode cX7_leastFort 8 = .ok (.astore_n 3, 1) := by decide +kernel
theorem dX7_leastFort_9 : decode cX7_leastFort 9 = .ok (.aload_n 0, 1) := by decide +kernel
theorem dX7_leastFort_10 : decode cX7_leastFort 10 = .ok (.getfield 21, 3) := by decide +kernel
theorem dX7_leastFort_13 : decode cX7_leastFort 13 = .ok (.invokevirtual 39, 3) := by decide +kernel
theorem dX7_leastFort_16 : decode cX7_leastFort 16 = .ok (.istore 4, 2) := by decide +kernel
theorem dX7_leastFort_18 : decode cX7_leastFort 18 = .ok (.iconst 0, 1) := by decide +kernel
theorem dX7_leastFort_19 : decode cX7_leastFort 19 = .ok (.istore 5, 2) := by decide +kernel
theorem dX7_leastFort_21 : decode cX7_leastFort 21 = .ok (.iconst 1, 1) := by decide +kernel
theorem dX7_leastFort_22 : decode cX7_leastFort 22 = .ok (.istore 6, 2) := by decide +kernel
theorem dX7_leastFort_24 : decode cX7_leastFort 24 = .ok (.iload 6, 2) := by decide +kernel
theorem dX7_leastFort_26 : decode cX7_leastFort 26 = .ok (.aload_n 0, 1) := by decide +kernel
theorem dX7_leastFort_27 : decode cX7_leastFort 27 = .ok (.getfield 21, 3) := by decide +kernel
theorem dX7_leastFort_30 : decode cX7_leastFort 30 = .ok (.getfield 45, 3) := by decide +kernel
theorem dX7_leastFort_33 : decode cX7_leastFort 33 = .ok (.if_icmp .gt 57, 3) := by decide +kernel
theorem dX7_leastFort_36 : decode cX7_leastFort 36 = .ok (.iconst 1, 1) := by decide +kernel
theorem dX7_leastFort_37 : decode cX7_leastFort 37 = .ok (.istore 7, 2) := by decide +kernel
theorem dX7_leastFort_39 : decode cX7_leastFort 39 = .ok (.iload 7, 2) := by decide +kernel
theorem dX7_leastFort_41 : decode cX7_leastFort 41 = .ok (.iload 4, 2) := by decide +kernel
theorem dX7_leastFort_43 : decode cX7_leastFort 43 = .ok (.if_icmp .gt 41, 3) := by decide +kernel
theorem dX7_leastFort_46 : decode cX7_leastFort 46 = .ok (.aload_n 0, 1) := by decide +kernel
theorem dX7_leastFort_47 : decode cX7_leastFort 47 = .ok (.aload_n 3, 1) := by decide +kernel
theorem dX7_leastFort_48 : decode cX7_leastFort 48 = .ok (.iload 7, 2) := by decide +kernel
theorem dX7_leastFort_50 : decode cX7_leastFort 50 = .ok (.invokevirtual 49, 3) := by decide +kernel
theorem dX7_leastFort_53 : decode cX7_leastFort 53 = .ok (.ifCond .eq 25, 3) := by decide +kernel
theorem dX7_leastFort_56 : decode cX7_leastFort 56 = .ok (.iload 7, 2) := by decide +kernel
theorem dX7_leastFort_58 : decode cX7_leastFort 58 = .ok (.invokestatic 53, 3) := by decide +kernel
theorem dX7_leastFort_61 : decode cX7_leastFort 61 = .ok (.iload 6, 2) := by decide +kernel
theorem dX7_leastFort_63 : decode cX7_leastFort 63 = .ok (.if_icmp .ne 15, 3) := by decide +kernel
theorem dX7_leastFort_66 : decode cX7_leastFort 66 = .ok (.iload 5, 2) := by decide +kernel
theorem dX7_leastFort_68 : decode cX7_leastFort 68 = .ok (.iload_n 2, 1) := by decide +kernel
theorem dX7_leastFort_69 : decode cX7_leastFort 69 = .ok (.if_icmp .ne 6, 3) := by decide +kernel
theorem dX7_leastFort_72 : decode cX7_leastFort 72 = .ok (.iload 7, 2) := by decide +kernel
theorem dX7_leastFort_74 : decode cX7_leastFort 74 = .ok (.ireturn, 1) := by decide +kernel
theorem dX7_leastFort_75 : decode cX7_leastFort 75 = .ok (.iinc 5 1, 3) := by decide +kernel
theorem dX7_leastFort_78 : decode cX7_leastFort 78 = .ok (.iinc 7 1, 3) := by decide +kernel
theorem dX7_leastFort_81 : decode cX7_leastFort 81 = .ok (.goto (-42), 3) := by decide +kernel
theorem dX7_leastFort_84 : decode cX7_leastFort 84 = .ok (.iinc 6 1, 3) := by decide +kernel
theorem dX7_leastFort_87 : decode cX7_leastFort 87 = .ok (.goto (-63), 3) := by decide +kernel
theorem dX7_leastFort_90 : decode cX7_leastFort 90 = .ok (.iconst (-1), 1) := by decide +kernel
theorem dX7_leastFort_91 : decode cX7_leastFort 91 = .ok (.ireturn, 1) := by decide +kernel
theorem dX7_isLeast_0 : decode cX7_isLeast 0 = .ok (.aload_n 0, 1) := by decide +kernel
theorem dX7_isLeast_1 : decode cX7_isLeast 1 = .ok (.aload_n 1, 1) := by decide +kernel
theorem dX7_isLeast_2 : decode cX7_isLeast 2 = .ok (.iload_n 2, 1) := by decide +kernel
theorem dX7_isLeast_3 : decode cX7_isLeast 3 = .ok (.invokevirtual 35, 3) := by decide +kernel
theorem dX7_isLeast_6 : decode cX7_isLeast 6 = .ok (.iload_n 2, 1) := by decide +kernel
theorem dX7_isLeast_7 : decode cX7_isLeast 7 = .ok (.if_icmp .eq 5, 3) := by decide +kernel
theorem dX7_isLeast_10 : decode cX7_isLeast 10 = .ok (.iconst 0, 1) := by decide +kernel
theorem dX7_isLeast_11 : decode cX7_isLeast 11 = .ok (.ireturn, 1) := by decide +kernel
theorem dX7_isLeast_12 : decode cX7_isLeast 12 = .ok (.iconst 0, 1) := by decide +kernel
theorem dX7_isLeast_13 : decode cX7_isLeast 13 = .ok (.istore_n 3, 1) := by decide +kernel
theorem dX7_isLeast_14 : decode cX7_isLeast 14 = .ok (.iload_n 3, 1) := by decide +kernel
theorem dX7_isLeast_15 : decode cX7_isLeast 15 = .ok (.aload_n 0, 1) := by decide +kernel
theorem dX7_isLeast_16 : decode cX7_isLeast 16 = .ok (.getfield 21, 3) := by decide +kernel
theorem dX7_isLeast_19 : decode cX7_isLeast 19 = .ok (.getfield 45, 3) := by decide +kernel
theorem dX7_isLeast_22 : decode cX7_isLeast 22 = .ok (.if_icmp .ge 34, 3) := by decide +kernel
theorem dX7_isLeast_25 : decode cX7_isLeast 25 = .ok (.iload_n 2, 1) := by decide +kernel
theorem dX7_isLeast_26 : decode cX7_isLeast 26 = .ok (.iload_n 3, 1) := by decide +kernel
theorem dX7_isLeast_27 : decode cX7_isLeast 27 = .ok (.invokestatic 59, 3) := by decide +kernel
theorem dX7_isLeast_30 : decode cX7_isLeast 30 = .ok (.ifCond .eq 20, 3) := by decide +kernel
theorem dX7_isLeast_33 : decode cX7_isLeast 33 = .ok (.aload_n 0, 1) := by decide +kernel
theorem dX7_isLeast_34 : decode cX7_isLeast 34 = .ok (.aload_n 1, 1) := by decide +kernel
theorem dX7_isLeast_35 : decode cX7_isLeast 35 = .ok (.iload_n 2, 1) := by decide +kernel
theorem dX7_isLeast_36 : decode cX7_isLeast 36 = .ok (.iconst 1, 1) := by decide +kernel
theorem dX7_isLeast_37 : decode cX7_isLeast 37 = .ok (.iload_n 3, 1) := by decide +kernel
theorem dX7_isLeast_38 : decode cX7_isLeast 38 = .ok (.ishl, 1) := by decide +kernel
theorem dX7_isLeast_39 : decode cX7_isLeast 39 = .ok (.iconst (-1), 1) := by decide +kernel
theorem dX7_isLeast_40 : decode cX7_isLeast 40 = .ok (.ixor, 1) := by decide +kernel
theorem dX7_isLeast_41 : decode cX7_isLeast 41 = .ok (.iand, 1) := by decide +kernel
theorem dX7_isLeast_42 : decode cX7_isLeast 42 = .ok (.invokevirtual 35, 3) := by decide +kernel
theorem dX7_isLeast_45 : decode cX7_isLeast 45 = .ok (.ifCond .eq 5, 3) := by decide +kernel
theorem dX7_isLeast_48 : decode cX7_isLeast 48 = .ok (.iconst 0, 1) := by decide +kernel
theorem dX7_isLeast_49 : decode cX7_isLeast 49 = .ok (.ireturn, 1) := by decide +kernel
theorem dX7_isLeast_50 : decode cX7_isLeast 50 = .ok (.iinc 3 1, 3) := by decide +kernel
theorem dX7_isLeast_53 : decode cX7_isLeast 53 = .ok (.goto (-39), 3) := by decide +kernel
theorem dX7_isLeast_56 : decode cX7_isLeast 56 = .ok (.iconst 1, 1) := by decide +kernel
theorem dX7_isLeast_57 : decode cX7_isLeast 57 = .ok (.ireturn, 1) := by decide +kernel
theorem dX7_mostApart_0 : decode cX7_mostApart 0 = .ok (.aload_n 0, 1) := by decide +kernel
theorem dX7_mostApart_1 : decode cX7_mostApart 1 = .ok (.getfield 18, 3) := by decide +kernel
theorem dX7_mostApart_4 : decode cX7_mostApart 4 = .ok (.iload_n 1, 1) := by decide +kernel
theorem dX7_mostApart_5 : decode cX7_mostApart 5 = .ok (.iaload, 1) := by decide +kernel
theorem dX7_mostApart_6 : decode cX7_mostApart 6 = .ok (.aload_n 0, 1) := by decide +kernel
theorem dX7_mostApart_7 : decode cX7_mostApart 7 = .ok (.getfield 21, 3) := by decide +kernel
theorem dX7_mostApart_10 : decode cX7_mostApart 10 = .ok (.iload_n 1, 1) := by decide +kernel
theorem dX7_mostApart_11 : decode cX7_mostApart 11 = .ok (.invokevirtual 63, 3) := by decide +kernel
theorem dX7_mostApart_14 : decode cX7_mostApart 14 = .ok (.if_icmp .eq 75, 3) := by decide +kernel
theorem dX7_mostApart_17 : decode cX7_mostApart 17 = .ok (.aload_n 0, 1) := by decide +kernel
theorem dX7_mostApart_18 : decode cX7_mostApart 18 = .ok (.getfield 25, 3) := by decide +kernel
theorem dX7_mostApart_21 : decode cX7_mostApart 21 = .ok (.iload_n 1, 1) := by decide +kernel
theorem dX7_mostApart_22 : decode cX7_mostApart 22 = .ok (.invokevirtual 29, 3) := by decide +kernel
theorem dX7_mostApart_25 : decode cX7_mostApart 25 = .ok (.astore_n 2, 1) := by decide +kernel
theorem dX7_mostApart_26 : decode cX7_mostApart 26 = .ok (.aload_n 0, 1) := by decide +kernel
theorem dX7_mostApart_27 : decode cX7_mostApart 27 = .ok (.getfield 21, 3) := by decide +kernel
theorem dX7_mostApart_30 : decode cX7_mostApart 30 = .ok (.invokevirtual 39, 3) := by decide +kernel
theorem dX7_mostApart_33 : decode cX7_mostApart 33 = .ok (.istore_n 3, 1) := by decide +kernel
theorem dX7_mostApart_34 : decode cX7_mostApart 34 = .ok (.iconst 0, 1) := by decide +kernel
theorem dX7_mostApart_35 : decode cX7_mostApart 35 = .ok (.istore 4, 2) := by decide +kernel
theorem dX7_mostApart_37 : decode cX7_mostApart 37 = .ok (.iload 4, 2) := by decide +kernel
theorem dX7_mostApart_39 : decode cX7_mostApart 39 = .ok (.iload_n 3, 1) := by decide +kernel
theorem dX7_mostApart_40 : decode cX7_mostApart 40 = .ok (.if_icmp .gt 23, 3) := by decide +kernel
theorem dX7_mostApart_43 : decode cX7_mostApart 43 = .ok (.aload_n 0, 1) := by decide +kernel
theorem dX7_mostApart_44 : decode cX7_mostApart 44 = .ok (.getfield 9, 3) := by decide +kernel
theorem dX7_mostApart_47 : decode cX7_mostApart 47 = .ok (.iload 4, 2) := by decide +kernel
theorem dX7_mostApart_49 : decode cX7_mostApart 49 = .ok (.aload_n 0, 1) := by decide +kernel
theorem dX7_mostApart_50 : decode cX7_mostApart 50 = .ok (.aload_n 2, 1) := by decide +kernel
theorem dX7_mostApart_51 : decode cX7_mostApart 51 = .ok (.iload 4, 2) := by decide +kernel
theorem dX7_mostApart_53 : decode cX7_mostApart 53 = .ok (.invokevirtual 66, 3) := by decide +kernel
theorem dX7_mostApart_56 : decode cX7_mostApart 56 = .ok (.iastore, 1) := by decide +kernel
theorem dX7_mostApart_57 : decode cX7_mostApart 57 = .ok (.iinc 4 1, 3) := by decide +kernel
theorem dX7_mostApart_60 : decode cX7_mostApart 60 = .ok (.goto (-23), 3) := by decide +kernel
theorem dX7_mostApart_63 : decode cX7_mostApart 63 = .ok (.aload_n 0, 1) := by decide +kernel
theorem dX7_mostApart_64 : decode cX7_mostApart 64 = .ok (.getfield 15, 3) := by decide +kernel
theorem dX7_mostApart_67 : decode cX7_mostApart 67 = .ok (.iload_n 1, 1) := by decide +kernel
theorem dX7_mostApart_68 : decode cX7_mostApart 68 = .ok (.aload_n 0, 1) := by decide +kernel
theorem dX7_mostApart_69 : decode cX7_mostApart 69 = .ok (.getfield 9, 3) := by decide +kernel
theorem dX7_mostApart_72 : decode cX7_mostApart 72 = .ok (.iload_n 3, 1) := by decide +kernel
theorem dX7_mostApart_73 : decode cX7_mostApart 73 = .ok (.iaload, 1) := by decide +kernel
theorem dX7_mostApart_74 : decode cX7_mostApart 74 = .ok (.iastore, 1) := by decide +kernel
theorem dX7_mostApart_75 : decode cX7_mostApart 75 = .ok (.aload_n 0, 1) := by decide +kernel
theorem dX7_mostApart_76 : decode cX7_mostApart 76 = .ok (.getfield 18, 3) := by decide +kernel
theorem dX7_mostApart_79 : decode cX7_mostApart 79 = .ok (.iload_n 1, 1) := by decide +kernel
theorem dX7_mostApart_80 : decode cX7_mostApart 80 = .ok (.aload_n 0, 1) := by decide +kernel
theorem dX7_mostApart_81 : decode cX7_mostApart 81 = .ok (.getfield 21, 3) := by decide +kernel
theorem dX7_mostApart_84 : decode cX7_mostApart 84 = .ok (.iload_n 1, 1) := by decide +kernel
theorem dX7_mostApart_85 : decode cX7_mostApart 85 = .ok (.invokevirtual 63, 3) := by decide +kernel
theorem dX7_mostApart_88 : decode cX7_mostApart 88 = .ok (.iastore, 1) := by decide +kernel
theorem dX7_mostApart_89 : decode cX7_mostApart 89 = .ok (.aload_n 0, 1) := by decide +kernel
theorem dX7_mostApart_90 : decode cX7_mostApart 90 = .ok (.getfield 15, 3) := by decide +kernel
theorem dX7_mostApart_93 : decode cX7_mostApart 93 = .ok (.iload_n 1, 1) := by decide +kernel
theorem dX7_mostApart_94 : decode cX7_mostApart 94 = .ok (.iaload, 1) := by decide +kernel
theorem dX7_mostApart_95 : decode cX7_mostApart 95 = .ok (.ireturn, 1) := by decide +kernel
theorem dX7_mostWithin_0 : decode cX7_mostWithin 0 = .ok (.iload_n 2, 1) := by decide +kernel
theorem dX7_mostWithin_1 : decode cX7_mostWithin 1 = .ok (.ifCond .ne 5, 3) := by decide +kernel
theorem dX7_mostWithin_4 : decode cX7_mostWithin 4 = .ok (.iconst 0, 1) := by decide +kernel
theorem dX7_mostWithin_5 : decode cX7_mostWithin 5 = .ok (.ireturn, 1) := by decide +kernel
theorem dX7_mostWithin_6 : decode cX7_mostWithin 6 = .ok (.aload_n 0, 1) := by decide +kernel
theorem dX7_mostWithin_7 : decode cX7_mostWithin 7 = .ok (.aload_n 1, 1) := by decide +kernel
theorem dX7_mostWithin_8 : decode cX7_mostWithin 8 = .ok (.iload_n 2, 1) := by decide +kernel
theorem dX7_mostWithin_9 : decode cX7_mostWithin 9 = .ok (.invokevirtual 35, 3) := by decide +kernel
theorem dX7_mostWithin_12 : decode cX7_mostWithin 12 = .ok (.istore_n 3, 1) := by decide +kernel
theorem dX7_mostWithin_13 : decode cX7_mostWithin 13 = .ok (.iload_n 3, 1) := by decide +kernel
theorem dX7_mostWithin_14 : decode cX7_mostWithin 14 = .ok (.iload_n 2, 1) := by decide +kernel
theorem dX7_mostWithin_15 : decode cX7_mostWithin 15 = .ok (.if_icmp .ne 12, 3) := by decide +kernel
theorem dX7_mostWithin_18 : decode cX7_mostWithin 18 = .ok (.aload_n 0, 1) := by decide +kernel
theorem dX7_mostWithin_19 : decode cX7_mostWithin 19 = .ok (.aload_n 1, 1) := by decide +kernel
theorem dX7_mostWithin_20 : decode cX7_mostWithin 20 = .ok (.iload_n 2, 1) := by decide +kernel
theorem dX7_mostWithin_21 : decode cX7_mostWithin 21 = .ok (.invokevirtual 69, 3) := by decide +kernel
theorem dX7_mostWithin_24 : decode cX7_mostWithin 24 = .ok (.goto 9, 3) := by decide +kernel
theorem dX7_mostWithin_27 : decode cX7_mostWithin 27 = .ok (.aload_n 0, 1) := by decide +kernel
theorem dX7_mostWithin_28 : decode cX7_mostWithin 28 = .ok (.getfield 9, 3) := by decide +kernel
theorem dX7_mostWithin_31 : decode cX7_mostWithin 31 = .ok (.iload_n 3, 1) := by decide +kernel
theorem dX7_mostWithin_32 : decode cX7_mostWithin 32 = .ok (.iaload, 1) := by decide +kernel
theorem dX7_mostWithin_33 : decode cX7_mostWithin 33 = .ok (.ireturn, 1) := by decide +kernel
theorem dX7_mostByLowest_0 : decode cX7_mostByLowest 0 = .ok (.iload_n 2, 1) := by decide +kernel
theorem dX7_mostByLowest_1 : decode cX7_mostByLowest 1 = .ok (.iload_n 2, 1) := by decide +kernel
theorem dX7_mostByLowest_2 : decode cX7_mostByLowest 2 = .ok (.ineg, 1) := by decide +kernel
theorem dX7_mostByLowest_3 : decode cX7_mostByLowest 3 = .ok (.iand, 1) := by decide +kernel
theorem dX7_mostByLowest_4 : decode cX7_mostByLowest 4 = .ok (.istore_n 3, 1) := by decide +kernel
theorem dX7_mostByLowest_5 : decode cX7_mostByLowest 5 = .ok (.iload_n 2, 1) := by decide +kernel
theorem dX7_mostByLowest_6 : decode cX7_mostByLowest 6 = .ok (.iload_n 3, 1) := by decide +kernel
theorem dX7_mostByLowest_7 : decode cX7_mostByLowest 7 = .ok (.iconst (-1), 1) := by decide +kernel
theorem dX7_mostByLowest_8 : decode cX7_mostByLowest 8 = .ok (.ixor, 1) := by decide +kernel
theorem dX7_mostByLowest_9 : decode cX7_mostByLowest 9 = .ok (.iand, 1) := by decide +kernel
theorem dX7_mostByLowest_10 : decode cX7_mostByLowest 10 = .ok (.istore 4, 2) := by decide +kernel
theorem dX7_mostByLowest_12 : decode cX7_mostByLowest 12 = .ok (.aload_n 0, 1) := by decide +kernel
theorem dX7_mostByLowest_13 : decode cX7_mostByLowest 13 = .ok (.getfield 9, 3) := by decide +kernel
theorem dX7_mostByLowest_16 : decode cX7_mostByLowest 16 = .ok (.iload 4, 2) := by decide +kernel
theorem dX7_mostByLowest_18 : decode cX7_mostByLowest 18 = .ok (.iaload, 1) := by decide +kernel
theorem dX7_mostByLowest_19 : decode cX7_mostByLowest 19 = .ok (.istore 5, 2) := by decide +kernel
theorem dX7_mostByLowest_21 : decode cX7_mostByLowest 21 = .ok (.iload 4, 2) := by decide +kernel
theorem dX7_mostByLowest_23 : decode cX7_mostByLowest 23 = .ok (.istore 6, 2) := by decide +kernel
theorem dX7_mostByLowest_25 : decode cX7_mostByLowest 25 = .ok (.iload 6, 2) := by decide +kernel
theorem dX7_mostByLowest_27 : decode cX7_mostByLowest 27 = .ok (.ifCond .le 58, 3) := by decide +kernel
theorem dX7_mostByLowest_30 : decode cX7_mostByLowest 30 = .ok (.iload_n 2, 1) := by decide +kernel
theorem dX7_mostByLowest_31 : decode cX7_mostByLowest 31 = .ok (.iload 6, 2) := by decide +kernel
theorem dX7_mostByLowest_33 : decode cX7_mostByLowest 33 = .ok (.iconst (-1), 1) := by decide +kernel
theorem dX7_mostByLowest_34 : decode cX7_mostByLowest 34 = .ok (.ixor, 1) := by decide +kernel
theorem dX7_mostByLowest_35 : decode cX7_mostByLowest 35 = .ok (.iand, 1) := by decide +kernel
theorem dX7_mostByLowest_36 : decode cX7_mostByLowest 36 = .ok (.istore 7, 2) := by decide +kernel
theorem dX7_mostByLowest_38 : decode cX7_mostByLowest 38 = .ok (.aload_n 0, 1) := by decide +kernel
theorem dX7_mostByLowest_39 : decode cX7_mostByLowest 39 = .ok (.getfield 9, 3) := by decide +kernel
theorem dX7_mostByLowest_42 : decode cX7_mostByLowest 42 = .ok (.iload 6, 2) := by decide +kernel
theorem dX7_mostByLowest_44 : decode cX7_mostByLowest 44 = .ok (.iaload, 1) := by decide +kernel
theorem dX7_mostByLowest_45 : decode cX7_mostByLowest 45 = .ok (.iload 5, 2) := by decide +kernel
theorem dX7_mostByLowest_47 : decode cX7_mostByLowest 47 = .ok (.if_icmp .lt 26, 3) := by decide +kernel
theorem dX7_mostByLowest_50 : decode cX7_mostByLowest 50 = .ok (.aload_n 0, 1) := by decide +kernel
theorem dX7_mostByLowest_51 : decode cX7_mostByLowest 51 = .ok (.aload_n 1, 1) := by decide +kernel
theorem dX7_mostByLowest_52 : decode cX7_mostByLowest 52 = .ok (.iload 7, 2) := by decide +kernel
theorem dX7_mostByLowest_54 : decode cX7_mostByLowest 54 = .ok (.invokevirtual 35, 3) := by decide +kernel
theorem dX7_mostByLowest_57 : decode cX7_mostByLowest 57 = .ok (.iload 7, 2) := by decide +kernel
theorem dX7_mostByLowest_59 : decode cX7_mostByLowest 59 = .ok (.if_icmp .ne 14, 3) := by decide +kernel
theorem dX7_mostByLowest_62 : decode cX7_mostByLowest 62 = .ok (.aload_n 0, 1) := by decide +kernel
theorem dX7_mostByLowest_63 : decode cX7_mostByLowest 63 = .ok (.getfield 9, 3) := by decide +kernel
theorem dX7_mostByLowest_66 : decode cX7_mostByLowest 66 = .ok (.iload 6, 2) := by decide +kernel
theorem dX7_mostByLowest_68 : decode cX7_mostByLowest 68 = .ok (.iaload, 1) := by decide +kernel
theorem dX7_mostByLowest_69 : decode cX7_mostByLowest 69 = .ok (.iconst 1, 1) := by decide +kernel
theorem dX7_mostByLowest_70 : decode cX7_mostByLowest 70 = .ok (.iadd, 1) := by decide +kernel
theorem dX7_mostByLowest_71 : decode cX7_mostByLowest 71 = .ok (.istore 5, 2) := by decide +kernel
theorem dX7_mostByLowest_73 : decode cX7_mostByLowest 73 = .ok (.iload 6, 2) := by decide +kernel
theorem dX7_mostByLowest_75 : decode cX7_mostByLowest 75 = .ok (.iconst 1, 1) := by decide +kernel
theorem dX7_mostByLowest_76 : decode cX7_mostByLowest 76 = .ok (.isub, 1) := by decide +kernel
theorem dX7_mostByLowest_77 : decode cX7_mostByLowest 77 = .ok (.iload 4, 2) := by decide +kernel
theorem dX7_mostByLowest_79 : decode cX7_mostByLowest 79 = .ok (.iand, 1) := by decide +kernel
theorem dX7_mostByLowest_80 : decode cX7_mostByLowest 80 = .ok (.istore 6, 2) := by decide +kernel
theorem dX7_mostByLowest_82 : decode cX7_mostByLowest 82 = .ok (.goto (-57), 3) := by decide +kernel
theorem dX7_mostByLowest_85 : decode cX7_mostByLowest 85 = .ok (.iload 5, 2) := by decide +kernel
theorem dX7_mostByLowest_87 : decode cX7_mostByLowest 87 = .ok (.iconst 1, 1) := by decide +kernel
theorem dX7_mostByLowest_88 : decode cX7_mostByLowest 88 = .ok (.invokestatic 72, 3) := by decide +kernel
theorem dX7_mostByLowest_91 : decode cX7_mostByLowest 91 = .ok (.ireturn, 1) := by decide +kernel
end
section
theorem dX0_init_0 : decode cX0_init 0 = .ok (.aload_n 0, 1) := by decide +kernel
theorem dX0_init_1 : decode cX0_init 1 = .ok (.invokespecial 3, 3) := by decide +kernel
theorem dX0_init_4 : decode cX0_init 4 = .ok (.aload_n 0, 1) := by decide +kernel
theorem dX0_init_5 : decode cX0_init 5 = .ok (.sipush 4096, 3) := by decide +kernel
theorem dX0_init_8 : decode cX0_init 8 = .ok (.newarray .int, 2) := by decide +kernel
theorem dX0_init_10 : decode cX0_init 10 = .ok (.putfield 9, 3) := by decide +kernel
theorem dX0_init_13 : decode cX0_init 13 = .ok (.aload_n 0, 1) := by decide +kernel
theorem dX0_init_14 : decode cX0_init 14 = .ok (.aload_n 1, 1) := by decide +kernel
theorem dX0_init_15 : decode cX0_init 15 = .ok (.putfield 15, 3) := by decide +kernel
theorem dX0_init_18 : decode cX0_init 18 = .ok (.return_, 1) := by decide +kernel
theorem dX0_fewestTicks_0 : decode cX0_fewestTicks 0 = .ok (.aload_n 0, 1) := by decide +kernel
theorem dX0_fewestTicks_1 : decode cX0_fewestTicks 1 = .ok (.invokevirtual 19, 3) := by decide +kernel
theorem dX0_fewestTicks_4 : decode cX0_fewestTicks 4 = .ok (.aload_n 0, 1) := by decide +kernel
theorem dX0_fewestTicks_5 : decode cX0_fewestTicks 5 = .ok (.getfield 9, 3) := by decide +kernel
theorem dX0_fewestTicks_8 : decode cX0_fewestTicks 8 = .ok (.iconst 0, 1) := by decide +kernel
theorem dX0_fewestTicks_9 : decode cX0_fewestTicks 9 = .ok (.iaload, 1) := by decide +kernel
theorem dX0_fewestTicks_10 : decode cX0_fewestTicks 10 = .ok (.ireturn, 1) := by decide +kernel
theorem dX0_bestHand_0 : decode cX0_bestHand 0 = .ok (.aload_n 0, 1) := by decide +kernel
theorem dX0_bestHand_1 : decode cX0_bestHand 1 = .ok (.invokevirtual 19, 3) := by decide +kernel
theorem dX0_bestHand_4 : decode cX0_bestHand 4 = .ok (.aload_n 0, 1) := by decide +kernel
theorem dX0_bestHand_5 : decode cX0_bestHand 5 = .ok (.getfield 15, 3) := by decide +kernel
theorem dX0_bestHand_8 : decode cX0_bestHand 8 = .ok (.invokevirtual 22, 3) := by decide +kernel
theorem dX0_bestHand_11 : decode cX0_bestHand 11 = .ok (.istore_n 2, 1) := by decide +kernel
theorem dX0_bestHand_12 : decode cX0_bestHand 12 = .ok (.iconst 0, 1) := by decide +kernel
theorem dX0_bestHand_13 : decode cX0_bestHand 13 = .ok (.istore_n 3, 1) := by decide +kernel
theorem dX0_bestHand_14 : decode cX0_bestHand 14 = .ok (.iconst 0, 1) := by decide +kernel
theorem dX0_bestHand_15 : decode cX0_bestHand 15 = .ok (.istore 4, 2) := by decide +kernel
theorem dX0_bestHand_17 : decode cX0_bestHand 17 = .ok (.iload 4, 2) := by decide +kernel
theorem dX0_bestHand_19 : decode cX0_bestHand 19 = .ok (.bipush 12, 2) := by decide +kernel
theorem dX0_bestHand_21 : decode cX0_bestHand 21 = .ok (.if_icmp .ge 52, 3) := by decide +kernel
theorem dX0_bestHand_24 : decode cX0_bestHand 24 = .ok (.aload_n 0, 1) := by decide +kernel
theorem dX0_bestHand_25 : decode cX0_bestHand 25 = .ok (.getfield 15, 3) := by decide +kernel
theorem dX0_bestHand_28 : decode cX0_bestHand 28 = .ok (.iload_n 3, 1) := by decide +kernel
theorem dX0_bestHand_29 : decode cX0_bestHand 29 = .ok (.invokevirtual 28, 3) := by decide +kernel
theorem dX0_bestHand_32 : decode cX0_bestHand 32 = .ok (.istore 5, 2) := by decide +kernel
theorem dX0_bestHand_34 : decode cX0_bestHand 34 = .ok (.iload 5, 2) := by decide +kernel
theorem dX0_bestHand_36 : decode cX0_bestHand 36 = .ok (.iload_n 2, 1) := by decide +kernel
theorem dX0_bestHand_37 : decode cX0_bestHand 37 = .ok (.if_icmp .ne 5, 3) := by decide +kernel
theorem dX0_bestHand_40 : decode cX0_bestHand 40 = .ok (.iconst (-1), 1) := by decide +kernel
theorem dX0_bestHand_41 : decode cX0_bestHand 41 = .ok (.ireturn, 1) := by decide +kernel
theorem dX0_bestHand_42 : decode cX0_bestHand 42 = .ok (.aload_n 0, 1) := by decide +kernel
theorem dX0_bestHand_43 : decode cX0_bestHand 43 = .ok (.iload 5, 2) := by decide +kernel
theorem dX0_bestHand_45 : decode cX0_bestHand 45 = .ok (.invokevirtual 32, 3) := by decide +kernel
theorem dX0_bestHand_48 : decode cX0_bestHand 48 = .ok (.istore 6, 2) := by decide +kernel
theorem dX0_bestHand_50 : decode cX0_bestHand 50 = .ok (.iload 4, 2) := by decide +kernel
theorem dX0_bestHand_52 : decode cX0_bestHand 52 = .ok (.iload_n 1, 1) := by decide +kernel
theorem dX0_bestHand_53 : decode cX0_bestHand 53 = .ok (.if_icmp .ne 6, 3) := by decide +kernel
theorem dX0_bestHand_56 : decode cX0_bestHand 56 = .ok (.iload 6, 2) := by decide +kernel
theorem dX0_bestHand_58 : decode cX0_bestHand 58 = .ok (.ireturn, 1) := by decide +kernel
theorem dX0_bestHand_59 : decode cX0_bestHand 59 = .ok (.iload 5, 2) := by decide +kernel
theorem dX0_bestHand_61 : decode cX0_bestHand 61 = .ok (.iconst 1, 1) := by decide +kernel
theorem dX0_bestHand_62 : decode cX0_bestHand 62 = .ok (.iload 6, 2) := by decide +kernel
theorem dX0_bestHand_64 : decode cX0_bestHand 64 = .ok (.ishl, 1) := by decide +kernel
theorem dX0_bestHand_65 : decode cX0_bestHand 65 = .ok (.ior, 1) := by decide +kernel
theorem dX0_bestHand_66 : decode cX0_bestHand 66 = .ok (.istore_n 3, 1) := by decide +kernel
theorem dX0_bestHand_67 : decode cX0_bestHand 67 = .ok (.iinc 4 1, 3) := by decide +kernel
theorem dX0_bestHand_70 : decode cX0_bestHand 70 = .ok (.goto (-53), 3) := by decide +kernel
theorem dX0_bestHand_73 : decode cX0_bestHand 73 = .ok (.iconst (-1), 1) := by decide +kernel
theorem dX0_bestHand_74 : decode cX0_bestHand 74 = .ok (.ireturn, 1) := by decide +kernel
theorem dX0_bestPost_0 : decode cX0_bestPost 0 = .ok (.iconst 0, 1) := by decide +kernel
theorem dX0_bestPost_1 : decode cX0_bestPost 1 = .ok (.istore_n 2, 1) := by decide +kernel
theorem dX0_bestPost_2 : decode cX0_bestPost 2 = .ok (.bipush 13, 2) := by decide +kernel
theorem dX0_bestPost_4 : decode cX0_bestPost 4 = .ok (.istore_n 3, 1) := by decide +kernel
theorem dX0_bestPost_5 : decode cX0_bestPost 5 = .ok (.iconst 0, 1) := by decide +kernel
theorem dX0_bestPost_6 : decode cX0_bestPost 6 = .ok (.istore 4, 2) := by decide +kernel
theorem dX0_bestPost_8 : decode cX0_bestPost 8 = .ok (.iload 4, 2) := by decide +kernel
theorem dX0_bestPost_10 : decode cX0_bestPost 10 = .ok (.aload_n 0, 1) := by decide +kernel
theorem dX0_bestPost_11 : decode cX0_bestPost 11 = .ok (.getfield 15, 3) := by decide +kernel
theorem dX0_bestPost_14 : decode cX0_bestPost 14 = .ok (.getfield 35, 3) := by decide +kernel
theorem dX0_bestPost_17 : decode cX0_bestPost 17 = .ok (.if_icmp .ge 48, 3) := by decide +kernel
theorem dX0_bestPost_20 : decode cX0_bestPost 20 = .ok (.iload_n 1, 1) := by decide +kernel
theorem dX0_bestPost_21 : decode cX0_bestPost 21 = .ok (.iload 4, 2) := by decide +kernel
theorem dX0_bestPost_23 : decode cX0_bestPost 23 = .ok (.invokestatic 39, 3) := by decide +kernel
theorem dX0_bestPost_26 : decode cX0_bestPost 26 = .ok (.ifCond .ne 33, 3) := by decide +kernel
theorem dX0_bestPost_29 : decode cX0_bestPost 29 = .ok (.aload_n 0, 1) := by decide +kernel
theorem dX0_bestPost_30 : decode cX0_bestPost 30 = .ok (.getfield 9, 3) := by decide +kernel
theorem dX0_bestPost_33 : decode cX0_bestPost 33 = .ok (.iload_n 1, 1) := by decide +kernel
theorem dX0_bestPost_34 : decode cX0_bestPost 34 = .ok (.iconst 1, 1) := by decide +kernel
theorem dX0_bestPost_35 : decode cX0_bestPost 35 = .ok (.iload 4, 2) := by decide +kernel
theorem dX0_bestPost_37 : decode cX0_bestPost 37 = .ok (.ishl, 1) := by decide +kernel
theorem dX0_bestPost_38 : decode cX0_bestPost 38 = .ok (.ior, 1) := by decide +kernel
theorem dX0_bestPost_39 : decode cX0_bestPost 39 = .ok (.iaload, 1) := by decide +kernel
theorem dX0_bestPost_40 : decode cX0_bestPost 40 = .ok (.iload_n 3, 1) := by decide +kernel
theorem dX0_bestPost_41 : decode cX0_bestPost 41 = .ok (.if_icmp .ge 18, 3) := by decide +kernel
theorem dX0_bestPost_44 : decode cX0_bestPost 44 = .ok (.iload 4, 2) := by decide +kernel
theorem dX0_bestPost_46 : decode cX0_bestPost 46 = .ok (.istore_n 2, 1) := by decide +kernel
theorem dX0_bestPost_47 : decode cX0_bestPost 47 = .ok (.aload_n 0, 1) := by decide +kernel
theorem dX0_bestPost_48 : decode cX0_bestPost 48 = .ok (.getfield 9, 3) := by decide +kernel
theorem dX0_bestPost_51 : decode cX0_bestPost 51 = .ok (.iload_n 1, 1) := by decide +kernel
theorem dX0_bestPost_52 : decode cX0_bestPost 52 = .ok (.iconst 1, 1) := by decide +kernel
theorem dX0_bestPost_53 : decode cX0_bestPost 53 = .ok (.iload 4, 2) := by decide +kernel
theorem dX0_bestPost_55 : decode cX0_bestPost 55 = .ok (.ishl, 1) := by decide +kernel
theorem dX0_bestPost_56 : decode cX0_bestPost 56 = .ok (.ior, 1) := by decide +kernel
theorem dX0_bestPost_57 : decode cX0_bestPost 57 = .ok (.iaload, 1) := by decide +kernel
theorem dX0_bestPost_58 : decode cX0_bestPost 58 = .ok (.istore_n 3, 1) := by decide +kernel
theorem dX0_bestPost_59 : decode cX0_bestPost 59 = .ok (.iinc 4 1, 3) := by decide +kernel
theorem dX0_bestPost_62 : decode cX0_bestPost 62 = .ok (.goto (-54), 3) := by decide +kernel
theorem dX0_bestPost_65 : decode cX0_bestPost 65 = .ok (.iload_n 2, 1) := by decide +kernel
theorem dX0_bestPost_66 : decode cX0_bestPost 66 = .ok (.ireturn, 1) := by decide +kernel
theorem dX0_renewTicks_0 : decode cX0_renewTicks 0 = .ok (.aload_n 0, 1) := by decide +kernel
theorem dX0_renewTicks_1 : decode cX0_renewTicks 1 = .ok (.getfield 43, 3) := by decide +kernel
theorem dX0_renewTicks_4 : decode cX0_renewTicks 4 = .ok (.aload_n 0, 1) := by decide +kernel
theorem dX0_renewTicks_5 : decode cX0_renewTicks 5 = .ok (.getfield 15, 3) := by decide +kernel
theorem dX0_renewTicks_8 : decode cX0_renewTicks 8 = .ok (.getfield 46, 3) := by decide +kernel
theorem dX0_renewTicks_11 : decode cX0_renewTicks 11 = .ok (.if_icmp .ne 4, 3) := by decide +kernel
theorem dX0_renewTicks_14 : decode cX0_renewTicks 14 = .ok (.return_, 1) := by decide +kernel
theorem dX0_renewTicks_15 : decode cX0_renewTicks 15 = .ok (.aload_n 0, 1) := by decide +kernel
theorem dX0_renewTicks_16 : decode cX0_renewTicks 16 = .ok (.getfield 15, 3) := by decide +kernel
theorem dX0_renewTicks_19 : decode cX0_renewTicks 19 = .ok (.invokevirtual 22, 3) := by decide +kernel
theorem dX0_renewTicks_22 : decode cX0_renewTicks 22 = .ok (.istore_n 1, 1) := by decide +kernel
theorem dX0_renewTicks_23 : decode cX0_renewTicks 23 = .ok (.aload_n 0, 1) := by decide +kernel
theorem dX0_renewTicks_24 : decode cX0_renewTicks 24 = .ok (.getfield 9, 3) := by decide +kernel
theorem dX0_renewTicks_27 : decode cX0_renewTicks 27 = .ok (.iload_n 1, 1) := by decide +kernel
theorem dX0_renewTicks_28 : decode cX0_renewTicks 28 = .ok (.iconst 0, 1) := by decide +kernel
theorem dX0_renewTicks_29 : decode cX0_renewTicks 29 = .ok (.iastore, 1) := by decide +kernel
theorem dX0_renewTicks_30 : decode cX0_renewTicks 30 = .ok (.iload_n 1, 1) := by decide +kernel
theorem dX0_renewTicks_31 : decode cX0_renewTicks 31 = .ok (.iconst 1, 1) := by decide +kernel
theorem dX0_renewTicks_32 : decode cX0_renewTicks 32 = .ok (.isub, 1) := by decide +kernel
theorem dX0_renewTicks_33 : decode cX0_renewTicks 33 = .ok (.istore_n 2, 1) := by decide +kernel
theorem dX0_renewTicks_34 : decode cX0_renewTicks 34 = .ok (.iload_n 2, 1) := by decide +kernel
theorem dX0_renewTicks_35 : decode cX0_renewTicks 35 = .ok (.ifCond .lt 49, 3) := by decide +kernel
theorem dX0_renewTicks_38 : decode cX0_renewTicks 38 = .ok (.aload_n 0, 1) := by decide +kernel
theorem dX0_renewTicks_39 : decode cX0_renewTicks 39 = .ok (.getfield 15, 3) := by decide +kernel
theorem dX0_renewTicks_42 : decode cX0_renewTicks 42 = .ok (.iload_n 2, 1) := by decide +kernel
theorem dX0_renewTicks_43 : decode cX0_renewTicks 43 = .ok (.invokevirtual 28, 3) := by decide +kernel
theorem dX0_renewTicks_46 : decode cX0_renewTicks 46 = .ok (.istore_n 3, 1) := by decide +kernel
theorem dX0_renewTicks_47 : decode cX0_renewTicks 47 = .ok (.aload_n 0, 1) := by decide +kernel
theorem dX0_renewTicks_48 : decode cX0_renewTicks 48 = .ok (.getfield 9, 3) := by decide +kernel
theorem dX0_renewTicks_51 : decode cX0_renewTicks 51 = .ok (.iload_n 2, 1) := by decide +kernel
theorem dX0_renewTicks_52 : decode cX0_renewTicks 52 = .ok (.iload_n 3, 1) := by decide +kernel
theorem dX0_renewTicks_53 : decode cX0_renewTicks 53 = .ok (.iload_n 1, 1) := by decide +kernel
theorem dX0_renewTicks_54 : decode cX0_renewTicks 54 = .ok (.if_icmp .ne 7, 3) := by decide +kernel
theorem dX0_renewTicks_57 : decode cX0_renewTicks 57 = .ok (.iconst 1, 1) := by decide +kernel
theorem dX0_renewTicks_58 : decode cX0_renewTicks 58 = .ok (.goto 19, 3) := by decide +kernel
theorem dX0_renewTicks_61 : decode cX0_renewTicks 61 = .ok (.iconst 1, 1) := by decide +kernel
theorem dX0_renewTicks_62 : decode cX0_renewTicks 62 = .ok (.aload_n 0, 1) := by decide +kernel
theorem dX0_renewTicks_63 : decode cX0_renewTicks 63 = .ok (.getfield 9, 3) := by decide +kernel
theorem dX0_renewTicks_66 : decode cX0_renewTicks 66 = .ok (.iload_n 3, 1) := by decide +kernel
theorem dX0_renewTicks_67 : decode cX0_renewTicks 67 = .ok (.iconst 1, 1) := by decide +kernel
theorem dX0_renewTicks_68 : decode cX0_renewTicks 68 = .ok (.aload_n 0, 1) := by decide +kernel
theorem dX0_renewTicks_69 : decode cX0_renewTicks 69 = .ok (.iload_n 3, 1) := by decide +kernel
theorem dX0_renewTicks_70 : decode cX0_renewTicks 70 = .ok (.invokevirtual 32, 3) := by decide +kernel
theorem dX0_renewTicks_73 : decode cX0_renewTicks 73 = .ok (.ishl, 1) := by decide +kernel
theorem dX0_renewTicks_74 : decode cX0_renewTicks 74 = .ok (.ior, 1) := by decide +kernel
theorem dX0_renewTicks_75 : decode cX0_renewTicks 75 = .ok (.iaload, 1) := by decide +kernel
theorem dX0_renewTicks_76 : decode cX0_renewTicks 76 = .ok (.iadd, 1) := by decide +kernel
theorem dX0_renewTicks_77 : decode cX0_renewTicks 77 = .ok (.iastore, 1) := by decide +kernel
theorem dX0_renewTicks_78 : decode cX0_renewTicks 78 = .ok (.iinc 2 (-1), 3) := by decide +kernel
theorem dX0_renewTicks_81 : decode cX0_renewTicks 81 = .ok (.goto (-47), 3) := by decide +kernel
theorem dX0_renewTicks_84 : decode cX0_renewTicks 84 = .ok (.aload_n 0, 1) := by decide +kernel
theorem dX0_renewTicks_85 : decode cX0_renewTicks 85 = .ok (.aload_n 0, 1) := by decide +kernel
theorem dX0_renewTicks_86 : decode cX0_renewTicks 86 = .ok (.getfield 15, 3) := by decide +kernel
theorem dX0_renewTicks_89 : decode cX0_renewTicks 89 = .ok (.getfield 46, 3) := by decide +kernel
theorem dX0_renewTicks_92 : decode cX0_renewTicks 92 = .ok (.putfield 43, 3) := by decide +kernel
theorem dX0_renewTicks_95 : decode cX0_renewTicks 95 = .ok (.return_, 1) := by decide +kernel
theorem dX0_ticksByHands_0 : decode cX0_ticksByHands 0 = .ok (.aload_n 0, 1) := by decide +kernel
theorem dX0_ticksByHands_1 : decode cX0_ticksByHands 1 = .ok (.getfield 15, 3) := by decide +kernel
theorem dX0_ticksByHands_4 : decode cX0_ticksByHands 4 = .ok (.invokevirtual 22, 3) := by decide +kernel
theorem dX0_ticksByHands_7 : decode cX0_ticksByHands 7 = .ok (.istore_n 3, 1) := by decide +kernel
theorem dX0_ticksByHands_8 : decode cX0_ticksByHands 8 = .ok (.iconst 0, 1) := by decide +kernel
theorem dX0_ticksByHands_9 : decode cX0_ticksByHands 9 = .ok (.istore 4, 2) := by decide +kernel
theorem dX0_ticksByHands_11 : decode cX0_ticksByHands 11 = .ok (.lload_n 1, 1) := by decide +kernel
theorem dX0_ticksByHands_12 : decode cX0_ticksByHands 12 = .ok (.lstore 5, 2) := by decide +kernel
theorem dX0_ticksByHands_14 : decode cX0_ticksByHands 14 = .ok (.iconst 0, 1) := by decide +kernel
theorem dX0_ticksByHands_15 : decode cX0_ticksByHands 15 = .ok (.istore 7, 2) := by decide +kernel
theorem dX0_ticksByHands_17 : decode cX0_ticksByHands 17 = .ok (.iload 7, 2) := by decide +kernel
theorem dX0_ticksByHands_19 : decode cX0_ticksByHands 19 = .ok (.bipush 12, 2) := by decide +kernel
theorem dX0_ticksByHands_21 : decode cX0_ticksByHands 21 = .ok (.if_icmp .gt 108, 3) := by decide +kernel
theorem dX0_ticksByHands_24 : decode cX0_ticksByHands 24 = .ok (.iload 4, 2) := by decide +kernel
theorem dX0_ticksByHands_26 : decode cX0_ticksByHands 26 = .ok (.iload_n 3, 1) := by decide +kernel
theorem dX0_ticksByHands_27 : decode cX0_ticksByHands 27 = .ok (.if_icmp .ne 6, 3) := by decide +kernel
theorem dX0_ticksByHands_30 : decode cX0_ticksByHands 30 = .ok (.iload 7, 2) := by decide +kernel
theorem dX0_ticksByHands_32 : decode cX0_ticksByHands 32 = .ok (.ireturn, 1) := by decide +kernel
theorem dX0_ticksByHands_33 : decode cX0_ticksByHands 33 = .ok (.aload_n 0, 1) := by decide +kernel
theorem dX0_ticksByHands_34 : decode cX0_ticksByHands 34 = .ok (.getfield 15, 3) := by decide +kernel
theorem dX0_ticksByHands_37 : decode cX0_ticksByHands 37 = .ok (.iload 4, 2) := by decide +kernel
theorem dX0_ticksByHands_39 : decode cX0_ticksByHands 39 = .ok (.invokevirtual 28, 3) := by decide +kernel
theorem dX0_ticksByHands_42 : decode cX0_ticksByHands 42 = .ok (.istore 8, 2) := by decide +kernel
theorem dX0_ticksByHands_44 : decode cX0_ticksByHands 44 = .ok (.iload 8, 2) := by decide +kernel
theorem dX0_ticksByHands_46 : decode cX0_ticksByHands 46 = .ok (.iload_n 3, 1) := by decide +kernel
theorem dX0_ticksByHands_47 : decode cX0_ticksByHands 47 = .ok (.if_icmp .eq 63, 3) := by decide +kernel
theorem dX0_ticksByHands_50 : decode cX0_ticksByHands 50 = .ok (.lload 5, 2) := by decide +kernel
theorem dX0_ticksByHands_52 : decode cX0_ticksByHands 52 = .ok (.lconst 0, 1) := by decide +kernel
theorem dX0_ticksByHands_53 : decode cX0_ticksByHands 53 = .ok (.lcmp, 1) := by decide +kernel
theorem dX0_ticksByHands_54 : decode cX0_ticksByHands 54 = .ok (.ifCond .le 56, 3) := by decide +kernel
theorem dX0_ticksByHands_57 : decode cX0_ticksByHands 57 = .ok (.lload 5, 2) := by decide +kernel
theorem dX0_ticksByHands_59 : decode cX0_ticksByHands 59 = .ok (.ldc2_w 49, 3) := by decide +kernel
theorem dX0_ticksByHands_62 : decode cX0_ticksByHands 62 = .ok (.lrem, 1) := by decide +kernel
theorem dX0_ticksByHands_63 : decode cX0_ticksByHands 63 = .ok (.l2i, 1) := by decide +kernel
theorem dX0_ticksByHands_64 : decode cX0_ticksByHands 64 = .ok (.iconst 1, 1) := by decide +kernel
theorem dX0_ticksByHands_65 : decode cX0_ticksByHands 65 = .ok (.isub, 1) := by decide +kernel
theorem dX0_ticksByHands_66 : decode cX0_ticksByHands 66 = .ok (.istore 9, 2) := by decide +kernel
theorem dX0_ticksByHands_68 : decode cX0_ticksByHands 68 = .ok (.aload_n 0, 1) := by decide +kernel
theorem dX0_ticksByHands_69 : decode cX0_ticksByHands 69 = .ok (.getfield 15, 3) := by decide +kernel
theorem dX0_ticksByHands_72 : decode cX0_ticksByHands 72 = .ok (.iload 9, 2) := by decide +kernel
theorem dX0_ticksByHands_74 : decode cX0_ticksByHands 74 = .ok (.invokevirtual 51, 3) := by decide +kernel
theorem dX0_ticksByHands_77 : decode cX0_ticksByHands 77 = .ok (.ifCond .eq 13, 3) := by decide +kernel
theorem dX0_ticksByHands_80 : decode cX0_ticksByHands 80 = .ok (.iload 8, 2) := by decide +kernel
theorem dX0_ticksByHands_82 : decode cX0_ticksByHands 82 = .ok (.iload 9, 2) := by decide +kernel
theorem dX0_ticksByHands_84 : decode cX0_ticksByHands 84 = .ok (.invokestatic 39, 3) := by decide +kernel
theorem dX0_ticksByHands_87 : decode cX0_ticksByHands 87 = .ok (.ifCond .eq 6, 3) := by decide +kernel
theorem dX0_ticksByHands_90 : decode cX0_ticksByHands 90 = .ok (.bipush (-2), 2) := by decide +kernel
theorem dX0_ticksByHands_92 : decode cX0_ticksByHands 92 = .ok (.ireturn, 1) := by decide +kernel
theorem dX0_ticksByHands_93 : decode cX0_ticksByHands 93 = .ok (.iload 8, 2) := by decide +kernel
theorem dX0_ticksByHands_95 : decode cX0_ticksByHands 95 = .ok (.iconst 1, 1) := by decide +kernel
theorem dX0_ticksByHands_96 : decode cX0_ticksByHands 96 = .ok (.iload 9, 2) := by decide +kernel
theorem dX0_ticksByHands_98 : decode cX0_ticksByHands 98 = .ok (.ishl, 1) := by decide +kernel
theorem dX0_ticksByHands_99 : decode cX0_ticksByHands 99 = .ok (.ior, 1) := by decide +kernel
theorem dX0_ticksByHands_100 : decode cX0_ticksByHands 100 = .ok (.istore 8, 2) := by decide +kernel
theorem dX0_ticksByHands_102 : decode cX0_ticksByHands 102 = .ok (.lload 5, 2) := by decide +kernel
theorem dX0_ticksByHands_104 : decode cX0_ticksByHands 104 = .ok (.ldc2_w 49, 3) := by decide +kernel
theorem dX0_ticksByHands_107 : decode cX0_ticksByHands 107 = .ok (.ldiv, 1) := by decide +kernel
theorem dX0_ticksByHands_108 : decode cX0_ticksByHands 108 = .ok (.lstore 5, 2) := by decide +kernel
theorem dX0_ticksByHands_110 : decode cX0_ticksByHands 110 = .ok (.iload 8, 2) := by decide +kernel
theorem dX0_ticksByHands_112 : decode cX0_ticksByHands 112 = .ok (.iload 4, 2) := by decide +kernel
theorem dX0_ticksByHands_114 : decode cX0_ticksByHands 114 = .ok (.if_icmp .ne 5, 3) := by decide +kernel
theorem dX0_ticksByHands_117 : decode cX0_ticksByHands 117 = .ok (.iconst (-1), 1) := by decide +kernel
theorem dX0_ticksByHands_118 : decode cX0_ticksByHands 118 = .ok (.ireturn, 1) := by decide +kernel
theorem dX0_ticksByHands_119 : decode cX0_ticksByHands 119 = .ok (.iload 8, 2) := by decide +kernel
theorem dX0_ticksByHands_121 : decode cX0_ticksByHands 121 = .ok (.istore 4, 2) := by decide +kernel
theorem dX0_ticksByHands_123 : decode cX0_ticksByHands 123 = .ok (.iinc 7 1, 3) := by decide +kernel
theorem dX0_ticksByHands_126 : decode cX0_ticksByHands 126 = .ok (.goto (-109), 3) := by decide +kernel
theorem dX0_ticksByHands_129 : decode cX0_ticksByHands 129 = .ok (.iconst (-1), 1) := by decide +kernel
theorem dX0_ticksByHands_130 : decode cX0_ticksByHands 130 = .ok (.ireturn, 1) := by decide +kernel
end
section
theorem dX2_init_0 : decode cX2_init 0 = .ok (.aload_n 0, 1) := by decide +kernel
theorem dX2_init_1 : decode cX2_init 1 = .ok (.invokespecial 3, 3) := by decide +kernel
theorem dX2_init_4 : decode cX2_init 4 = .ok (.aload_n 0, 1) := by decide +kernel
theorem dX2_init_5 : decode cX2_init 5 = .ok (.aload_n 1, 1) := by decide +kernel
theorem dX2_init_6 : decode cX2_init 6 = .ok (.putfield 9, 3) := by decide +kernel
theorem dX2_init_9 : decode cX2_init 9 = .ok (.return_, 1) := by decide +kernel
theorem dX2_saved_0 : decode cX2_saved 0 = .ok (.aload_n 0, 1) := by decide +kernel
theorem dX2_saved_1 : decode cX2_saved 1 = .ok (.iload_n 1, 1) := by decide +kernel
theorem dX2_saved_2 : decode cX2_saved 2 = .ok (.iconst 0, 1) := by decide +kernel
theorem dX2_saved_3 : decode cX2_saved 3 = .ok (.iconst 0, 1) := by decide +kernel
theorem dX2_saved_4 : decode cX2_saved 4 = .ok (.invokevirtual 15, 3) := by decide +kernel
theorem dX2_saved_7 : decode cX2_saved 7 = .ok (.ireturn, 1) := by decide +kernel
theorem dX2_mostSaved_0 : decode cX2_mostSaved 0 = .ok (.aload_n 0, 1) := by decide +kernel
theorem dX2_mostSaved_1 : decode cX2_mostSaved 1 = .ok (.getfield 9, 3) := by decide +kernel
theorem dX2_mostSaved_4 : decode cX2_mostSaved 4 = .ok (.invokevirtual 19, 3) := by decide +kernel
theorem dX2_mostSaved_7 : decode cX2_mostSaved 7 = .ok (.iload_n 1, 1) := by decide +kernel
theorem dX2_mostSaved_8 : decode cX2_mostSaved 8 = .ok (.iload_n 2, 1) := by decide +kernel
theorem dX2_mostSaved_9 : decode cX2_mostSaved 9 = .ok (.ior, 1) := by decide +kernel
theorem dX2_mostSaved_10 : decode cX2_mostSaved 10 = .ok (.iconst (-1), 1) := by decide +kernel
theorem dX2_mostSaved_11 : decode cX2_mostSaved 11 = .ok (.ixor, 1) := by decide +kernel
theorem dX2_mostSaved_12 : decode cX2_mostSaved 12 = .ok (.iand, 1) := by decide +kernel
theorem dX2_mostSaved_13 : decode cX2_mostSaved 13 = .ok (.istore 4, 2) := by decide +kernel
theorem dX2_mostSaved_15 : decode cX2_mostSaved 15 = .ok (.iload 4, 2) := by decide +kernel
theorem dX2_mostSaved_17 : decode cX2_mostSaved 17 = .ok (.ifCond .eq 9, 3) := by decide +kernel
theorem dX2_mostSaved_20 : decode cX2_mostSaved 20 = .ok (.iload_n 3, 1) := by decide +kernel
theorem dX2_mostSaved_21 : decode cX2_mostSaved 21 = .ok (.bipush 12, 2) := by decide +kernel
theorem dX2_mostSaved_23 : decode cX2_mostSaved 23 = .ok (.if_icmp .le 16, 3) := by decide +kernel
theorem dX2_mostSaved_26 : decode cX2_mostSaved 26 = .ok (.aload_n 0, 1) := by decide +kernel
theorem dX2_mostSaved_27 : decode cX2_mostSaved 27 = .ok (.getfield 9, 3) := by decide +kernel
theorem dX2_mostSaved_30 : decode cX2_mostSaved 30 = .ok (.getfield 25, 3) := by decide +kernel
theorem dX2_mostSaved_33 : decode cX2_mostSaved 33 = .ok (.iload_n 1, 1) := by decide +kernel
theorem dX2_mostSaved_34 : decode cX2_mostSaved 34 = .ok (.invokestatic 29, 3) := by decide +kernel
theorem dX2_mostSaved_37 : decode cX2_mostSaved 37 = .ok (.isub, 1) := by decide +kernel
theorem dX2_mostSaved_38 : decode cX2_mostSaved 38 = .ok (.ireturn, 1) := by decide +kernel
theorem dX2_mostSaved_39 : decode cX2_mostSaved 39 = .ok (.iconst 0, 1) := by decide +kernel
theorem dX2_mostSaved_40 : decode cX2_mostSaved 40 = .ok (.istore 5, 2) := by decide +kernel
theorem dX2_mostSaved_42 : decode cX2_mostSaved 42 = .ok (.iconst 0, 1) := by decide +kernel
theorem dX2_mostSaved_43 : decode cX2_mostSaved 43 = .ok (.istore 6, 2) := by decide +kernel
theorem dX2_mostSaved_45 : decode cX2_mostSaved 45 = .ok (.iload 6, 2) := by decide +kernel
theorem dX2_mostSaved_47 : decode cX2_mostSaved 47 = .ok (.aload_n 0, 1) := by decide +kernel
theorem dX2_mostSaved_48 : decode cX2_mostSaved 48 = .ok (.getfield 9, 3) := by decide +kernel
theorem dX2_mostSaved_51 : decode cX2_mostSaved 51 = .ok (.getfield 25, 3) := by decide +kernel
theorem dX2_mostSaved_54 : decode cX2_mostSaved 54 = .ok (.if_icmp .ge 38, 3) := by decide +kernel
theorem dX2_mostSaved_57 : decode cX2_mostSaved 57 = .ok (.iload 4, 2) := by decide +kernel
theorem dX2_mostSaved_59 : decode cX2_mostSaved 59 = .ok (.iload 6, 2) := by decide +kernel
theorem dX2_mostSaved_61 : decode cX2_mostSaved 61 = .ok (.invokestatic 35, 3) := by decide +kernel
theorem dX2_mostSaved_64 : decode cX2_mostSaved 64 = .ok (.ifCond .eq 22, 3) := by decide +kernel
theorem dX2_mostSaved_67 : decode cX2_mostSaved 67 = .ok (.iload 5, 2) := by decide +kernel
theorem dX2_mostSaved_69 : decode cX2_mostSaved 69 = .ok (.aload_n 0, 1) := by decide +kernel
theorem dX2_mostSaved_70 : decode cX2_mostSaved 70 = .ok (.iload_n 1, 1) := by decide +kernel
theorem dX2_mostSaved_71 : decode cX2_mostSaved 71 = .ok (.iload_n 2, 1) := by decide +kernel
theorem dX2_mostSaved_72 : decode cX2_mostSaved 72 = .ok (.iconst 1, 1) := by decide +kernel
theorem dX2_mostSaved_73 : decode cX2_mostSaved 73 = .ok (.iload 6, 2) := by decide +kernel
theorem dX2_mostSaved_75 : decode cX2_mostSaved 75 = .ok (.ishl, 1) := by decide +kernel
theorem dX2_mostSaved_76 : decode cX2_mostSaved 76 = .ok (.ior, 1) := by decide +kernel
theorem dX2_mostSaved_77 : decode cX2_mostSaved 77 = .ok (.iload_n 3, 1) := by decide +kernel
theorem dX2_mostSaved_78 : decode cX2_mostSaved 78 = .ok (.invokevirtual 39, 3) := by decide +kernel
theorem dX2_mostSaved_81 : decode cX2_mostSaved 81 = .ok (.invokestatic 42, 3) := by decide +kernel
theorem dX2_mostSaved_84 : decode cX2_mostSaved 84 = .ok (.istore 5, 2) := by decide +kernel
theorem dX2_mostSaved_86 : decode cX2_mostSaved 86 = .ok (.iinc 6 1, 3) := by decide +kernel
theorem dX2_mostSaved_89 : decode cX2_mostSaved 89 = .ok (.goto (-44), 3) := by decide +kernel
theorem dX2_mostSaved_92 : decode cX2_mostSaved 92 = .ok (.iload 5, 2) := by decide +kernel
theorem dX2_mostSaved_94 : decode cX2_mostSaved 94 = .ok (.ireturn, 1) := by decide +kernel
theorem dX2_savedBehind_0 : decode cX2_savedBehind 0 = .ok (.aload_n 0, 1) := by decide +kernel
theorem dX2_savedBehind_1 : decode cX2_savedBehind 1 = .ok (.iload_n 1, 1) := by decide +kernel
theorem dX2_savedBehind_2 : decode cX2_savedBehind 2 = .ok (.iload_n 2, 1) := by decide +kernel
theorem dX2_savedBehind_3 : decode cX2_savedBehind 3 = .ok (.invokevirtual 48, 3) := by decide +kernel
theorem dX2_savedBehind_6 : decode cX2_savedBehind 6 = .ok (.istore 4, 2) := by decide +kernel
theorem dX2_savedBehind_8 : decode cX2_savedBehind 8 = .ok (.iload 4, 2) := by decide +kernel
theorem dX2_savedBehind_10 : decode cX2_savedBehind 10 = .ok (.iload_n 1, 1) := by decide +kernel
theorem dX2_savedBehind_11 : decode cX2_savedBehind 11 = .ok (.if_icmp .ne 16, 3) := by decide +kernel
theorem dX2_savedBehind_14 : decode cX2_savedBehind 14 = .ok (.aload_n 0, 1) := by decide +kernel
theorem dX2_savedBehind_15 : decode cX2_savedBehind 15 = .ok (.getfield 9, 3) := by decide +kernel
theorem dX2_savedBehind_18 : decode cX2_savedBehind 18 = .ok (.getfield 25, 3) := by decide +kernel
theorem dX2_savedBehind_21 : decode cX2_savedBehind 21 = .ok (.iload_n 1, 1) := by decide +kernel
theorem dX2_savedBehind_22 : decode cX2_savedBehind 22 = .ok (.invokestatic 29, 3) := by decide +kernel
theorem dX2_savedBehind_25 : decode cX2_savedBehind 25 = .ok (.isub, 1) := by decide +kernel
theorem dX2_savedBehind_26 : decode cX2_savedBehind 26 = .ok (.ireturn, 1) := by decide +kernel
theorem dX2_savedBehind_27 : decode cX2_savedBehind 27 = .ok (.aload_n 0, 1) := by decide +kernel
theorem dX2_savedBehind_28 : decode cX2_savedBehind 28 = .ok (.iload 4, 2) := by decide +kernel
theorem dX2_savedBehind_30 : decode cX2_savedBehind 30 = .ok (.iload_n 2, 1) := by decide +kernel
theorem dX2_savedBehind_31 : decode cX2_savedBehind 31 = .ok (.iload_n 3, 1) := by decide +kernel
theorem dX2_savedBehind_32 : decode cX2_savedBehind 32 = .ok (.iconst 1, 1) := by decide +kernel
theorem dX2_savedBehind_33 : decode cX2_savedBehind 33 = .ok (.iadd, 1) := by decide +kernel
theorem dX2_savedBehind_34 : decode cX2_savedBehind 34 = .ok (.invokevirtual 15, 3) := by decide +kernel
theorem dX2_savedBehind_37 : decode cX2_savedBehind 37 = .ok (.ireturn, 1) := by decide +kernel
theorem dX2_afterTick_0 : decode cX2_afterTick 0 = .ok (.aload_n 0, 1) := by decide +kernel
theorem dX2_afterTick_1 : decode cX2_afterTick 1 = .ok (.getfield 9, 3) := by decide +kernel
theorem dX2_afterTick_4 : decode cX2_afterTick 4 = .ok (.iload_n 1, 1) := by decide +kernel
theorem dX2_afterTick_5 : decode cX2_afterTick 5 = .ok (.invokevirtual 51, 3) := by decide +kernel
theorem dX2_afterTick_8 : decode cX2_afterTick 8 = .ok (.iload_n 2, 1) := by decide +kernel
theorem dX2_afterTick_9 : decode cX2_afterTick 9 = .ok (.iconst (-1), 1) := by decide +kernel
theorem dX2_afterTick_10 : decode cX2_afterTick 10 = .ok (.ixor, 1) := by decide +kernel
theorem dX2_afterTick_11 : decode cX2_afterTick 11 = .ok (.iand, 1) := by decide +kernel
theorem dX2_afterTick_12 : decode cX2_afterTick 12 = .ok (.ireturn, 1) := by decide +kernel
theorem dX2_bestWall_0 : decode cX2_bestWall 0 = .ok (.iload_n 1, 1) := by decide +kernel
theorem dX2_bestWall_1 : decode cX2_bestWall 1 = .ok (.istore_n 3, 1) := by decide +kernel
theorem dX2_bestWall_2 : decode cX2_bestWall 2 = .ok (.iconst 0, 1) := by decide +kernel
theorem dX2_bestWall_3 : decode cX2_bestWall 3 = .ok (.istore 4, 2) := by decide +kernel
theorem dX2_bestWall_5 : decode cX2_bestWall 5 = .ok (.iconst 0, 1) := by decide +kernel
theorem dX2_bestWall_6 : decode cX2_bestWall 6 = .ok (.istore 5, 2) := by decide +kernel
theorem dX2_bestWall_8 : decode cX2_bestWall 8 = .ok (.iload 5, 2) := by decide +kernel
theorem dX2_bestWall_10 : decode cX2_bestWall 10 = .ok (.bipush 12, 2) := by decide +kernel
theorem dX2_bestWall_12 : decode cX2_bestWall 12 = .ok (.if_icmp .ge 62, 3) := by decide +kernel
theorem dX2_bestWall_15 : decode cX2_bestWall 15 = .ok (.aload_n 0, 1) := by decide +kernel
theorem dX2_bestWall_16 : decode cX2_bestWall 16 = .ok (.iload_n 3, 1) := by decide +kernel
theorem dX2_bestWall_17 : decode cX2_bestWall 17 = .ok (.iload 4, 2) := by decide +kernel
theorem dX2_bestWall_19 : decode cX2_bestWall 19 = .ok (.invokevirtual 54, 3) := by decide +kernel
theorem dX2_bestWall_22 : decode cX2_bestWall 22 = .ok (.istore 6, 2) := by decide +kernel
theorem dX2_bestWall_24 : decode cX2_bestWall 24 = .ok (.iload 6, 2) := by decide +kernel
theorem dX2_bestWall_26 : decode cX2_bestWall 26 = .ok (.iconst (-1), 1) := by decide +kernel
theorem dX2_bestWall_27 : decode cX2_bestWall 27 = .ok (.if_icmp .eq 9, 3) := by decide +kernel
theorem dX2_bestWall_30 : decode cX2_bestWall 30 = .ok (.iload 5, 2) := by decide +kernel
theorem dX2_bestWall_32 : decode cX2_bestWall 32 = .ok (.iload_n 2, 1) := by decide +kernel
theorem dX2_bestWall_33 : decode cX2_bestWall 33 = .ok (.if_icmp .ne 6, 3) := by decide +kernel
theorem dX2_bestWall_36 : decode cX2_bestWall 36 = .ok (.iload 6, 2) := by decide +kernel
theorem dX2_bestWall_38 : decode cX2_bestWall 38 = .ok (.ireturn, 1) := by decide +kernel
theorem dX2_bestWall_39 : decode cX2_bestWall 39 = .ok (.iload 4, 2) := by decide +kernel
theorem dX2_bestWall_41 : decode cX2_bestWall 41 = .ok (.iconst 1, 1) := by decide +kernel
theorem dX2_bestWall_42 : decode cX2_bestWall 42 = .ok (.iload 6, 2) := by decide +kernel
theorem dX2_bestWall_44 : decode cX2_bestWall 44 = .ok (.ishl, 1) := by decide +kernel
theorem dX2_bestWall_45 : decode cX2_bestWall 45 = .ok (.ior, 1) := by decide +kernel
theorem dX2_bestWall_46 : decode cX2_bestWall 46 = .ok (.istore 4, 2) := by decide +kernel
theorem dX2_bestWall_48 : decode cX2_bestWall 48 = .ok (.aload_n 0, 1) := by decide +kernel
theorem dX2_bestWall_49 : decode cX2_bestWall 49 = .ok (.iload_n 3, 1) := by decide +kernel
theorem dX2_bestWall_50 : decode cX2_bestWall 50 = .ok (.iload 4, 2) := by decide +kernel
theorem dX2_bestWall_52 : decode cX2_bestWall 52 = .ok (.invokevirtual 48, 3) := by decide +kernel
theorem dX2_bestWall_55 : decode cX2_bestWall 55 = .ok (.istore 7, 2) := by decide +kernel
theorem dX2_bestWall_57 : decode cX2_bestWall 57 = .ok (.iload 7, 2) := by decide +kernel
theorem dX2_bestWall_59 : decode cX2_bestWall 59 = .ok (.iload_n 3, 1) := by decide +kernel
theorem dX2_bestWall_60 : decode cX2_bestWall 60 = .ok (.if_icmp .ne 5, 3) := by decide +kernel
theorem dX2_bestWall_63 : decode cX2_bestWall 63 = .ok (.iconst (-1), 1) := by decide +kernel
theorem dX2_bestWall_64 : decode cX2_bestWall 64 = .ok (.ireturn, 1) := by decide +kernel
theorem dX2_bestWall_65 : decode cX2_bestWall 65 = .ok (.iload 7, 2) := by decide +kernel
theorem dX2_bestWall_67 : decode cX2_bestWall 67 = .ok (.istore_n 3, 1) := by decide +kernel
theorem dX2_bestWall_68 : decode cX2_bestWall 68 = .ok (.iinc 5 1, 3) := by decide +kernel
theorem dX2_bestWall_71 : decode cX2_bestWall 71 = .ok (.goto (-63), 3) := by decide +kernel
theorem dX2_bestWall_74 : decode cX2_bestWall 74 = .ok (.iconst (-1), 1) := by decide +kernel
theorem dX2_bestWall_75 : decode cX2_bestWall 75 = .ok (.ireturn, 1) := by decide +kernel
theorem dX2_bestPost_0 : decode cX2_bestPost 0 = .ok (.iconst (-1), 1) := by decide +kernel
theorem dX2_bestPost_1 : decode cX2_bestPost 1 = .ok (.istore_n 3, 1) := by decide +kernel
theorem dX2_bestPost_2 : decode cX2_bestPost 2 = .ok (.iconst (-1), 1) := by decide +kernel
theorem dX2_bestPost_3 : decode cX2_bestPost 3 = .ok (.istore 4, 2) := by decide +kernel
theorem dX2_bestPost_5 : decode cX2_bestPost 5 = .ok (.iconst 0, 1) := by decide +kernel
theorem dX2_bestPost_6 : decode cX2_bestPost 6 = .ok (.istore 5, 2) := by decide +kernel
theorem dX2_bestPost_8 : decode cX2_bestPost 8 = .ok (.iload 5, 2) := by decide +kernel
theorem dX2_bestPost_10 : decode cX2_bestPost 10 = .ok (.aload_n 0, 1) := by decide +kernel
theorem dX2_bestPost_11 : decode cX2_bestPost 11 = .ok (.getfield 9, 3) := by decide +kernel
theorem dX2_bestPost_14 : decode cX2_bestPost 14 = .ok (.getfield 25, 3) := by decide +kernel
theorem dX2_bestPost_17 : decode cX2_bestPost 17 = .ok (.if_icmp .ge 48, 3) := by decide +kernel
theorem dX2_bestPost_20 : decode cX2_bestPost 20 = .ok (.iload_n 1, 1) := by decide +kernel
theorem dX2_bestPost_21 : decode cX2_bestPost 21 = .ok (.iload_n 2, 1) := by decide +kernel
theorem dX2_bestPost_22 : decode cX2_bestPost 22 = .ok (.ior, 1) := by decide +kernel
theorem dX2_bestPost_23 : decode cX2_bestPost 23 = .ok (.iload 5, 2) := by decide +kernel
theorem dX2_bestPost_25 : decode cX2_bestPost 25 = .ok (.invokestatic 35, 3) := by decide +kernel
theorem dX2_bestPost_28 : decode cX2_bestPost 28 = .ok (.ifCond .ne 31, 3) := by decide +kernel
theorem dX2_bestPost_31 : decode cX2_bestPost 31 = .ok (.aload_n 0, 1) := by decide +kernel
theorem dX2_bestPost_32 : decode cX2_bestPost 32 = .ok (.iload_n 1, 1) := by decide +kernel
theorem dX2_bestPost_33 : decode cX2_bestPost 33 = .ok (.iload_n 2, 1) := by decide +kernel
theorem dX2_bestPost_34 : decode cX2_bestPost 34 = .ok (.iconst 1, 1) := by decide +kernel
theorem dX2_bestPost_35 : decode cX2_bestPost 35 = .ok (.iload 5, 2) := by decide +kernel
theorem dX2_bestPost_37 : decode cX2_bestPost 37 = .ok (.ishl, 1) := by decide +kernel
theorem dX2_bestPost_38 : decode cX2_bestPost 38 = .ok (.ior, 1) := by decide +kernel
theorem dX2_bestPost_39 : decode cX2_bestPost 39 = .ok (.iconst 0, 1) := by decide +kernel
theorem dX2_bestPost_40 : decode cX2_bestPost 40 = .ok (.invokevirtual 39, 3) := by decide +kernel
theorem dX2_bestPost_43 : decode cX2_bestPost 43 = .ok (.istore 6, 2) := by decide +kernel
theorem dX2_bestPost_45 : decode cX2_bestPost 45 = .ok (.iload 6, 2) := by decide +kernel
theorem dX2_bestPost_47 : decode cX2_bestPost 47 = .ok (.iload 4, 2) := by decide +kernel
theorem dX2_bestPost_49 : decode cX2_bestPost 49 = .ok (.if_icmp .le 10, 3) := by decide +kernel
theorem dX2_bestPost_52 : decode cX2_bestPost 52 = .ok (.iload 5, 2) := by decide +kernel
theorem dX2_bestPost_54 : decode cX2_bestPost 54 = .ok (.istore_n 3, 1) := by decide +kernel
theorem dX2_bestPost_55 : decode cX2_bestPost 55 = .ok (.iload 6, 2) := by decide +kernel
theorem dX2_bestPost_57 : decode cX2_bestPost 57 = .ok (.istore 4, 2) := by decide +kernel
theorem dX2_bestPost_59 : decode cX2_bestPost 59 = .ok (.iinc 5 1, 3) := by decide +kernel
theorem dX2_bestPost_62 : decode cX2_bestPost 62 = .ok (.goto (-54), 3) := by decide +kernel
theorem dX2_bestPost_65 : decode cX2_bestPost 65 = .ok (.iload_n 3, 1) := by decide +kernel
theorem dX2_bestPost_66 : decode cX2_bestPost 66 = .ok (.ireturn, 1) := by decide +kernel
end
section
theorem dX8_init_0 : decode cX8_init 0 = .ok (.aload_n 0, 1) := by decide +kernel
theorem dX8_init_1 : decode cX8_init 1 = .ok (.invokespecial 3, 3) := by decide +kernel
theorem dX8_init_4 : decode cX8_init 4 = .ok (.aload_n 0, 1) := by decide +kernel
theorem dX8_init_5 : decode cX8_init 5 = .ok (.sipush 4096, 3) := by decide +kernel
theorem dX8_init_8 : decode cX8_init 8 = .ok (.newarray .boolean, 2) := by decide +kernel
theorem dX8_init_10 : decode cX8_init 10 = .ok (.putfield 9, 3) := by decide +kernel
theorem dX8_init_13 : decode cX8_init 13 = .ok (.aload_n 0, 1) := by decide +kernel
theorem dX8_init_14 : decode cX8_init 14 = .ok (.aload_n 1, 1) := by decide +kernel
theorem dX8_init_15 : decode cX8_init 15 = .ok (.putfield 15, 3) := by decide +kernel
theorem dX8_init_18 : decode cX8_init 18 = .ok (.return_, 1) := by decide +kernel
theorem dX8_freshHolding_0 : decode cX8_freshHolding 0 = .ok (.aload_n 0, 1) := by decide +kernel
theorem dX8_freshHolding_1 : decode cX8_freshHolding 1 = .ok (.getfield 19, 3) := by decide +kernel
theorem dX8_freshHolding_4 : decode cX8_freshHolding 4 = .ok (.aload_n 0, 1) := by decide +kernel
theorem dX8_freshHolding_5 : decode cX8_freshHolding 5 = .ok (.getfield 15, 3) := by decide +kernel
theorem dX8_freshHolding_8 : decode cX8_freshHolding 8 = .ok (.getfield 23, 3) := by decide +kernel
theorem dX8_freshHolding_11 : decode cX8_freshHolding 11 = .ok (.if_icmp .eq 18, 3) := by decide +kernel
theorem dX8_freshHolding_14 : decode cX8_freshHolding 14 = .ok (.aload_n 0, 1) := by decide +kernel
theorem dX8_freshHolding_15 : decode cX8_freshHolding 15 = .ok (.invokevirtual 28, 3) := by decide +kernel
theorem dX8_freshHolding_18 : decode cX8_freshHolding 18 = .ok (.aload_n 0, 1) := by decide +kernel
theorem dX8_freshHolding_19 : decode cX8_freshHolding 19 = .ok (.aload_n 0, 1) := by decide +kernel
theorem dX8_freshHolding_20 : decode cX8_freshHolding 20 = .ok (.getfield 15, 3) := by decide +kernel
theorem dX8_freshHolding_23 : decode cX8_freshHolding 23 = .ok (.getfield 23, 3) := by decide +kernel
theorem dX8_freshHolding_26 : decode cX8_freshHolding 26 = .ok (.putfield 19, 3) := by decide +kernel
theorem dX8_freshHolding_29 : decode cX8_freshHolding 29 = .ok (.aload_n 0, 1) := by decide +kernel
theorem dX8_freshHolding_30 : decode cX8_freshHolding 30 = .ok (.getfield 9, 3) := by decide +kernel
theorem dX8_freshHolding_33 : decode cX8_freshHolding 33 = .ok (.areturn, 1) := by decide +kernel
theorem dX8_fillHolding_0 : decode cX8_fillHolding 0 = .ok (.aload_n 0, 1) := by decide +kernel
theorem dX8_fillHolding_1 : decode cX8_fillHolding 1 = .ok (.getfield 15, 3) := by decide +kernel
theorem dX8_fillHolding_4 : decode cX8_fillHolding 4 = .ok (.invokevirtual 31, 3) := by decide +kernel
theorem dX8_fillHolding_7 : decode cX8_fillHolding 7 = .ok (.istore_n 1, 1) := by decide +kernel
theorem dX8_fillHolding_8 : decode cX8_fillHolding 8 = .ok (.iconst 0, 1) := by decide +kernel
theorem dX8_fillHolding_9 : decode cX8_fillHolding 9 = .ok (.istore_n 2, 1) := by decide +kernel
theorem dX8_fillHolding_10 : decode cX8_fillHolding 10 = .ok (.iload_n 2, 1) := by decide +kernel
theorem dX8_fillHolding_11 : decode cX8_fillHolding 11 = .ok (.iload_n 1, 1) := by decide +kernel
theorem dX8_fillHolding_12 : decode cX8_fillHolding 12 = .ok (.if_icmp .gt 16, 3) := by decide +kernel
theorem dX8_fillHolding_15 : decode cX8_fillHolding 15 = .ok (.aload_n 0, 1) := by decide +kernel
theorem dX8_fillHolding_16 : decode cX8_fillHolding 16 = .ok (.getfield 9, 3) := by decide +kernel
theorem dX8_fillHolding_19 : decode cX8_fillHolding 19 = .ok (.iload_n 2, 1) := by decide +kernel
theorem dX8_fillHolding_20 : decode cX8_fillHolding 20 = .ok (.iconst 1, 1) := by decide +kernel
theorem dX8_fillHolding_21 : decode cX8_fillHolding 21 = .ok (.bastore, 1) := by decide +kernel
theorem dX8_fillHolding_22 : decode cX8_fillHolding 22 = .ok (.iinc 2 1, 3) := by decide +kernel
theorem dX8_fillHolding_25 : decode cX8_fillHolding 25 = .ok (.goto (-15), 3) := by decide +kernel
theorem dX8_fillHolding_28 : decode cX8_fillHolding 28 = .ok (.iconst 1, 1) := by decide +kernel
theorem dX8_fillHolding_29 : decode cX8_fillHolding 29 = .ok (.istore_n 2, 1) := by decide +kernel
theorem dX8_fillHolding_30 : decode cX8_fillHolding 30 = .ok (.iconst 0, 1) := by decide +kernel
theorem dX8_fillHolding_31 : decode cX8_fillHolding 31 = .ok (.istore_n 3, 1) := by decide +kernel
theorem dX8_fillHolding_32 : decode cX8_fillHolding 32 = .ok (.iload_n 3, 1) := by decide +kernel
theorem dX8_fillHolding_33 : decode cX8_fillHolding 33 = .ok (.sipush 4096, 3) := by decide +kernel
theorem dX8_fillHolding_36 : decode cX8_fillHolding 36 = .ok (.if_icmp .gt 19, 3) := by decide +kernel
theorem dX8_fillHolding_39 : decode cX8_fillHolding 39 = .ok (.iload_n 2, 1) := by decide +kernel
theorem dX8_fillHolding_40 : decode cX8_fillHolding 40 = .ok (.ifCond .eq 15, 3) := by decide +kernel
theorem dX8_fillHolding_43 : decode cX8_fillHolding 43 = .ok (.aload_n 0, 1) := by decide +kernel
theorem dX8_fillHolding_44 : decode cX8_fillHolding 44 = .ok (.iload_n 1, 1) := by decide +kernel
theorem dX8_fillHolding_45 : decode cX8_fillHolding 45 = .ok (.invokevirtual 35, 3) := by decide +kernel
theorem dX8_fillHolding_48 : decode cX8_fillHolding 48 = .ok (.istore_n 2, 1) := by decide +kernel
theorem dX8_fillHolding_49 : decode cX8_fillHolding 49 = .ok (.iinc 3 1, 3) := by decide +kernel
theorem dX8_fillHolding_52 : decode cX8_fillHolding 52 = .ok (.goto (-20), 3) := by decide +kernel
theorem dX8_fillHolding_55 : decode cX8_fillHolding 55 = .ok (.return_, 1) := by decide +kernel
theorem dX8_fewestHolding_0 : decode cX8_fewestHolding 0 = .ok (.aload_n 0, 1) := by decide +kernel
theorem dX8_fewestHolding_1 : decode cX8_fewestHolding 1 = .ok (.invokevirtual 39, 3) := by decide +kernel
theorem dX8_fewestHolding_4 : decode cX8_fewestHolding 4 = .ok (.astore_n 1, 1) := by decide +kernel
theorem dX8_fewestHolding_5 : decode cX8_fewestHolding 5 = .ok (.aload_n 0, 1) := by decide +kernel
theorem dX8_fewestHolding_6 : decode cX8_fewestHolding 6 = .ok (.getfield 15, 3) := by decide +kernel
theorem dX8_fewestHolding_9 : decode cX8_fewestHolding 9 = .ok (.invokevirtual 31, 3) := by decide +kernel
theorem dX8_fewestHolding_12 : decode cX8_fewestHolding 12 = .ok (.istore_n 2, 1) := by decide +kernel
theorem dX8_fewestHolding_13 : decode cX8_fewestHolding 13 = .ok (.aload_n 0, 1) := by decide +kernel
theorem dX8_fewestHolding_14 : decode cX8_fewestHolding 14 = .ok (.getfield 15, 3) := by decide +kernel
theorem dX8_fewestHolding_17 : decode cX8_fewestHolding 17 = .ok (.getfield 43, 3) := by decide +kernel
theorem dX8_fewestHolding_20 : decode cX8_fewestHolding 20 = .ok (.istore_n 3, 1) := by decide +kernel
theorem dX8_fewestHolding_21 : decode cX8_fewestHolding 21 = .ok (.iconst 0, 1) := by decide +kernel
theorem dX8_fewestHolding_22 : decode cX8_fewestHolding 22 = .ok (.istore 4, 2) := by decide +kernel
theorem dX8_fewestHolding_24 : decode cX8_fewestHolding 24 = .ok (.iload 4, 2) := by decide +kernel
theorem dX8_fewestHolding_26 : decode cX8_fewestHolding 26 = .ok (.iload_n 2, 1) := by decide +kernel
theorem dX8_fewestHolding_27 : decode cX8_fewestHolding 27 = .ok (.if_icmp .gt 26, 3) := by decide +kernel
theorem dX8_fewestHolding_30 : decode cX8_fewestHolding 30 = .ok (.aload_n 1, 1) := by decide +kernel
theorem dX8_fewestHolding_31 : decode cX8_fewestHolding 31 = .ok (.iload 4, 2) := by decide +kernel
theorem dX8_fewestHolding_33 : decode cX8_fewestHolding 33 = .ok (.baload, 1) := by decide +kernel
theorem dX8_fewestHolding_34 : decode cX8_fewestHolding 34 = .ok (.ifCond .eq 13, 3) := by decide +kernel
theorem dX8_fewestHolding_37 : decode cX8_fewestHolding 37 = .ok (.iload_n 3, 1) := by decide +kernel
theorem dX8_fewestHolding_38 : decode cX8_fewestHolding 38 = .ok (.iload 4, 2) := by decide +kernel
theorem dX8_fewestHolding_40 : decode cX8_fewestHolding 40 = .ok (.invokestatic 46, 3) := by decide +kernel
theorem dX8_fewestHolding_43 : decode cX8_fewestHolding 43 = .ok (.invokestatic 52, 3) := by decide +kernel
theorem dX8_fewestHolding_46 : decode cX8_fewestHolding 46 = .ok (.istore_n 3, 1) := by decide +kernel
theorem dX8_fewestHolding_47 : decode cX8_fewestHolding 47 = .ok (.iinc 4 1, 3) := by decide +kernel
theorem dX8_fewestHolding_50 : decode cX8_fewestHolding 50 = .ok (.goto (-26), 3) := by decide +kernel
theorem dX8_fewestHolding_53 : decode cX8_fewestHolding 53 = .ok (.iload_n 3, 1) := by decide +kernel
theorem dX8_fewestHolding_54 : decode cX8_fewestHolding 54 = .ok (.ireturn, 1) := by decide +kernel
theorem dX8_answerFrom_0 : decode cX8_answerFrom 0 = .ok (.aload_n 0, 1) := by decide +kernel
theorem dX8_answerFrom_1 : decode cX8_answerFrom 1 = .ok (.invokevirtual 39, 3) := by decide +kernel
theorem dX8_answerFrom_4 : decode cX8_answerFrom 4 = .ok (.iload_n 1, 1) := by decide +kernel
theorem dX8_answerFrom_5 : decode cX8_answerFrom 5 = .ok (.baload, 1) := by decide +kernel
theorem dX8_answerFrom_6 : decode cX8_answerFrom 6 = .ok (.istore_n 3, 1) := by decide +kernel
theorem dX8_answerFrom_7 : decode cX8_answerFrom 7 = .ok (.iload_n 1, 1) := by decide +kernel
theorem dX8_answerFrom_8 : decode cX8_answerFrom 8 = .ok (.iload_n 2, 1) := by decide +kernel
theorem dX8_answerFrom_9 : decode cX8_answerFrom 9 = .ok (.invokestatic 58, 3) := by decide +kernel
theorem dX8_answerFrom_12 : decode cX8_answerFrom 12 = .ok (.ifCond .ne 7, 3) := by decide +kernel
theorem dX8_answerFrom_15 : decode cX8_answerFrom 15 = .ok (.iload_n 3, 1) := by decide +kernel
theorem dX8_answerFrom_16 : decode cX8_answerFrom 16 = .ok (.ifCond .ne 7, 3) := by decide +kernel
theorem dX8_answerFrom_19 : decode cX8_answerFrom 19 = .ok (.iconst (-1), 1) := by decide +kernel
theorem dX8_answerFrom_20 : decode cX8_answerFrom 20 = .ok (.goto 9, 3) := by decide +kernel
theorem dX8_answerFrom_23 : decode cX8_answerFrom 23 = .ok (.aload_n 0, 1) := by decide +kernel
theorem dX8_answerFrom_24 : decode cX8_answerFrom 24 = .ok (.iload_n 1, 1) := by decide +kernel
theorem dX8_answerFrom_25 : decode cX8_answerFrom 25 = .ok (.iload_n 2, 1) := by decide +kernel
theorem dX8_answerFrom_26 : decode cX8_answerFrom 26 = .ok (.invokevirtual 62, 3) := by decide +kernel
theorem dX8_answerFrom_29 : decode cX8_answerFrom 29 = .ok (.ireturn, 1) := by decide +kernel
theorem dX8_leastAnswer_0 : decode cX8_leastAnswer 0 = .ok (.iload_n 1, 1) := by decide +kernel
theorem dX8_leastAnswer_1 : decode cX8_leastAnswer 1 = .ok (.aload_n 0, 1) := by decide +kernel
theorem dX8_leastAnswer_2 : decode cX8_leastAnswer 2 = .ok (.getfield 15, 3) := by decide +kernel
theorem dX8_leastAnswer_5 : decode cX8_leastAnswer 5 = .ok (.getfield 65, 3) := by decide +kernel
theorem dX8_leastAnswer_8 : decode cX8_leastAnswer 8 = .ok (.iload_n 2, 1) := by decide +kernel
theorem dX8_leastAnswer_9 : decode cX8_leastAnswer 9 = .ok (.iaload, 1) := by decide +kernel
theorem dX8_leastAnswer_10 : decode cX8_leastAnswer 10 = .ok (.iand, 1) := by decide +kernel
theorem dX8_leastAnswer_11 : decode cX8_leastAnswer 11 = .ok (.istore_n 3, 1) := by decide +kernel
theorem dX8_leastAnswer_12 : decode cX8_leastAnswer 12 = .ok (.iconst 0, 1) := by decide +kernel
theorem dX8_leastAnswer_13 : decode cX8_leastAnswer 13 = .ok (.istore 4, 2) := by decide +kernel
theorem dX8_leastAnswer_15 : decode cX8_leastAnswer 15 = .ok (.iload 4, 2) := by decide +kernel
theorem dX8_leastAnswer_17 : decode cX8_leastAnswer 17 = .ok (.aload_n 0, 1) := by decide +kernel
theorem dX8_leastAnswer_18 : decode cX8_leastAnswer 18 = .ok (.getfield 15, 3) := by decide +kernel
theorem dX8_leastAnswer_21 : decode cX8_leastAnswer 21 = .ok (.getfield 43, 3) := by decide +kernel
theorem dX8_leastAnswer_24 : decode cX8_leastAnswer 24 = .ok (.if_icmp .ge 48, 3) := by decide +kernel
theorem dX8_leastAnswer_27 : decode cX8_leastAnswer 27 = .ok (.iload_n 3, 1) := by decide +kernel
theorem dX8_leastAnswer_28 : decode cX8_leastAnswer 28 = .ok (.iload 4, 2) := by decide +kernel
theorem dX8_leastAnswer_30 : decode cX8_leastAnswer 30 = .ok (.ishr, 1) := by decide +kernel
theorem dX8_leastAnswer_31 : decode cX8_leastAnswer 31 = .ok (.ifCond .eq 41, 3) := by decide +kernel
theorem dX8_leastAnswer_34 : decode cX8_leastAnswer 34 = .ok (.iload_n 3, 1) := by decide +kernel
theorem dX8_leastAnswer_35 : decode cX8_leastAnswer 35 = .ok (.iload 4, 2) := by decide +kernel
theorem dX8_leastAnswer_37 : decode cX8_leastAnswer 37 = .ok (.invokestatic 58, 3) := by decide +kernel
theorem dX8_leastAnswer_40 : decode cX8_leastAnswer 40 = .ok (.ifCond .eq 26, 3) := by decide +kernel
theorem dX8_leastAnswer_43 : decode cX8_leastAnswer 43 = .ok (.aload_n 0, 1) := by decide +kernel
theorem dX8_leastAnswer_44 : decode cX8_leastAnswer 44 = .ok (.getfield 9, 3) := by decide +kernel
theorem dX8_leastAnswer_47 : decode cX8_leastAnswer 47 = .ok (.iload_n 1, 1) := by decide +kernel
theorem dX8_leastAnswer_48 : decode cX8_leastAnswer 48 = .ok (.iconst 1, 1) := by decide +kernel
theorem dX8_leastAnswer_49 : decode cX8_leastAnswer 49 = .ok (.iload 4, 2) := by decide +kernel
theorem dX8_leastAnswer_51 : decode cX8_leastAnswer 51 = .ok (.ishl, 1) := by decide +kernel
theorem dX8_leastAnswer_52 : decode cX8_leastAnswer 52 = .ok (.iconst (-1), 1) := by decide +kernel
theorem dX8_leastAnswer_53 : decode cX8_leastAnswer 53 = .ok (.ixor, 1) := by decide +kernel
theorem dX8_leastAnswer_54 : decode cX8_leastAnswer 54 = .ok (.iand, 1) := by decide +kernel
theorem dX8_leastAnswer_55 : decode cX8_leastAnswer 55 = .ok (.iconst 1, 1) := by decide +kernel
theorem dX8_leastAnswer_56 : decode cX8_leastAnswer 56 = .ok (.iload_n 2, 1) := by decide +kernel
theorem dX8_leastAnswer_57 : decode cX8_leastAnswer 57 = .ok (.ishl, 1) := by decide +kernel
theorem dX8_leastAnswer_58 : decode cX8_leastAnswer 58 = .ok (.ior, 1) := by decide +kernel
theorem dX8_leastAnswer_59 : decode cX8_leastAnswer 59 = .ok (.baload, 1) := by decide +kernel
theorem dX8_leastAnswer_60 : decode cX8_leastAnswer 60 = .ok (.ifCond .eq 6, 3) := by decide +kernel
theorem dX8_leastAnswer_63 : decode cX8_leastAnswer 63 = .ok (.iload 4, 2) := by decide +kernel
theorem dX8_leastAnswer_65 : decode cX8_leastAnswer 65 = .ok (.ireturn, 1) := by decide +kernel
theorem dX8_leastAnswer_66 : decode cX8_leastAnswer 66 = .ok (.iinc 4 1, 3) := by decide +kernel
theorem dX8_leastAnswer_69 : decode cX8_leastAnswer 69 = .ok (.goto (-54), 3) := by decide +kernel
theorem dX8_leastAnswer_72 : decode cX8_leastAnswer 72 = .ok (.iconst (-1), 1) := by decide +kernel
theorem dX8_leastAnswer_73 : decode cX8_leastAnswer 73 = .ok (.ireturn, 1) := by decide +kernel
theorem dX8_takeFailingAway_0 : decode cX8_takeFailingAway 0 = .ok (.iconst 0, 1) := by decide +kernel
theorem dX8_takeFailingAway_1 : decode cX8_takeFailingAway 1 = .ok (.istore_n 2, 1) := by decide +kernel
theorem dX8_takeFailingAway_2 : decode cX8_takeFailingAway 2 = .ok (.iconst 0, 1) := by decide +kernel
theorem dX8_takeFailingAway_3 : decode cX8_takeFailingAway 3 = .ok (.istore_n 3, 1) := by decide +kernel
theorem dX8_takeFailingAway_4 : decode cX8_takeFailingAway 4 = .ok (.iload_n 3, 1) := by decide +kernel
theorem dX8_takeFailingAway_5 : decode cX8_takeFailingAway 5 = .ok (.iload_n 1, 1) := by decide +kernel
theorem dX8_takeFailingAway_6 : decode cX8_takeFailingAway 6 = .ok (.if_icmp .gt 35, 3) := by decide +kernel
theorem dX8_takeFailingAway_9 : decode cX8_takeFailingAway 9 = .ok (.aload_n 0, 1) := by decide +kernel
theorem dX8_takeFailingAway_10 : decode cX8_takeFailingAway 10 = .ok (.getfield 9, 3) := by decide +kernel
theorem dX8_takeFailingAway_13 : decode cX8_takeFailingAway 13 = .ok (.iload_n 3, 1) := by decide +kernel
theorem dX8_takeFailingAway_14 : decode cX8_takeFailingAway 14 = .ok (.baload, 1) := by decide +kernel
theorem dX8_takeFailingAway_15 : decode cX8_takeFailingAway 15 = .ok (.ifCond .eq 20, 3) := by decide +kernel
theorem dX8_takeFailingAway_18 : decode cX8_takeFailingAway 18 = .ok (.aload_n 0, 1) := by decide +kernel
theorem dX8_takeFailingAway_19 : decode cX8_takeFailingAway 19 = .ok (.iload_n 3, 1) := by decide +kernel
theorem dX8_takeFailingAway_20 : decode cX8_takeFailingAway 20 = .ok (.invokevirtual 69, 3) := by decide +kernel
theorem dX8_takeFailingAway_23 : decode cX8_takeFailingAway 23 = .ok (.ifCond .ne 12, 3) := by decide +kernel
theorem dX8_takeFailingAway_26 : decode cX8_takeFailingAway 26 = .ok (.aload_n 0, 1) := by decide +kernel
theorem dX8_takeFailingAway_27 : decode cX8_takeFailingAway 27 = .ok (.getfield 9, 3) := by decide +kernel
theorem dX8_takeFailingAway_30 : decode cX8_takeFailingAway 30 = .ok (.iload_n 3, 1) := by decide +kernel
theorem dX8_takeFailingAway_31 : decode cX8_takeFailingAway 31 = .ok (.iconst 0, 1) := by decide +kernel
theorem dX8_takeFailingAway_32 : decode cX8_takeFailingAway 32 = .ok (.bastore, 1) := by decide +kernel
theorem dX8_takeFailingAway_33 : decode cX8_takeFailingAway 33 = .ok (.iconst 1, 1) := by decide +kernel
theorem dX8_takeFailingAway_34 : decode cX8_takeFailingAway 34 = .ok (.istore_n 2, 1) := by decide +kernel
theorem dX8_takeFailingAway_35 : decode cX8_takeFailingAway 35 = .ok (.iinc 3 1, 3) := by decide +kernel
theorem dX8_takeFailingAway_38 : decode cX8_takeFailingAway 38 = .ok (.goto (-34), 3) := by decide +kernel
theorem dX8_takeFailingAway_41 : decode cX8_takeFailingAway 41 = .ok (.iload_n 2, 1) := by decide +kernel
theorem dX8_takeFailingAway_42 : decode cX8_takeFailingAway 42 = .ok (.ireturn, 1) := by decide +kernel
theorem dX8_answersAll_0 : decode cX8_answersAll 0 = .ok (.iconst 0, 1) := by decide +kernel
theorem dX8_answersAll_1 : decode cX8_answersAll 1 = .ok (.istore_n 2, 1) := by decide +kernel
theorem dX8_answersAll_2 : decode cX8_answersAll 2 = .ok (.iload_n 2, 1) := by decide +kernel
theorem dX8_answersAll_3 : decode cX8_answersAll 3 = .ok (.aload_n 0, 1) := by decide +kernel
theorem dX8_answersAll_4 : decode cX8_answersAll 4 = .ok (.getfield 15, 3) := by decide +kernel
theorem dX8_answersAll_7 : decode cX8_answersAll 7 = .ok (.getfield 43, 3) := by decide +kernel
theorem dX8_answersAll_10 : decode cX8_answersAll 10 = .ok (.if_icmp .ge 29, 3) := by decide +kernel
theorem dX8_answersAll_13 : decode cX8_answersAll 13 = .ok (.iload_n 1, 1) := by decide +kernel
theorem dX8_answersAll_14 : decode cX8_answersAll 14 = .ok (.iload_n 2, 1) := by decide +kernel
theorem dX8_answersAll_15 : decode cX8_answersAll 15 = .ok (.invokestatic 58, 3) := by decide +kernel
theorem dX8_answersAll_18 : decode cX8_answersAll 18 = .ok (.ifCond .ne 15, 3) := by decide +kernel
theorem dX8_answersAll_21 : decode cX8_answersAll 21 = .ok (.aload_n 0, 1) := by decide +kernel
theorem dX8_answersAll_22 : decode cX8_answersAll 22 = .ok (.iload_n 1, 1) := by decide +kernel
theorem dX8_answersAll_23 : decode cX8_answersAll 23 = .ok (.iload_n 2, 1) := by decide +kernel
theorem dX8_answersAll_24 : decode cX8_answersAll 24 = .ok (.invokevirtual 62, 3) := by decide +kernel
theorem dX8_answersAll_27 : decode cX8_answersAll 27 = .ok (.iconst (-1), 1) := by decide +kernel
theorem dX8_answersAll_28 : decode cX8_answersAll 28 = .ok (.if_icmp .ne 5, 3) := by decide +kernel
theorem dX8_answersAll_31 : decode cX8_answersAll 31 = .ok (.iconst 0, 1) := by decide +kernel
theorem dX8_answersAll_32 : decode cX8_answersAll 32 = .ok (.ireturn, 1) := by decide +kernel
theorem dX8_answersAll_33 : decode cX8_answersAll 33 = .ok (.iinc 2 1, 3) := by decide +kernel
theorem dX8_answersAll_36 : decode cX8_answersAll 36 = .ok (.goto (-34), 3) := by decide +kernel
theorem dX8_answersAll_39 : decode cX8_answersAll 39 = .ok (.iconst 1, 1) := by decide +kernel
theorem dX8_answersAll_40 : decode cX8_answersAll 40 = .ok (.ireturn, 1) := by decide +kernel
end
section
theorem dX3_init_0 : decode cX3_init 0 = .ok (.aload_n 0, 1) := by decide +kernel
theorem dX3_init_1 : decode cX3_init 1 = .ok (.invokespecial 3, 3) := by decide +kernel
theorem dX3_init_4 : decode cX3_init 4 = .ok (.aload_n 0, 1) := by decide +kernel
theorem dX3_init_5 : decode cX3_init 5 = .ok (.iconst 3, 1) := by decide +kernel
theorem dX3_init_6 : decode cX3_init 6 = .ok (.sipush 4096, 3) := by decide +kernel
theorem dX3_init_9 : decode cX3_init 9 = .ok (.multianewarray 9 2, 4) := by decide +kernel
theorem dX3_init_13 : decode cX3_init 13 = .ok (.putfield 11, 3) := by decide +kernel
theorem dX3_init_16 : decode cX3_init 16 = .ok (.aload_n 0, 1) := by decide +kernel
theorem dX3_init_17 : decode cX3_init 17 = .ok (.iconst 3, 1) := by decide +kernel
theorem dX3_init_18 : decode cX3_init 18 = .ok (.newarray .int, 2) := by decide +kernel
theorem dX3_init_20 : decode cX3_init 20 = .ok (.putfield 16, 3) := by decide +kernel
theorem dX3_init_23 : decode cX3_init 23 = .ok (.aload_n 0, 1) := by decide +kernel
theorem dX3_init_24 : decode cX3_init 24 = .ok (.aload_n 1, 1) := by decide +kernel
theorem dX3_init_25 : decode cX3_init 25 = .ok (.putfield 20, 3) := by decide +kernel
theorem dX3_init_28 : decode cX3_init 28 = .ok (.aload_n 0, 1) := by decide +kernel
theorem dX3_init_29 : decode cX3_init 29 = .ok (.aload_n 2, 1) := by decide +kernel
theorem dX3_init_30 : decode cX3_init 30 = .ok (.putfield 24, 3) := by decide +kernel
theorem dX3_init_33 : decode cX3_init 33 = .ok (.return_, 1) := by decide +kernel
theorem dX3_winsOf_0 : decode cX3_winsOf 0 = .ok (.aload_n 0, 1) := by decide +kernel
theorem dX3_winsOf_1 : decode cX3_winsOf 1 = .ok (.getfield 11, 3) := by decide +kernel
theorem dX3_winsOf_4 : decode cX3_winsOf 4 = .ok (.iload_n 1, 1) := by decide +kernel
theorem dX3_winsOf_5 : decode cX3_winsOf 5 = .ok (.aaload, 1) := by decide +kernel
theorem dX3_winsOf_6 : decode cX3_winsOf 6 = .ok (.astore_n 2, 1) := by decide +kernel
theorem dX3_winsOf_7 : decode cX3_winsOf 7 = .ok (.aload_n 0, 1) := by decide +kernel
theorem dX3_winsOf_8 : decode cX3_winsOf 8 = .ok (.getfield 16, 3) := by decide +kernel
theorem dX3_winsOf_11 : decode cX3_winsOf 11 = .ok (.iload_n 1, 1) := by decide +kernel
theorem dX3_winsOf_12 : decode cX3_winsOf 12 = .ok (.iaload, 1) := by decide +kernel
theorem dX3_winsOf_13 : decode cX3_winsOf 13 = .ok (.aload_n 0, 1) := by decide +kernel
theorem dX3_winsOf_14 : decode cX3_winsOf 14 = .ok (.getfield 20, 3) := by decide +kernel
theorem dX3_winsOf_17 : decode cX3_winsOf 17 = .ok (.iload_n 1, 1) := by decide +kernel
theorem dX3_winsOf_18 : decode cX3_winsOf 18 = .ok (.invokevirtual 28, 3) := by decide +kernel
theorem dX3_winsOf_21 : decode cX3_winsOf 21 = .ok (.if_icmp .eq 68, 3) := by decide +kernel
theorem dX3_winsOf_24 : decode cX3_winsOf 24 = .ok (.aload_n 0, 1) := by decide +kernel
theorem dX3_winsOf_25 : decode cX3_winsOf 25 = .ok (.getfield 24, 3) := by decide +kernel
theorem dX3_winsOf_28 : decode cX3_winsOf 28 = .ok (.iload_n 1, 1) := by decide +kernel
theorem dX3_winsOf_29 : decode cX3_winsOf 29 = .ok (.invokevirtual 34, 3) := by decide +kernel
theorem dX3_winsOf_32 : decode cX3_winsOf 32 = .ok (.astore_n 3, 1) := by decide +kernel
theorem dX3_winsOf_33 : decode cX3_winsOf 33 = .ok (.aload_n 0, 1) := by decide +kernel
theorem dX3_winsOf_34 : decode cX3_winsOf 34 = .ok (.getfield 20, 3) := by decide +kernel
theorem dX3_winsOf_37 : decode cX3_winsOf 37 = .ok (.invokevirtual 40, 3) := by decide +kernel
theorem dX3_winsOf_40 : decode cX3_winsOf 40 = .ok (.istore 4, 2) := by decide +kernel
theorem dX3_winsOf_42 : decode cX3_winsOf 42 = .ok (.iload 4, 2) := by decide +kernel
theorem dX3_winsOf_44 : decode cX3_winsOf 44 = .ok (.ifCond .lt 31, 3) := by decide +kernel
theorem dX3_winsOf_47 : decode cX3_winsOf 47 = .ok (.aload_n 2, 1) := by decide +kernel
theorem dX3_winsOf_48 : decode cX3_winsOf 48 = .ok (.iload 4, 2) := by decide +kernel
theorem dX3_winsOf_50 : decode cX3_winsOf 50 = .ok (.aload_n 0, 1) := by decide +kernel
theorem dX3_winsOf_51 : decode cX3_winsOf 51 = .ok (.aload_n 2, 1) := by decide +kernel
theorem dX3_winsOf_52 : decode cX3_winsOf 52 = .ok (.aload_n 3, 1) := by decide +kernel
theorem dX3_winsOf_53 : decode cX3_winsOf 53 = .ok (.iload 4, 2) := by decide +kernel
theorem dX3_winsOf_55 : decode cX3_winsOf 55 = .ok (.invokevirtual 44, 3) := by decide +kernel
theorem dX3_winsOf_58 : decode cX3_winsOf 58 = .ok (.iconst (-1), 1) := by decide +kernel
theorem dX3_winsOf_59 : decode cX3_winsOf 59 = .ok (.if_icmp .ne 7, 3) := by decide +kernel
theorem dX3_winsOf_62 : decode cX3_winsOf 62 = .ok (.iconst 0, 1) := by decide +kernel
theorem dX3_winsOf_63 : decode cX3_winsOf 63 = .ok (.goto 4, 3) := by decide +kernel
theorem dX3_winsOf_66 : decode cX3_winsOf 66 = .ok (.iconst 1, 1) := by decide +kernel
theorem dX3_winsOf_67 : decode cX3_winsOf 67 = .ok (.i2b, 1) := by decide +kernel
theorem dX3_winsOf_68 : decode cX3_winsOf 68 = .ok (.bastore, 1) := by decide +kernel
theorem dX3_winsOf_69 : decode cX3_winsOf 69 = .ok (.iinc 4 (-1), 3) := by decide +kernel
theorem dX3_winsOf_72 : decode cX3_winsOf 72 = .ok (.goto (-30), 3) := by decide +kernel
theorem dX3_winsOf_75 : decode cX3_winsOf 75 = .ok (.aload_n 0, 1) := by decide +kernel
theorem dX3_winsOf_76 : decode cX3_winsOf 76 = .ok (.getfield 16, 3) := by decide +kernel
theorem dX3_winsOf_79 : decode cX3_winsOf 79 = .ok (.iload_n 1, 1) := by decide +kernel
theorem dX3_winsOf_80 : decode cX3_winsOf 80 = .ok (.aload_n 0, 1) := by decide +kernel
theorem dX3_winsOf_81 : decode cX3_winsOf 81 = .ok (.getfield 20, 3) := by decide +kernel
theorem dX3_winsOf_84 : decode cX3_winsOf 84 = .ok (.iload_n 1, 1) := by decide +kernel
theorem dX3_winsOf_85 : decode cX3_winsOf 85 = .ok (.invokevirtual 28, 3) := by decide +kernel
theorem dX3_winsOf_88 : decode cX3_winsOf 88 = .ok (.iastore, 1) := by decide +kernel
theorem dX3_winsOf_89 : decode cX3_winsOf 89 = .ok (.aload_n 2, 1) := by decide +kernel
theorem dX3_winsOf_90 : decode cX3_winsOf 90 = .ok (.areturn, 1) := by decide +kernel
theorem dX3_winningPost_0 : decode cX3_winningPost 0 = .ok (.iconst 0, 1) := by decide +kernel
theorem dX3_winningPost_1 : decode cX3_winningPost 1 = .ok (.istore 4, 2) := by decide +kernel
theorem dX3_winningPost_3 : decode cX3_winningPost 3 = .ok (.iload 4, 2) := by decide +kernel
theorem dX3_winningPost_5 : decode cX3_winningPost 5 = .ok (.aload_n 0, 1) := by decide +kernel
theorem dX3_winningPost_6 : decode cX3_winningPost 6 = .ok (.getfield 20, 3) := by decide +kernel
theorem dX3_winningPost_9 : decode cX3_winningPost 9 = .ok (.getfield 48, 3) := by decide +kernel
theorem dX3_winningPost_12 : decode cX3_winningPost 12 = .ok (.if_icmp .ge 34, 3) := by decide +kernel
theorem dX3_winningPost_15 : decode cX3_winningPost 15 = .ok (.iload_n 3, 1) := by decide +kernel
theorem dX3_winningPost_16 : decode cX3_winningPost 16 = .ok (.iload 4, 2) := by decide +kernel
theorem dX3_winningPost_18 : decode cX3_winningPost 18 = .ok (.invokestatic 52, 3) := by decide +kernel
theorem dX3_winningPost_21 : decode cX3_winningPost 21 = .ok (.ifCond .ne 19, 3) := by decide +kernel
theorem dX3_winningPost_24 : decode cX3_winningPost 24 = .ok (.aload_n 1, 1) := by decide +kernel
theorem dX3_winningPost_25 : decode cX3_winningPost 25 = .ok (.aload_n 2, 1) := by decide +kernel
theorem dX3_winningPost_26 : decode cX3_winningPost 26 = .ok (.iload_n 3, 1) := by decide +kernel
theorem dX3_winningPost_27 : decode cX3_winningPost 27 = .ok (.iconst 1, 1) := by decide +kernel
theorem dX3_winningPost_28 : decode cX3_winningPost 28 = .ok (.iload 4, 2) := by decide +kernel
theorem dX3_winningPost_30 : decode cX3_winningPost 30 = .ok (.ishl, 1) := by decide +kernel
theorem dX3_winningPost_31 : decode cX3_winningPost 31 = .ok (.ior, 1) := by decide +kernel
theorem dX3_winningPost_32 : decode cX3_winningPost 32 = .ok (.iaload, 1) := by decide +kernel
theorem dX3_winningPost_33 : decode cX3_winningPost 33 = .ok (.baload, 1) := by decide +kernel
theorem dX3_winningPost_34 : decode cX3_winningPost 34 = .ok (.ifCond .ne 6, 3) := by decide +kernel
theorem dX3_winningPost_37 : decode cX3_winningPost 37 = .ok (.iload 4, 2) := by decide +kernel
theorem dX3_winningPost_39 : decode cX3_winningPost 39 = .ok (.ireturn, 1) := by decide +kernel
theorem dX3_winningPost_40 : decode cX3_winningPost 40 = .ok (.iinc 4 1, 3) := by decide +kernel
theorem dX3_winningPost_43 : decode cX3_winningPost 43 = .ok (.goto (-40), 3) := by decide +kernel
theorem dX3_winningPost_46 : decode cX3_winningPost 46 = .ok (.iconst (-1), 1) := by decide +kernel
theorem dX3_winningPost_47 : decode cX3_winningPost 47 = .ok (.ireturn, 1) := by decide +kernel
end
section
theorem dX9_init_0 : decode cX9_init 0 = .ok (.aload_n 0, 1) := by decide +kernel
theorem dX9_init_1 : decode cX9_init 1 = .ok (.invokespecial 3, 3) := by decide +kernel
theorem dX9_init_4 : decode cX9_init 4 = .ok (.aload_n 0, 1) := by decide +kernel
theorem dX9_init_5 : decode cX9_init 5 = .ok (.new 9, 3) := by decide +kernel
theorem dX9_init_8 : decode cX9_init 8 = .ok (.dup, 1) := by decide +kernel
theorem dX9_init_9 : decode cX9_init 9 = .ok (.invokespecial 11, 3) := by decide +kernel
theorem dX9_init_12 : decode cX9_init 12 = .ok (.putfield 12, 3) := by decide +kernel
theorem dX9_init_15 : decode cX9_init 15 = .ok (.aload_n 0, 1) := by decide +kernel
theorem dX9_init_16 : decode cX9_init 16 = .ok (.new 16, 3) := by decide +kernel
theorem dX9_init_19 : decode cX9_init 19 = .ok (.dup, 1) := by decide +kernel
theorem dX9_init_20 : decode cX9_init 20 = .ok (.aload_n 0, 1) := by decide +kernel
theorem dX9_init_21 : decode cX9_init 21 = .ok (.getfield 12, 3) := by decide +kernel
theorem dX9_init_24 : decode cX9_init 24 = .ok (.invokespecial 18, 3) := by decide +kernel
theorem dX9_init_27 : decode cX9_init 27 = .ok (.putfield 21, 3) := by decide +kernel
theorem dX9_init_30 : decode cX9_init 30 = .ok (.aload_n 0, 1) := by decide +kernel
theorem dX9_init_31 : decode cX9_init 31 = .ok (.new 25, 3) := by decide +kernel
theorem dX9_init_34 : decode cX9_init 34 = .ok (.dup, 1) := by decide +kernel
theorem dX9_init_35 : decode cX9_init 35 = .ok (.aload_n 0, 1) := by decide +kernel
theorem dX9_init_36 : decode cX9_init 36 = .ok (.getfield 12, 3) := by decide +kernel
theorem dX9_init_39 : decode cX9_init 39 = .ok (.aload_n 0, 1) := by decide +kernel
theorem dX9_init_40 : decode cX9_init 40 = .ok (.getfield 21, 3) := by decide +kernel
theorem dX9_init_43 : decode cX9_init 43 = .ok (.invokespecial 27, 3) := by decide +kernel
theorem dX9_init_46 : decode cX9_init 46 = .ok (.putfield 30, 3) := by decide +kernel
theorem dX9_init_49 : decode cX9_init 49 = .ok (.aload_n 0, 1) := by decide +kernel
theorem dX9_init_50 : decode cX9_init 50 = .ok (.new 34, 3) := by decide +kernel
theorem dX9_init_53 : decode cX9_init 53 = .ok (.dup, 1) := by decide +kernel
theorem dX9_init_54 : decode cX9_init 54 = .ok (.aload_n 0, 1) := by decide +kernel
theorem dX9_init_55 : decode cX9_init 55 = .ok (.getfield 12, 3) := by decide +kernel
theorem dX9_init_58 : decode cX9_init 58 = .ok (.invokespecial 36, 3) := by decide +kernel
theorem dX9_init_61 : decode cX9_init 61 = .ok (.putfield 37, 3) := by decide +kernel
theorem dX9_init_64 : decode cX9_init 64 = .ok (.aload_n 0, 1) := by decide +kernel
theorem dX9_init_65 : decode cX9_init 65 = .ok (.new 41, 3) := by decide +kernel
theorem dX9_init_68 : decode cX9_init 68 = .ok (.dup, 1) := by decide +kernel
theorem dX9_init_69 : decode cX9_init 69 = .ok (.aload_n 0, 1) := by decide +kernel
theorem dX9_init_70 : decode cX9_init 70 = .ok (.getfield 12, 3) := by decide +kernel
theorem dX9_init_73 : decode cX9_init 73 = .ok (.aload_n 0, 1) := by decide +kernel
theorem dX9_init_74 : decode cX9_init 74 = .ok (.getfield 21, 3) := by decide +kernel
theorem dX9_init_77 : decode cX9_init 77 = .ok (.invokespecial 43, 3) := by decide +kernel
theorem dX9_init_80 : decode cX9_init 80 = .ok (.putfield 44, 3) := by decide +kernel
theorem dX9_init_83 : decode cX9_init 83 = .ok (.aload_n 0, 1) := by decide +kernel
theorem dX9_init_84 : decode cX9_init 84 = .ok (.new 48, 3) := by decide +kernel
theorem dX9_init_87 : decode cX9_init 87 = .ok (.dup, 1) := by decide +kernel
theorem dX9_init_88 : decode cX9_init 88 = .ok (.aload_n 0, 1) := by decide +kernel
theorem dX9_init_89 : decode cX9_init 89 = .ok (.getfield 12, 3) := by decide +kernel
theorem dX9_init_92 : decode cX9_init 92 = .ok (.invokespecial 50, 3) := by decide +kernel
theorem dX9_init_95 : decode cX9_init 95 = .ok (.putfield 51, 3) := by decide +kernel
theorem dX9_init_98 : decode cX9_init 98 = .ok (.aload_n 0, 1) := by decide +kernel
theorem dX9_init_99 : decode cX9_init 99 = .ok (.new 55, 3) := by decide +kernel
theorem dX9_init_102 : decode cX9_init 102 = .ok (.dup, 1) := by decide +kernel
theorem dX9_init_103 : decode cX9_init 103 = .ok (.aload_n 0, 1) := by decide +kernel
theorem dX9_init_104 : decode cX9_init 104 = .ok (.getfield 12, 3) := by decide +kernel
theorem dX9_init_107 : decode cX9_init 107 = .ok (.invokespecial 57, 3) := by decide +kernel
theorem dX9_init_110 : decode cX9_init 110 = .ok (.putfield 58, 3) := by decide +kernel
theorem dX9_init_113 : decode cX9_init 113 = .ok (.aload_n 0, 1) := by decide +kernel
theorem dX9_init_114 : decode cX9_init 114 = .ok (.new 62, 3) := by decide +kernel
theorem dX9_init_117 : decode cX9_init 117 = .ok (.dup, 1) := by decide +kernel
theorem dX9_init_118 : decode cX9_init 118 = .ok (.aload_n 0, 1) := by decide +kernel
theorem dX9_init_119 : decode cX9_init 119 = .ok (.getfield 12, 3) := by decide +kernel
theorem dX9_init_122 : decode cX9_init 122 = .ok (.invokespecial 64, 3) := by decide +kernel
theorem dX9_init_125 : decode cX9_init 125 = .ok (.putfield 65, 3) := by decide +kernel
theorem dX9_init_128 : decode cX9_init 128 = .ok (.aload_n 0, 1) := by decide +kernel
theorem dX9_init_129 : decode cX9_init 129 = .ok (.new 69, 3) := by decide +kernel
theorem dX9_init_132 : decode cX9_init 132 = .ok (.dup, 1) := by decide +kernel
theorem dX9_init_133 : decode cX9_init 133 = .ok (.aload_n 0, 1) := by decide +kernel
theorem dX9_init_134 : decode cX9_init 134 = .ok (.getfield 12, 3) := by decide +kernel
theorem dX9_init_137 : decode cX9_init 137 = .ok (.aload_n 0, 1) := by decide +kernel
theorem dX9_init_138 : decode cX9_init 138 = .ok (.getfield 21, 3) := by decide +kernel
theorem dX9_init_141 : decode cX9_init 141 = .ok (.invokespecial 71, 3) := by decide +kernel
theorem dX9_init_144 : decode cX9_init 144 = .ok (.putfield 72, 3) := by decide +kernel
theorem dX9_init_147 : decode cX9_init 147 = .ok (.return_, 1) := by decide +kernel
theorem dX9_post_0 : decode cX9_post 0 = .ok (.aload_n 0, 1) := by decide +kernel
theorem dX9_post_1 : decode cX9_post 1 = .ok (.getfield 12, 3) := by decide +kernel
theorem dX9_post_4 : decode cX9_post 4 = .ok (.getfield 76, 3) := by decide +kernel
theorem dX9_post_7 : decode cX9_post 7 = .ok (.bipush 12, 2) := by decide +kernel
theorem dX9_post_9 : decode cX9_post 9 = .ok (.if_icmp .lt 8, 3) := by decide +kernel
theorem dX9_post_12 : decode cX9_post 12 = .ok (.bipush (-2), 2) := by decide +kernel
theorem dX9_post_14 : decode cX9_post 14 = .ok (.goto 10, 3) := by decide +kernel
theorem dX9_post_17 : decode cX9_post 17 = .ok (.aload_n 0, 1) := by decide +kernel
theorem dX9_post_18 : decode cX9_post 18 = .ok (.getfield 12, 3) := by decide +kernel
theorem dX9_post_21 : decode cX9_post 21 = .ok (.invokevirtual 80, 3) := by decide +kernel
theorem dX9_post_24 : decode cX9_post 24 = .ok (.ireturn, 1) := by decide +kernel
theorem dX9_road_0 : decode cX9_road 0 = .ok (.aload_n 0, 1) := by decide +kernel
theorem dX9_road_1 : decode cX9_road 1 = .ok (.getfield 12, 3) := by decide +kernel
theorem dX9_road_4 : decode cX9_road 4 = .ok (.iload_n 1, 1) := by decide +kernel
theorem dX9_road_5 : decode cX9_road 5 = .ok (.invokevirtual 84, 3) := by decide +kernel
theorem dX9_road_8 : decode cX9_road 8 = .ok (.ifCond .eq 29, 3) := by decide +kernel
theorem dX9_road_11 : decode cX9_road 11 = .ok (.aload_n 0, 1) := by decide +kernel
theorem dX9_road_12 : decode cX9_road 12 = .ok (.getfield 12, 3) := by decide +kernel
theorem dX9_road_15 : decode cX9_road 15 = .ok (.iload_n 2, 1) := by decide +kernel
theorem dX9_road_16 : decode cX9_road 16 = .ok (.invokevirtual 84, 3) := by decide +kernel
theorem dX9_road_19 : decode cX9_road 19 = .ok (.ifCond .eq 18, 3) := by decide +kernel
theorem dX9_road_22 : decode cX9_road 22 = .ok (.iload_n 1, 1) := by decide +kernel
theorem dX9_road_23 : decode cX9_road 23 = .ok (.iload_n 2, 1) := by decide +kernel
theorem dX9_road_24 : decode cX9_road 24 = .ok (.if_icmp .eq 13, 3) := by decide +kernel
theorem dX9_road_27 : decode cX9_road 27 = .ok (.iload_n 3, 1) := by decide +kernel
theorem dX9_road_28 : decode cX9_road 28 = .ok (.ifCond .lt 9, 3) := by decide +kernel
theorem dX9_road_31 : decode cX9_road 31 = .ok (.iload_n 3, 1) := by decide +kernel
theorem dX9_road_32 : decode cX9_road 32 = .ok (.bipush 9, 2) := by decide +kernel
theorem dX9_road_34 : decode cX9_road 34 = .ok (.if_icmp .le 6, 3) := by decide +kernel
theorem dX9_road_37 : decode cX9_road 37 = .ok (.bipush (-2), 2) := by decide +kernel
theorem dX9_road_39 : decode cX9_road 39 = .ok (.ireturn, 1) := by decide +kernel
theorem dX9_road_40 : decode cX9_road 40 = .ok (.aload_n 0, 1) := by decide +kernel
theorem dX9_road_41 : decode cX9_road 41 = .ok (.getfield 12, 3) := by decide +kernel
theorem dX9_road_44 : decode cX9_road 44 = .ok (.iload_n 1, 1) := by decide +kernel
theorem dX9_road_45 : decode cX9_road 45 = .ok (.iload_n 2, 1) := by decide +kernel
theorem dX9_road_46 : decode cX9_road 46 = .ok (.iload_n 3, 1) := by decide +kernel
theorem dX9_road_47 : decode cX9_road 47 = .ok (.invokevirtual 88, 3) := by decide +kernel
theorem dX9_road_50 : decode cX9_road 50 = .ok (.ireturn, 1) := by decide +kernel
theorem dX9_bar_0 : decode cX9_bar 0 = .ok (.aload_n 0, 1) := by decide +kernel
theorem dX9_bar_1 : decode cX9_bar 1 = .ok (.getfield 12, 3) := by decide +kernel
theorem dX9_bar_4 : decode cX9_bar 4 = .ok (.iload_n 1, 1) := by decide +kernel
theorem dX9_bar_5 : decode cX9_bar 5 = .ok (.invokevirtual 84, 3) := by decide +kernel
theorem dX9_bar_8 : decode cX9_bar 8 = .ok (.ifCond .eq 13, 3) := by decide +kernel
theorem dX9_bar_11 : decode cX9_bar 11 = .ok (.iload_n 2, 1) := by decide +kernel
theorem dX9_bar_12 : decode cX9_bar 12 = .ok (.ifCond .lt 9, 3) := by decide +kernel
theorem dX9_bar_15 : decode cX9_bar 15 = .ok (.iload_n 2, 1) := by decide +kernel
theorem dX9_bar_16 : decode cX9_bar 16 = .ok (.bipush 99, 2) := by decide +kernel
theorem dX9_bar_18 : decode cX9_bar 18 = .ok (.if_icmp .le 6, 3) := by decide +kernel
theorem dX9_bar_21 : decode cX9_bar 21 = .ok (.bipush (-2), 2) := by decide +kernel
theorem dX9_bar_23 : decode cX9_bar 23 = .ok (.ireturn, 1) := by decide +kernel
theorem dX9_bar_24 : decode cX9_bar 24 = .ok (.aload_n 0, 1) := by decide +kernel
theorem dX9_bar_25 : decode cX9_bar 25 = .ok (.getfield 12, 3) := by decide +kernel
theorem dX9_bar_28 : decode cX9_bar 28 = .ok (.iload_n 1, 1) := by decide +kernel
theorem dX9_bar_29 : decode cX9_bar 29 = .ok (.iload_n 2, 1) := by decide +kernel
theorem dX9_bar_30 : decode cX9_bar 30 = .ok (.invokevirtual 92, 3) := by decide +kernel
theorem dX9_bar_33 : decode cX9_bar 33 = .ok (.ireturn, 1) := by decide +kernel
theorem dX9_price_0 : decode cX9_price 0 = .ok (.aload_n 0, 1) := by decide +kernel
theorem dX9_price_1 : decode cX9_price 1 = .ok (.getfield 12, 3) := by decide +kernel
theorem dX9_price_4 : decode cX9_price 4 = .ok (.iload_n 1, 1) := by decide +kernel
theorem dX9_price_5 : decode cX9_price 5 = .ok (.invokevirtual 84, 3) := by decide +kernel
theorem dX9_price_8 : decode cX9_price 8 = .ok (.ifCond .eq 14, 3) := by decide +kernel
theorem dX9_price_11 : decode cX9_price 11 = .ok (.iload_n 2, 1) := by decide +kernel
theorem dX9_price_12 : decode cX9_price 12 = .ok (.ifCond .lt 10, 3) := by decide +kernel
theorem dX9_price_15 : decode cX9_price 15 = .ok (.iload_n 2, 1) := by decide +kernel
theorem dX9_price_16 : decode cX9_price 16 = .ok (.sipush 1000, 3) := by decide +kernel
theorem dX9_price_19 : decode cX9_price 19 = .ok (.if_icmp .le 6, 3) := by decide +kernel
theorem dX9_price_22 : decode cX9_price 22 = .ok (.bipush (-2), 2) := by decide +kernel
theorem dX9_price_24 : decode cX9_price 24 = .ok (.ireturn, 1) := by decide +kernel
theorem dX9_price_25 : decode cX9_price 25 = .ok (.aload_n 0, 1) := by decide +kernel
theorem dX9_price_26 : decode cX9_price 26 = .ok (.getfield 12, 3) := by decide +kernel
theorem dX9_price_29 : decode cX9_price 29 = .ok (.iload_n 1, 1) := by decide +kernel
theorem dX9_price_30 : decode cX9_price 30 = .ok (.iload_n 2, 1) := by decide +kernel
theorem dX9_price_31 : decode cX9_price 31 = .ok (.invokevirtual 96, 3) := by decide +kernel
theorem dX9_price_34 : decode cX9_price 34 = .ok (.ireturn, 1) := by decide +kernel
theorem dX9_of_0 : decode cX9_of 0 = .ok (.aload_n 0, 1) := by decide +kernel
theorem dX9_of_1 : decode cX9_of 1 = .ok (.getfield 12, 3) := by decide +kernel
theorem dX9_of_4 : decode cX9_of 4 = .ok (.iload_n 1, 1) := by decide +kernel
theorem dX9_of_5 : decode cX9_of 5 = .ok (.invokevirtual 84, 3) := by decide +kernel
theorem dX9_of_8 : decode cX9_of 8 = .ok (.ifCond .ne 6, 3) := by decide +kernel
theorem dX9_of_11 : decode cX9_of 11 = .ok (.bipush (-2), 2) := by decide +kernel
theorem dX9_of_13 : decode cX9_of 13 = .ok (.ireturn, 1) := by decide +kernel
theorem dX9_of_14 : decode cX9_of 14 = .ok (.iload_n 2, 1) := by decide +kernel
theorem dX9_of_15 : decode cX9_of 15 = .ok (.tableswitch 69 0 3 #[29, 39, 49, 59], 29) := by decide +kernel
theorem dX9_of_44 : decode cX9_of 44 = .ok (.aload_n 0, 1) := by decide +kernel
theorem dX9_of_45 : decode cX9_of 45 = .ok (.getfield 12, 3) := by decide +kernel
theorem dX9_of_48 : decode cX9_of 48 = .ok (.getfield 99, 3) := by decide +kernel
theorem dX9_of_51 : decode cX9_of 51 = .ok (.iload_n 1, 1) := by decide +kernel
theorem dX9_of_52 : decode cX9_of 52 = .ok (.iaload, 1) := by decide +kernel
theorem dX9_of_53 : decode cX9_of 53 = .ok (.ireturn, 1) := by decide +kernel
theorem dX9_of_54 : decode cX9_of 54 = .ok (.aload_n 0, 1) := by decide +kernel
theorem dX9_of_55 : decode cX9_of 55 = .ok (.getfield 12, 3) := by decide +kernel
theorem dX9_of_58 : decode cX9_of 58 = .ok (.getfield 103, 3) := by decide +kernel
theorem dX9_of_61 : decode cX9_of 61 = .ok (.iload_n 1, 1) := by decide +kernel
theorem dX9_of_62 : decode cX9_of 62 = .ok (.iaload, 1) := by decide +kernel
theorem dX9_of_63 : decode cX9_of 63 = .ok (.ireturn, 1) := by decide +kernel
theorem dX9_of_64 : decode cX9_of 64 = .ok (.aload_n 0, 1) := by decide +kernel
theorem dX9_of_65 : decode cX9_of 65 = .ok (.getfield 12, 3) := by decide +kernel
theorem dX9_of_68 : decode cX9_of 68 = .ok (.getfield 106, 3) := by decide +kernel
theorem dX9_of_71 : decode cX9_of 71 = .ok (.iload_n 1, 1) := by decide +kernel
theorem dX9_of_72 : decode cX9_of 72 = .ok (.iaload, 1) := by decide +kernel
theorem dX9_of_73 : decode cX9_of 73 = .ok (.ireturn, 1) := by decide +kernel
theorem dX9_of_74 : decode cX9_of 74 = .ok (.aload_n 0, 1) := by decide +kernel
theorem dX9_of_75 : decode cX9_of 75 = .ok (.getfield 12, 3) := by decide +kernel
theorem dX9_of_78 : decode cX9_of 78 = .ok (.getfield 109, 3) := by decide +kernel
theorem dX9_of_81 : decode cX9_of 81 = .ok (.iload_n 1, 1) := by decide +kernel
theorem dX9_of_82 : decode cX9_of 82 = .ok (.iaload, 1) := by decide +kernel
theorem dX9_of_83 : decode cX9_of 83 = .ok (.ireturn, 1) := by decide +kernel
theorem dX9_of_84 : decode cX9_of 84 = .ok (.bipush (-2), 2) := by decide +kernel
theorem dX9_of_86 : decode cX9_of 86 = .ok (.ireturn, 1) := by decide +kernel
theorem dX9_go_0 : decode cX9_go 0 = .ok (.iload_n 1, 1) := by decide +kernel
theorem dX9_go_1 : decode cX9_go 1 = .ok (.invokestatic 112, 3) := by decide +kernel
theorem dX9_go_4 : decode cX9_go 4 = .ok (.ifCond .eq 14, 3) := by decide +kernel
theorem dX9_go_7 : decode cX9_go 7 = .ok (.aload_n 0, 1) := by decide +kernel
theorem dX9_go_8 : decode cX9_go 8 = .ok (.getfield 12, 3) := by decide +kernel
theorem dX9_go_11 : decode cX9_go 11 = .ok (.iload_n 2, 1) := by decide +kernel
theorem dX9_go_12 : decode cX9_go 12 = .ok (.invokevirtual 115, 3) := by decide +kernel
theorem dX9_go_15 : decode cX9_go 15 = .ok (.ifCond .ne 6, 3) := by decide +kernel
theorem dX9_go_18 : decode cX9_go 18 = .ok (.bipush (-2), 2) := by decide +kernel
theorem dX9_go_20 : decode cX9_go 20 = .ok (.ireturn, 1) := by decide +kernel
theorem dX9_go_21 : decode cX9_go 21 = .ok (.aload_n 0, 1) := by decide +kernel
theorem dX9_go_22 : decode cX9_go 22 = .ok (.getfield 30, 3) := by decide +kernel
theorem dX9_go_25 : decode cX9_go 25 = .ok (.iload_n 1, 1) := by decide +kernel
theorem dX9_go_26 : decode cX9_go 26 = .ok (.iload_n 2, 1) := by decide +kernel
theorem dX9_go_27 : decode cX9_go 27 = .ok (.invokevirtual 118, 3) := by decide +kernel
theorem dX9_go_30 : decode cX9_go 30 = .ok (.aload_n 0, 1) := by decide +kernel
theorem dX9_go_31 : decode cX9_go 31 = .ok (.getfield 30, 3) := by decide +kernel
theorem dX9_go_34 : decode cX9_go 34 = .ok (.invokevirtual 122, 3) := by decide +kernel
theorem dX9_go_37 : decode cX9_go 37 = .ok (.ireturn, 1) := by decide +kernel
theorem dX9_ticks_0 : decode cX9_ticks 0 = .ok (.iload_n 1, 1) := by decide +kernel
theorem dX9_ticks_1 : decode cX9_ticks 1 = .ok (.invokestatic 112, 3) := by decide +kernel
theorem dX9_ticks_4 : decode cX9_ticks 4 = .ok (.ifCond .eq 14, 3) := by decide +kernel
theorem dX9_ticks_7 : decode cX9_ticks 7 = .ok (.aload_n 0, 1) := by decide +kernel
theorem dX9_ticks_8 : decode cX9_ticks 8 = .ok (.getfield 12, 3) := by decide +kernel
theorem dX9_ticks_11 : decode cX9_ticks 11 = .ok (.iload_n 2, 1) := by decide +kernel
theorem dX9_ticks_12 : decode cX9_ticks 12 = .ok (.invokevirtual 115, 3) := by decide +kernel
theorem dX9_ticks_15 : decode cX9_ticks 15 = .ok (.ifCond .ne 6, 3) := by decide +kernel
theorem dX9_ticks_18 : decode cX9_ticks 18 = .ok (.bipush (-2), 2) := by decide +kernel
theorem dX9_ticks_20 : decode cX9_ticks 20 = .ok (.ireturn, 1) := by decide +kernel
theorem dX9_ticks_21 : decode cX9_ticks 21 = .ok (.aload_n 0, 1) := by decide +kernel
theorem dX9_ticks_22 : decode cX9_ticks 22 = .ok (.getfield 30, 3) := by decide +kernel
theorem dX9_ticks_25 : decode cX9_ticks 25 = .ok (.iload_n 1, 1) := by decide +kernel
theorem dX9_ticks_26 : decode cX9_ticks 26 = .ok (.iload_n 2, 1) := by decide +kernel
theorem dX9_ticks_27 : decode cX9_ticks 27 = .ok (.invokevirtual 118, 3) := by decide +kernel
theorem dX9_ticks_30 : decode cX9_ticks 30 = .ok (.aload_n 0, 1) := by decide +kernel
theorem dX9_ticks_31 : decode cX9_ticks 31 = .ok (.getfield 30, 3) := by decide +kernel
theorem dX9_ticks_34 : decode cX9_ticks 34 = .ok (.getfield 125, 3) := by decide +kernel
theorem dX9_ticks_37 : decode cX9_ticks 37 = .ok (.ireturn, 1) := by decide +kernel
theorem dX9_when_0 : decode cX9_when 0 = .ok (.iload_n 1, 1) := by decide +kernel
theorem dX9_when_1 : decode cX9_when 1 = .ok (.invokestatic 112, 3) := by decide +kernel
theorem dX9_when_4 : decode cX9_when 4 = .ok (.ifCond .eq 25, 3) := by decide +kernel
theorem dX9_when_7 : decode cX9_when 7 = .ok (.aload_n 0, 1) := by decide +kernel
theorem dX9_when_8 : decode cX9_when 8 = .ok (.getfield 12, 3) := by decide +kernel
theorem dX9_when_11 : decode cX9_when 11 = .ok (.iload_n 2, 1) := by decide +kernel
theorem dX9_when_12 : decode cX9_when 12 = .ok (.invokevirtual 115, 3) := by decide +kernel
theorem dX9_when_15 : decode cX9_when 15 = .ok (.ifCond .eq 14, 3) := by decide +kernel
theorem dX9_when_18 : decode cX9_when 18 = .ok (.aload_n 0, 1) := by decide +kernel
theorem dX9_when_19 : decode cX9_when 19 = .ok (.getfield 12, 3) := by decide +kernel
theorem dX9_when_22 : decode cX9_when 22 = .ok (.iload_n 3, 1) := by decide +kernel
theorem dX9_when_23 : decode cX9_when 23 = .ok (.invokevirtual 84, 3) := by decide +kernel
theorem dX9_when_26 : decode cX9_when 26 = .ok (.ifCond .ne 6, 3) := by decide +kernel
theorem dX9_when_29 : decode cX9_when 29 = .ok (.bipush (-2), 2) := by decide +kernel
theorem dX9_when_31 : decode cX9_when 31 = .ok (.ireturn, 1) := by decide +kernel
theorem dX9_when_32 : decode cX9_when 32 = .ok (.aload_n 0, 1) := by decide +kernel
theorem dX9_when_33 : decode cX9_when 33 = .ok (.getfield 30, 3) := by decide +kernel
theorem dX9_when_36 : decode cX9_when 36 = .ok (.iload_n 1, 1) := by decide +kernel
theorem dX9_when_37 : decode cX9_when 37 = .ok (.iload_n 2, 1) := by decide +kernel
theorem dX9_when_38 : decode cX9_when 38 = .ok (.invokevirtual 118, 3) := by decide +kernel
theorem dX9_when_41 : decode cX9_when 41 = .ok (.aload_n 0, 1) := by decide +kernel
theorem dX9_when_42 : decode cX9_when 42 = .ok (.getfield 30, 3) := by decide +kernel
theorem dX9_when_45 : decode cX9_when 45 = .ok (.iload_n 3, 1) := by decide +kernel
theorem dX9_when_46 : decode cX9_when 46 = .ok (.invokevirtual 128, 3) := by decide +kernel
theorem dX9_when_49 : decode cX9_when 49 = .ok (.ireturn, 1) := by decide +kernel
theorem dX9_brought_0 : decode cX9_brought 0 = .ok (.iload_n 1, 1) := by decide +kernel
theorem dX9_brought_1 : decode cX9_brought 1 = .ok (.invokestatic 112, 3) := by decide +kernel
theorem dX9_brought_4 : decode cX9_brought 4 = .ok (.ifCond .eq 25, 3) := by decide +kernel
theorem dX9_brought_7 : decode cX9_brought 7 = .ok (.aload_n 0, 1) := by decide +kernel
theorem dX9_brought_8 : decode cX9_brought 8 = .ok (.getfield 12, 3) := by decide +kernel
theorem dX9_brought_11 : decode cX9_brought 11 = .ok (.iload_n 2, 1) := by decide +kernel
theorem dX9_brought_12 : decode cX9_brought 12 = .ok (.invokevirtual 115, 3) := by decide +kernel
theorem dX9_brought_15 : decode cX9_brought 15 = .ok (.ifCond .eq 14, 3) := by decide +kernel
theorem dX9_brought_18 : decode cX9_brought 18 = .ok (.aload_n 0, 1) := by decide +kernel
theorem dX9_brought_19 : decode cX9_brought 19 = .ok (.getfield 12, 3) := by decide +kernel
theorem dX9_brought_22 : decode cX9_brought 22 = .ok (.iload_n 3, 1) := by decide +kernel
theorem dX9_brought_23 : decode cX9_brought 23 = .ok (.invokevirtual 84, 3) := by decide +kernel
theorem dX9_brought_26 : decode cX9_brought 26 = .ok (.ifCond .ne 6, 3) := by decide +kernel
theorem dX9_brought_29 : decode cX9_brought 29 = .ok (.bipush (-2), 2) := by decide +kernel
theorem dX9_brought_31 : decode cX9_brought 31 = .ok (.ireturn, 1) := by decide +kernel
theorem dX9_brought_32 : decode cX9_brought 32 = .ok (.aload_n 0, 1) := by decide +kernel
theorem dX9_brought_33 : decode cX9_brought 33 = .ok (.getfield 30, 3) := by decide +kernel
theorem dX9_brought_36 : decode cX9_brought 36 = .ok (.iload_n 1, 1) := by decide +kernel
theorem dX9_brought_37 : decode cX9_brought 37 = .ok (.iload_n 2, 1) := by decide +kernel
theorem dX9_brought_38 : decode cX9_brought 38 = .ok (.invokevirtual 118, 3) := by decide +kernel
theorem dX9_brought_41 : decode cX9_brought 41 = .ok (.aload_n 0, 1) := by decide +kernel
theorem dX9_brought_42 : decode cX9_brought 42 = .ok (.getfield 30, 3) := by decide +kernel
theorem dX9_brought_45 : decode cX9_brought 45 = .ok (.iload_n 1, 1) := by decide +kernel
theorem dX9_brought_46 : decode cX9_brought 46 = .ok (.iload_n 3, 1) := by decide +kernel
theorem dX9_brought_47 : decode cX9_brought 47 = .ok (.invokevirtual 132, 3) := by decide +kernel
theorem dX9_brought_50 : decode cX9_brought 50 = .ok (.ireturn, 1) := by decide +kernel
theorem dX9_fort_0 : decode cX9_fort 0 = .ok (.iload_n 1, 1) := by decide +kernel
theorem dX9_fort_1 : decode cX9_fort 1 = .ok (.invokestatic 135, 3) := by decide +kernel
theorem dX9_fort_4 : decode cX9_fort 4 = .ok (.ifCond .eq 14, 3) := by decide +kernel
theorem dX9_fort_7 : decode cX9_fort 7 = .ok (.aload_n 0, 1) := by decide +kernel
theorem dX9_fort_8 : decode cX9_fort 8 = .ok (.getfield 12, 3) := by decide +kernel
theorem dX9_fort_11 : decode cX9_fort 11 = .ok (.iload_n 2, 1) := by decide +kernel
theorem dX9_fort_12 : decode cX9_fort 12 = .ok (.invokevirtual 115, 3) := by decide +kernel
theorem dX9_fort_15 : decode cX9_fort 15 = .ok (.ifCond .ne 6, 3) := by decide +kernel
theorem dX9_fort_18 : decode cX9_fort 18 = .ok (.bipush (-2), 2) := by decide +kernel
theorem dX9_fort_20 : decode cX9_fort 20 = .ok (.ireturn, 1) := by decide +kernel
theorem dX9_fort_21 : decode cX9_fort 21 = .ok (.aload_n 0, 1) := by decide +kernel
theorem dX9_fort_22 : decode cX9_fort 22 = .ok (.getfield 44, 3) := by decide +kernel
theorem dX9_fort_25 : decode cX9_fort 25 = .ok (.iload_n 1, 1) := by decide +kernel
theorem dX9_fort_26 : decode cX9_fort 26 = .ok (.iload_n 2, 1) := by decide +kernel
theorem dX9_fort_27 : decode cX9_fort 27 = .ok (.invokevirtual 138, 3) := by decide +kernel
theorem dX9_fort_30 : decode cX9_fort 30 = .ok (.ifCond .eq 7, 3) := by decide +kernel
theorem dX9_fort_33 : decode cX9_fort 33 = .ok (.iconst 1, 1) := by decide +kernel
theorem dX9_fort_34 : decode cX9_fort 34 = .ok (.goto 4, 3) := by decide +kernel
theorem dX9_fort_37 : decode cX9_fort 37 = .ok (.iconst 0, 1) := by decide +kernel
theorem dX9_fort_38 : decode cX9_fort 38 = .ok (.ireturn, 1) := by decide +kernel
theorem dX9_forts_0 : decode cX9_forts 0 = .ok (.iload_n 1, 1) := by decide +kernel
theorem dX9_forts_1 : decode cX9_forts 1 = .ok (.invokestatic 135, 3) := by decide +kernel
theorem dX9_forts_4 : decode cX9_forts 4 = .ok (.ifCond .eq 7, 3) := by decide +kernel
theorem dX9_forts_7 : decode cX9_forts 7 = .ok (.iload_n 2, 1) := by decide +kernel
theorem dX9_forts_8 : decode cX9_forts 8 = .ok (.ifCond .ge 6, 3) := by decide +kernel
theorem dX9_forts_11 : decode cX9_forts 11 = .ok (.bipush (-2), 2) := by decide +kernel
theorem dX9_forts_13 : decode cX9_forts 13 = .ok (.ireturn, 1) := by decide +kernel
theorem dX9_forts_14 : decode cX9_forts 14 = .ok (.aload_n 0, 1) := by decide +kernel
theorem dX9_forts_15 : decode cX9_forts 15 = .ok (.getfield 44, 3) := by decide +kernel
theorem dX9_forts_18 : decode cX9_forts 18 = .ok (.iload_n 1, 1) := by decide +kernel
theorem dX9_forts_19 : decode cX9_forts 19 = .ok (.iload_n 2, 1) := by decide +kernel
theorem dX9_forts_20 : decode cX9_forts 20 = .ok (.invokevirtual 142, 3) := by decide +kernel
theorem dX9_forts_23 : decode cX9_forts 23 = .ok (.ireturn, 1) := by decide +kernel
theorem dX9_apart_0 : decode cX9_apart 0 = .ok (.iload_n 1, 1) := by decide +kernel
theorem dX9_apart_1 : decode cX9_apart 1 = .ok (.invokestatic 135, 3) := by decide +kernel
theorem dX9_apart_4 : decode cX9_apart 4 = .ok (.ifCond .eq 14, 3) := by decide +kernel
theorem dX9_apart_7 : decode cX9_apart 7 = .ok (.aload_n 0, 1) := by decide +kernel
theorem dX9_apart_8 : decode cX9_apart 8 = .ok (.getfield 44, 3) := by decide +kernel
theorem dX9_apart_11 : decode cX9_apart 11 = .ok (.iload_n 1, 1) := by decide +kernel
theorem dX9_apart_12 : decode cX9_apart 12 = .ok (.invokevirtual 145, 3) := by decide +kernel
theorem dX9_apart_15 : decode cX9_apart 15 = .ok (.goto 5, 3) := by decide +kernel
theorem dX9_apart_18 : decode cX9_apart 18 = .ok (.bipush (-2), 2) := by decide +kernel
theorem dX9_apart_20 : decode cX9_apart 20 = .ok (.ireturn, 1) := by decide +kernel
theorem dX9_least_0 : decode cX9_least 0 = .ok (.iload_n 1, 1) := by decide +kernel
theorem dX9_least_1 : decode cX9_least 1 = .ok (.invokestatic 112, 3) := by decide +kernel
theorem dX9_least_4 : decode cX9_least 4 = .ok (.ifCond .eq 21, 3) := by decide +kernel
theorem dX9_least_7 : decode cX9_least 7 = .ok (.aload_n 0, 1) := by decide +kernel
theorem dX9_least_8 : decode cX9_least 8 = .ok (.getfield 37, 3) := by decide +kernel
theorem dX9_least_11 : decode cX9_least 11 = .ok (.aload_n 0, 1) := by decide +kernel
theorem dX9_least_12 : decode cX9_least 12 = .ok (.getfield 21, 3) := by decide +kernel
theorem dX9_least_15 : decode cX9_least 15 = .ok (.iload_n 1, 1) := by decide +kernel
theorem dX9_least_16 : decode cX9_least 16 = .ok (.invokevirtual 148, 3) := by decide +kernel
end
section
theorem dX9_least_19 : decode cX9_least 19 = .ok (.invokevirtual 152, 3) := by decide +kernel
theorem dX9_least_22 : decode cX9_least 22 = .ok (.goto 5, 3) := by decide +kernel
theorem dX9_least_25 : decode cX9_least 25 = .ok (.bipush (-2), 2) := by decide +kernel
theorem dX9_least_27 : decode cX9_least 27 = .ok (.ireturn, 1) := by decide +kernel
theorem dX9_many_0 : decode cX9_many 0 = .ok (.iload_n 1, 1) := by decide +kernel
theorem dX9_many_1 : decode cX9_many 1 = .ok (.invokestatic 112, 3) := by decide +kernel
theorem dX9_many_4 : decode cX9_many 4 = .ok (.ifCond .eq 21, 3) := by decide +kernel
theorem dX9_many_7 : decode cX9_many 7 = .ok (.aload_n 0, 1) := by decide +kernel
theorem dX9_many_8 : decode cX9_many 8 = .ok (.getfield 37, 3) := by decide +kernel
theorem dX9_many_11 : decode cX9_many 11 = .ok (.aload_n 0, 1) := by decide +kernel
theorem dX9_many_12 : decode cX9_many 12 = .ok (.getfield 21, 3) := by decide +kernel
theorem dX9_many_15 : decode cX9_many 15 = .ok (.iload_n 1, 1) := by decide +kernel
theorem dX9_many_16 : decode cX9_many 16 = .ok (.invokevirtual 148, 3) := by decide +kernel
theorem dX9_many_19 : decode cX9_many 19 = .ok (.invokevirtual 156, 3) := by decide +kernel
theorem dX9_many_22 : decode cX9_many 22 = .ok (.goto 5, 3) := by decide +kernel
theorem dX9_many_25 : decode cX9_many 25 = .ok (.bipush (-2), 2) := by decide +kernel
theorem dX9_many_27 : decode cX9_many 27 = .ok (.ireturn, 1) := by decide +kernel
theorem dX9_cheapest_0 : decode cX9_cheapest 0 = .ok (.iload_n 1, 1) := by decide +kernel
theorem dX9_cheapest_1 : decode cX9_cheapest 1 = .ok (.invokestatic 112, 3) := by decide +kernel
theorem dX9_cheapest_4 : decode cX9_cheapest 4 = .ok (.ifCond .eq 21, 3) := by decide +kernel
theorem dX9_cheapest_7 : decode cX9_cheapest 7 = .ok (.aload_n 0, 1) := by decide +kernel
theorem dX9_cheapest_8 : decode cX9_cheapest 8 = .ok (.getfield 37, 3) := by decide +kernel
theorem dX9_cheapest_11 : decode cX9_cheapest 11 = .ok (.aload_n 0, 1) := by decide +kernel
theorem dX9_cheapest_12 : decode cX9_cheapest 12 = .ok (.getfield 21, 3) := by decide +kernel
theorem dX9_cheapest_15 : decode cX9_cheapest 15 = .ok (.iload_n 1, 1) := by decide +kernel
theorem dX9_cheapest_16 : decode cX9_cheapest 16 = .ok (.invokevirtual 148, 3) := by decide +kernel
theorem dX9_cheapest_19 : decode cX9_cheapest 19 = .ok (.invokevirtual 159, 3) := by decide +kernel
theorem dX9_cheapest_22 : decode cX9_cheapest 22 = .ok (.goto 5, 3) := by decide +kernel
theorem dX9_cheapest_25 : decode cX9_cheapest 25 = .ok (.bipush (-2), 2) := by decide +kernel
theorem dX9_cheapest_27 : decode cX9_cheapest 27 = .ok (.ireturn, 1) := by decide +kernel
theorem dX9_pared_0 : decode cX9_pared 0 = .ok (.iload_n 1, 1) := by decide +kernel
theorem dX9_pared_1 : decode cX9_pared 1 = .ok (.invokestatic 112, 3) := by decide +kernel
theorem dX9_pared_4 : decode cX9_pared 4 = .ok (.ifCond .eq 21, 3) := by decide +kernel
theorem dX9_pared_7 : decode cX9_pared 7 = .ok (.aload_n 0, 1) := by decide +kernel
theorem dX9_pared_8 : decode cX9_pared 8 = .ok (.getfield 37, 3) := by decide +kernel
theorem dX9_pared_11 : decode cX9_pared 11 = .ok (.aload_n 0, 1) := by decide +kernel
theorem dX9_pared_12 : decode cX9_pared 12 = .ok (.getfield 21, 3) := by decide +kernel
theorem dX9_pared_15 : decode cX9_pared 15 = .ok (.iload_n 1, 1) := by decide +kernel
theorem dX9_pared_16 : decode cX9_pared 16 = .ok (.invokevirtual 148, 3) := by decide +kernel
theorem dX9_pared_19 : decode cX9_pared 19 = .ok (.invokevirtual 162, 3) := by decide +kernel
theorem dX9_pared_22 : decode cX9_pared 22 = .ok (.goto 5, 3) := by decide +kernel
theorem dX9_pared_25 : decode cX9_pared 25 = .ok (.bipush (-2), 2) := by decide +kernel
theorem dX9_pared_27 : decode cX9_pared 27 = .ok (.ireturn, 1) := by decide +kernel
theorem dX9_burn_0 : decode cX9_burn 0 = .ok (.aload_n 0, 1) := by decide +kernel
theorem dX9_burn_1 : decode cX9_burn 1 = .ok (.getfield 51, 3) := by decide +kernel
theorem dX9_burn_4 : decode cX9_burn 4 = .ok (.invokevirtual 165, 3) := by decide +kernel
theorem dX9_burn_7 : decode cX9_burn 7 = .ok (.ireturn, 1) := by decide +kernel
theorem dX9_hand_0 : decode cX9_hand 0 = .ok (.aload_n 0, 1) := by decide +kernel
theorem dX9_hand_1 : decode cX9_hand 1 = .ok (.getfield 51, 3) := by decide +kernel
theorem dX9_hand_4 : decode cX9_hand 4 = .ok (.iload_n 1, 1) := by decide +kernel
theorem dX9_hand_5 : decode cX9_hand 5 = .ok (.invokevirtual 168, 3) := by decide +kernel
theorem dX9_hand_8 : decode cX9_hand 8 = .ok (.ireturn, 1) := by decide +kernel
theorem dX9_burnt_0 : decode cX9_burnt 0 = .ok (.lload_n 1, 1) := by decide +kernel
theorem dX9_burnt_1 : decode cX9_burnt 1 = .ok (.lconst 0, 1) := by decide +kernel
theorem dX9_burnt_2 : decode cX9_burnt 2 = .ok (.lcmp, 1) := by decide +kernel
theorem dX9_burnt_3 : decode cX9_burnt 3 = .ok (.ifCond .ge 8, 3) := by decide +kernel
theorem dX9_burnt_6 : decode cX9_burnt 6 = .ok (.bipush (-2), 2) := by decide +kernel
theorem dX9_burnt_8 : decode cX9_burnt 8 = .ok (.goto 11, 3) := by decide +kernel
theorem dX9_burnt_11 : decode cX9_burnt 11 = .ok (.aload_n 0, 1) := by decide +kernel
theorem dX9_burnt_12 : decode cX9_burnt 12 = .ok (.getfield 51, 3) := by decide +kernel
theorem dX9_burnt_15 : decode cX9_burnt 15 = .ok (.lload_n 1, 1) := by decide +kernel
theorem dX9_burnt_16 : decode cX9_burnt 16 = .ok (.invokevirtual 171, 3) := by decide +kernel
theorem dX9_burnt_19 : decode cX9_burnt 19 = .ok (.ireturn, 1) := by decide +kernel
theorem dX9_save_0 : decode cX9_save 0 = .ok (.aload_n 0, 1) := by decide +kernel
theorem dX9_save_1 : decode cX9_save 1 = .ok (.getfield 12, 3) := by decide +kernel
theorem dX9_save_4 : decode cX9_save 4 = .ok (.iload_n 1, 1) := by decide +kernel
theorem dX9_save_5 : decode cX9_save 5 = .ok (.invokevirtual 115, 3) := by decide +kernel
theorem dX9_save_8 : decode cX9_save 8 = .ok (.ifCond .eq 15, 3) := by decide +kernel
theorem dX9_save_11 : decode cX9_save 11 = .ok (.aload_n 0, 1) := by decide +kernel
theorem dX9_save_12 : decode cX9_save 12 = .ok (.getfield 12, 3) := by decide +kernel
theorem dX9_save_15 : decode cX9_save 15 = .ok (.getfield 76, 3) := by decide +kernel
theorem dX9_save_18 : decode cX9_save 18 = .ok (.bipush 10, 2) := by decide +kernel
theorem dX9_save_20 : decode cX9_save 20 = .ok (.if_icmp .le 6, 3) := by decide +kernel
theorem dX9_save_23 : decode cX9_save 23 = .ok (.bipush (-2), 2) := by decide +kernel
theorem dX9_save_25 : decode cX9_save 25 = .ok (.ireturn, 1) := by decide +kernel
theorem dX9_save_26 : decode cX9_save 26 = .ok (.aload_n 0, 1) := by decide +kernel
theorem dX9_save_27 : decode cX9_save 27 = .ok (.getfield 58, 3) := by decide +kernel
theorem dX9_save_30 : decode cX9_save 30 = .ok (.iload_n 1, 1) := by decide +kernel
theorem dX9_save_31 : decode cX9_save 31 = .ok (.invokevirtual 175, 3) := by decide +kernel
theorem dX9_save_34 : decode cX9_save 34 = .ok (.ireturn, 1) := by decide +kernel
theorem dX9_wall_0 : decode cX9_wall 0 = .ok (.aload_n 0, 1) := by decide +kernel
theorem dX9_wall_1 : decode cX9_wall 1 = .ok (.getfield 12, 3) := by decide +kernel
theorem dX9_wall_4 : decode cX9_wall 4 = .ok (.iload_n 1, 1) := by decide +kernel
theorem dX9_wall_5 : decode cX9_wall 5 = .ok (.invokevirtual 115, 3) := by decide +kernel
theorem dX9_wall_8 : decode cX9_wall 8 = .ok (.ifCond .eq 15, 3) := by decide +kernel
theorem dX9_wall_11 : decode cX9_wall 11 = .ok (.aload_n 0, 1) := by decide +kernel
theorem dX9_wall_12 : decode cX9_wall 12 = .ok (.getfield 12, 3) := by decide +kernel
theorem dX9_wall_15 : decode cX9_wall 15 = .ok (.getfield 76, 3) := by decide +kernel
theorem dX9_wall_18 : decode cX9_wall 18 = .ok (.bipush 10, 2) := by decide +kernel
theorem dX9_wall_20 : decode cX9_wall 20 = .ok (.if_icmp .le 6, 3) := by decide +kernel
theorem dX9_wall_23 : decode cX9_wall 23 = .ok (.bipush (-2), 2) := by decide +kernel
theorem dX9_wall_25 : decode cX9_wall 25 = .ok (.ireturn, 1) := by decide +kernel
theorem dX9_wall_26 : decode cX9_wall 26 = .ok (.aload_n 0, 1) := by decide +kernel
theorem dX9_wall_27 : decode cX9_wall 27 = .ok (.getfield 58, 3) := by decide +kernel
theorem dX9_wall_30 : decode cX9_wall 30 = .ok (.iload_n 1, 1) := by decide +kernel
theorem dX9_wall_31 : decode cX9_wall 31 = .ok (.iload_n 2, 1) := by decide +kernel
theorem dX9_wall_32 : decode cX9_wall 32 = .ok (.invokevirtual 178, 3) := by decide +kernel
theorem dX9_wall_35 : decode cX9_wall 35 = .ok (.ireturn, 1) := by decide +kernel
theorem dX9_holds_0 : decode cX9_holds 0 = .ok (.aload_n 0, 1) := by decide +kernel
theorem dX9_holds_1 : decode cX9_holds 1 = .ok (.getfield 12, 3) := by decide +kernel
theorem dX9_holds_4 : decode cX9_holds 4 = .ok (.iload_n 1, 1) := by decide +kernel
theorem dX9_holds_5 : decode cX9_holds 5 = .ok (.invokevirtual 115, 3) := by decide +kernel
theorem dX9_holds_8 : decode cX9_holds 8 = .ok (.ifCond .ne 6, 3) := by decide +kernel
theorem dX9_holds_11 : decode cX9_holds 11 = .ok (.bipush (-2), 2) := by decide +kernel
theorem dX9_holds_13 : decode cX9_holds 13 = .ok (.ireturn, 1) := by decide +kernel
theorem dX9_holds_14 : decode cX9_holds 14 = .ok (.aload_n 0, 1) := by decide +kernel
theorem dX9_holds_15 : decode cX9_holds 15 = .ok (.getfield 65, 3) := by decide +kernel
theorem dX9_holds_18 : decode cX9_holds 18 = .ok (.invokevirtual 181, 3) := by decide +kernel
theorem dX9_holds_21 : decode cX9_holds 21 = .ok (.iload_n 1, 1) := by decide +kernel
theorem dX9_holds_22 : decode cX9_holds 22 = .ok (.baload, 1) := by decide +kernel
theorem dX9_holds_23 : decode cX9_holds 23 = .ok (.ifCond .eq 7, 3) := by decide +kernel
theorem dX9_holds_26 : decode cX9_holds 26 = .ok (.iconst 1, 1) := by decide +kernel
theorem dX9_holds_27 : decode cX9_holds 27 = .ok (.goto 4, 3) := by decide +kernel
theorem dX9_holds_30 : decode cX9_holds 30 = .ok (.iconst 0, 1) := by decide +kernel
theorem dX9_holds_31 : decode cX9_holds 31 = .ok (.ireturn, 1) := by decide +kernel
theorem dX9_guards_0 : decode cX9_guards 0 = .ok (.aload_n 0, 1) := by decide +kernel
theorem dX9_guards_1 : decode cX9_guards 1 = .ok (.getfield 65, 3) := by decide +kernel
theorem dX9_guards_4 : decode cX9_guards 4 = .ok (.invokevirtual 185, 3) := by decide +kernel
theorem dX9_guards_7 : decode cX9_guards 7 = .ok (.ireturn, 1) := by decide +kernel
theorem dX9_answer_0 : decode cX9_answer 0 = .ok (.aload_n 0, 1) := by decide +kernel
theorem dX9_answer_1 : decode cX9_answer 1 = .ok (.getfield 12, 3) := by decide +kernel
theorem dX9_answer_4 : decode cX9_answer 4 = .ok (.iload_n 1, 1) := by decide +kernel
theorem dX9_answer_5 : decode cX9_answer 5 = .ok (.invokevirtual 115, 3) := by decide +kernel
theorem dX9_answer_8 : decode cX9_answer 8 = .ok (.ifCond .eq 14, 3) := by decide +kernel
theorem dX9_answer_11 : decode cX9_answer 11 = .ok (.aload_n 0, 1) := by decide +kernel
theorem dX9_answer_12 : decode cX9_answer 12 = .ok (.getfield 12, 3) := by decide +kernel
theorem dX9_answer_15 : decode cX9_answer 15 = .ok (.iload_n 2, 1) := by decide +kernel
theorem dX9_answer_16 : decode cX9_answer 16 = .ok (.invokevirtual 84, 3) := by decide +kernel
theorem dX9_answer_19 : decode cX9_answer 19 = .ok (.ifCond .ne 6, 3) := by decide +kernel
theorem dX9_answer_22 : decode cX9_answer 22 = .ok (.bipush (-2), 2) := by decide +kernel
theorem dX9_answer_24 : decode cX9_answer 24 = .ok (.ireturn, 1) := by decide +kernel
theorem dX9_answer_25 : decode cX9_answer 25 = .ok (.aload_n 0, 1) := by decide +kernel
theorem dX9_answer_26 : decode cX9_answer 26 = .ok (.getfield 65, 3) := by decide +kernel
theorem dX9_answer_29 : decode cX9_answer 29 = .ok (.iload_n 1, 1) := by decide +kernel
theorem dX9_answer_30 : decode cX9_answer 30 = .ok (.iload_n 2, 1) := by decide +kernel
theorem dX9_answer_31 : decode cX9_answer 31 = .ok (.invokevirtual 188, 3) := by decide +kernel
theorem dX9_answer_34 : decode cX9_answer 34 = .ok (.ireturn, 1) := by decide +kernel
theorem dX9_win_0 : decode cX9_win 0 = .ok (.iload_n 1, 1) := by decide +kernel
theorem dX9_win_1 : decode cX9_win 1 = .ok (.invokestatic 112, 3) := by decide +kernel
theorem dX9_win_4 : decode cX9_win 4 = .ok (.ifCond .eq 14, 3) := by decide +kernel
theorem dX9_win_7 : decode cX9_win 7 = .ok (.aload_n 0, 1) := by decide +kernel
theorem dX9_win_8 : decode cX9_win 8 = .ok (.getfield 12, 3) := by decide +kernel
theorem dX9_win_11 : decode cX9_win 11 = .ok (.iload_n 2, 1) := by decide +kernel
theorem dX9_win_12 : decode cX9_win 12 = .ok (.invokevirtual 115, 3) := by decide +kernel
theorem dX9_win_15 : decode cX9_win 15 = .ok (.ifCond .ne 6, 3) := by decide +kernel
theorem dX9_win_18 : decode cX9_win 18 = .ok (.bipush (-2), 2) := by decide +kernel
theorem dX9_win_20 : decode cX9_win 20 = .ok (.ireturn, 1) := by decide +kernel
theorem dX9_win_21 : decode cX9_win 21 = .ok (.aload_n 0, 1) := by decide +kernel
theorem dX9_win_22 : decode cX9_win 22 = .ok (.getfield 72, 3) := by decide +kernel
theorem dX9_win_25 : decode cX9_win 25 = .ok (.iload_n 1, 1) := by decide +kernel
theorem dX9_win_26 : decode cX9_win 26 = .ok (.invokevirtual 191, 3) := by decide +kernel
theorem dX9_win_29 : decode cX9_win 29 = .ok (.iload_n 2, 1) := by decide +kernel
theorem dX9_win_30 : decode cX9_win 30 = .ok (.baload, 1) := by decide +kernel
theorem dX9_win_31 : decode cX9_win 31 = .ok (.ireturn, 1) := by decide +kernel
theorem dX9_first_0 : decode cX9_first 0 = .ok (.iload_n 1, 1) := by decide +kernel
theorem dX9_first_1 : decode cX9_first 1 = .ok (.invokestatic 112, 3) := by decide +kernel
theorem dX9_first_4 : decode cX9_first 4 = .ok (.ifCond .eq 14, 3) := by decide +kernel
theorem dX9_first_7 : decode cX9_first 7 = .ok (.aload_n 0, 1) := by decide +kernel
theorem dX9_first_8 : decode cX9_first 8 = .ok (.getfield 12, 3) := by decide +kernel
theorem dX9_first_11 : decode cX9_first 11 = .ok (.iload_n 2, 1) := by decide +kernel
theorem dX9_first_12 : decode cX9_first 12 = .ok (.invokevirtual 115, 3) := by decide +kernel
theorem dX9_first_15 : decode cX9_first 15 = .ok (.ifCond .ne 6, 3) := by decide +kernel
theorem dX9_first_18 : decode cX9_first 18 = .ok (.bipush (-2), 2) := by decide +kernel
theorem dX9_first_20 : decode cX9_first 20 = .ok (.ireturn, 1) := by decide +kernel
theorem dX9_first_21 : decode cX9_first 21 = .ok (.aload_n 0, 1) := by decide +kernel
theorem dX9_first_22 : decode cX9_first 22 = .ok (.getfield 72, 3) := by decide +kernel
theorem dX9_first_25 : decode cX9_first 25 = .ok (.aload_n 0, 1) := by decide +kernel
theorem dX9_first_26 : decode cX9_first 26 = .ok (.getfield 72, 3) := by decide +kernel
theorem dX9_first_29 : decode cX9_first 29 = .ok (.iload_n 1, 1) := by decide +kernel
theorem dX9_first_30 : decode cX9_first 30 = .ok (.invokevirtual 191, 3) := by decide +kernel
theorem dX9_first_33 : decode cX9_first 33 = .ok (.aload_n 0, 1) := by decide +kernel
theorem dX9_first_34 : decode cX9_first 34 = .ok (.getfield 21, 3) := by decide +kernel
theorem dX9_first_37 : decode cX9_first 37 = .ok (.iload_n 1, 1) := by decide +kernel
theorem dX9_first_38 : decode cX9_first 38 = .ok (.invokevirtual 148, 3) := by decide +kernel
theorem dX9_first_41 : decode cX9_first 41 = .ok (.iload_n 2, 1) := by decide +kernel
theorem dX9_first_42 : decode cX9_first 42 = .ok (.invokevirtual 195, 3) := by decide +kernel
theorem dX9_first_45 : decode cX9_first 45 = .ok (.ireturn, 1) := by decide +kernel
theorem dX9_count_0 : decode cX9_count 0 = .ok (.aload_n 0, 1) := by decide +kernel
theorem dX9_count_1 : decode cX9_count 1 = .ok (.getfield 12, 3) := by decide +kernel
theorem dX9_count_4 : decode cX9_count 4 = .ok (.getfield 76, 3) := by decide +kernel
theorem dX9_count_7 : decode cX9_count 7 = .ok (.ireturn, 1) := by decide +kernel
theorem dX9_isRule_0 : decode cX9_isRule 0 = .ok (.iload_n 0, 1) := by decide +kernel
theorem dX9_isRule_1 : decode cX9_isRule 1 = .ok (.ifCond .lt 12, 3) := by decide +kernel
theorem dX9_isRule_4 : decode cX9_isRule 4 = .ok (.iload_n 0, 1) := by decide +kernel
theorem dX9_isRule_5 : decode cX9_isRule 5 = .ok (.iconst 3, 1) := by decide +kernel
theorem dX9_isRule_6 : decode cX9_isRule 6 = .ok (.if_icmp .ge 7, 3) := by decide +kernel
theorem dX9_isRule_9 : decode cX9_isRule 9 = .ok (.iconst 1, 1) := by decide +kernel
theorem dX9_isRule_10 : decode cX9_isRule 10 = .ok (.goto 4, 3) := by decide +kernel
theorem dX9_isRule_13 : decode cX9_isRule 13 = .ok (.iconst 0, 1) := by decide +kernel
theorem dX9_isRule_14 : decode cX9_isRule 14 = .ok (.ireturn, 1) := by decide +kernel
theorem dX9_isPlainRule_0 : decode cX9_isPlainRule 0 = .ok (.iload_n 0, 1) := by decide +kernel
theorem dX9_isPlainRule_1 : decode cX9_isPlainRule 1 = .ok (.ifCond .lt 12, 3) := by decide +kernel
theorem dX9_isPlainRule_4 : decode cX9_isPlainRule 4 = .ok (.iload_n 0, 1) := by decide +kernel
theorem dX9_isPlainRule_5 : decode cX9_isPlainRule 5 = .ok (.iconst 2, 1) := by decide +kernel
theorem dX9_isPlainRule_6 : decode cX9_isPlainRule 6 = .ok (.if_icmp .ge 7, 3) := by decide +kernel
theorem dX9_isPlainRule_9 : decode cX9_isPlainRule 9 = .ok (.iconst 1, 1) := by decide +kernel
theorem dX9_isPlainRule_10 : decode cX9_isPlainRule 10 = .ok (.goto 4, 3) := by decide +kernel
theorem dX9_isPlainRule_13 : decode cX9_isPlainRule 13 = .ok (.iconst 0, 1) := by decide +kernel
theorem dX9_isPlainRule_14 : decode cX9_isPlainRule 14 = .ok (.ireturn, 1) := by decide +kernel
theorem dX9_hasPost_0 : decode cX9_hasPost 0 = .ok (.iload_n 0, 1) := by decide +kernel
theorem dX9_hasPost_1 : decode cX9_hasPost 1 = .ok (.iload_n 1, 1) := by decide +kernel
theorem dX9_hasPost_2 : decode cX9_hasPost 2 = .ok (.ishr, 1) := by decide +kernel
theorem dX9_hasPost_3 : decode cX9_hasPost 3 = .ok (.iconst 1, 1) := by decide +kernel
theorem dX9_hasPost_4 : decode cX9_hasPost 4 = .ok (.iand, 1) := by decide +kernel
theorem dX9_hasPost_5 : decode cX9_hasPost 5 = .ok (.ifCond .eq 7, 3) := by decide +kernel
theorem dX9_hasPost_8 : decode cX9_hasPost 8 = .ok (.iconst 1, 1) := by decide +kernel
theorem dX9_hasPost_9 : decode cX9_hasPost 9 = .ok (.goto 4, 3) := by decide +kernel
theorem dX9_hasPost_12 : decode cX9_hasPost 12 = .ok (.iconst 0, 1) := by decide +kernel
theorem dX9_hasPost_13 : decode cX9_hasPost 13 = .ok (.ireturn, 1) := by decide +kernel
end
section
theorem dX10_init_0 : decode cX10_init 0 = .ok (.aload_n 0, 1) := by decide +kernel
theorem dX10_init_1 : decode cX10_init 1 = .ok (.invokespecial 1, 3) := by decide +kernel
theorem dX10_init_4 : decode cX10_init 4 = .ok (.aload_n 0, 1) := by decide +kernel
theorem dX10_init_5 : decode cX10_init 5 = .ok (.sipush 144, 3) := by decide +kernel
theorem dX10_init_8 : decode cX10_init 8 = .ok (.newarray .int, 2) := by decide +kernel
theorem dX10_init_10 : decode cX10_init 10 = .ok (.putfield 7, 3) := by decide +kernel
theorem dX10_init_13 : decode cX10_init 13 = .ok (.aload_n 0, 1) := by decide +kernel
theorem dX10_init_14 : decode cX10_init 14 = .ok (.bipush 12, 2) := by decide +kernel
theorem dX10_init_16 : decode cX10_init 16 = .ok (.newarray .int, 2) := by decide +kernel
theorem dX10_init_18 : decode cX10_init 18 = .ok (.putfield 13, 3) := by decide +kernel
theorem dX10_init_21 : decode cX10_init 21 = .ok (.aload_n 0, 1) := by decide +kernel
theorem dX10_init_22 : decode cX10_init 22 = .ok (.bipush 12, 2) := by decide +kernel
theorem dX10_init_24 : decode cX10_init 24 = .ok (.newarray .int, 2) := by decide +kernel
theorem dX10_init_26 : decode cX10_init 26 = .ok (.putfield 16, 3) := by decide +kernel
theorem dX10_init_29 : decode cX10_init 29 = .ok (.aload_n 0, 1) := by decide +kernel
theorem dX10_init_30 : decode cX10_init 30 = .ok (.bipush 12, 2) := by decide +kernel
theorem dX10_init_32 : decode cX10_init 32 = .ok (.newarray .int, 2) := by decide +kernel
theorem dX10_init_34 : decode cX10_init 34 = .ok (.putfield 19, 3) := by decide +kernel
theorem dX10_init_37 : decode cX10_init 37 = .ok (.aload_n 0, 1) := by decide +kernel
theorem dX10_init_38 : decode cX10_init 38 = .ok (.bipush 40, 2) := by decide +kernel
theorem dX10_init_40 : decode cX10_init 40 = .ok (.newarray .int, 2) := by decide +kernel
theorem dX10_init_42 : decode cX10_init 42 = .ok (.putfield 22, 3) := by decide +kernel
theorem dX10_init_45 : decode cX10_init 45 = .ok (.aload_n 0, 1) := by decide +kernel
theorem dX10_init_46 : decode cX10_init 46 = .ok (.sipush 12288, 3) := by decide +kernel
theorem dX10_init_49 : decode cX10_init 49 = .ok (.newarray .int, 2) := by decide +kernel
theorem dX10_init_51 : decode cX10_init 51 = .ok (.putfield 25, 3) := by decide +kernel
theorem dX10_init_54 : decode cX10_init 54 = .ok (.aload_n 0, 1) := by decide +kernel
theorem dX10_init_55 : decode cX10_init 55 = .ok (.sipush 8192, 3) := by decide +kernel
theorem dX10_init_58 : decode cX10_init 58 = .ok (.newarray .boolean, 2) := by decide +kernel
theorem dX10_init_60 : decode cX10_init 60 = .ok (.putfield 28, 3) := by decide +kernel
theorem dX10_init_63 : decode cX10_init 63 = .ok (.aload_n 0, 1) := by decide +kernel
theorem dX10_init_64 : decode cX10_init 64 = .ok (.sipush 4096, 3) := by decide +kernel
theorem dX10_init_67 : decode cX10_init 67 = .ok (.newarray .int, 2) := by decide +kernel
theorem dX10_init_69 : decode cX10_init 69 = .ok (.putfield 32, 3) := by decide +kernel
theorem dX10_init_72 : decode cX10_init 72 = .ok (.aload_n 0, 1) := by decide +kernel
theorem dX10_init_73 : decode cX10_init 73 = .ok (.sipush 4096, 3) := by decide +kernel
theorem dX10_init_76 : decode cX10_init 76 = .ok (.newarray .int, 2) := by decide +kernel
theorem dX10_init_78 : decode cX10_init 78 = .ok (.putfield 35, 3) := by decide +kernel
theorem dX10_init_81 : decode cX10_init 81 = .ok (.aload_n 0, 1) := by decide +kernel
theorem dX10_init_82 : decode cX10_init 82 = .ok (.ldc 38, 2) := by decide +kernel
theorem dX10_init_84 : decode cX10_init 84 = .ok (.newarray .int, 2) := by decide +kernel
theorem dX10_init_86 : decode cX10_init 86 = .ok (.putfield 39, 3) := by decide +kernel
theorem dX10_init_89 : decode cX10_init 89 = .ok (.aload_n 0, 1) := by decide +kernel
theorem dX10_init_90 : decode cX10_init 90 = .ok (.sipush 4096, 3) := by decide +kernel
theorem dX10_init_93 : decode cX10_init 93 = .ok (.newarray .boolean, 2) := by decide +kernel
theorem dX10_init_95 : decode cX10_init 95 = .ok (.putfield 42, 3) := by decide +kernel
theorem dX10_init_98 : decode cX10_init 98 = .ok (.aload_n 0, 1) := by decide +kernel
theorem dX10_init_99 : decode cX10_init 99 = .ok (.sipush 12288, 3) := by decide +kernel
theorem dX10_init_102 : decode cX10_init 102 = .ok (.newarray .boolean, 2) := by decide +kernel
theorem dX10_init_104 : decode cX10_init 104 = .ok (.putfield 45, 3) := by decide +kernel
theorem dX10_init_107 : decode cX10_init 107 = .ok (.return_, 1) := by decide +kernel
theorem dX10_in_0 : decode cX10_in 0 = .ok (.iload_n 0, 1) := by decide +kernel
theorem dX10_in_1 : decode cX10_in 1 = .ok (.iload_n 1, 1) := by decide +kernel
theorem dX10_in_2 : decode cX10_in 2 = .ok (.if_icmp .lt 12, 3) := by decide +kernel
theorem dX10_in_5 : decode cX10_in 5 = .ok (.iload_n 0, 1) := by decide +kernel
theorem dX10_in_6 : decode cX10_in 6 = .ok (.iload_n 2, 1) := by decide +kernel
theorem dX10_in_7 : decode cX10_in 7 = .ok (.if_icmp .gt 7, 3) := by decide +kernel
theorem dX10_in_10 : decode cX10_in 10 = .ok (.iconst 1, 1) := by decide +kernel
theorem dX10_in_11 : decode cX10_in 11 = .ok (.goto 4, 3) := by decide +kernel
theorem dX10_in_14 : decode cX10_in 14 = .ok (.iconst 0, 1) := by decide +kernel
theorem dX10_in_15 : decode cX10_in 15 = .ok (.ireturn, 1) := by decide +kernel
theorem dX10_isPost_0 : decode cX10_isPost 0 = .ok (.iload_n 1, 1) := by decide +kernel
theorem dX10_isPost_1 : decode cX10_isPost 1 = .ok (.iconst 0, 1) := by decide +kernel
theorem dX10_isPost_2 : decode cX10_isPost 2 = .ok (.aload_n 0, 1) := by decide +kernel
theorem dX10_isPost_3 : decode cX10_isPost 3 = .ok (.getfield 48, 3) := by decide +kernel
theorem dX10_isPost_6 : decode cX10_isPost 6 = .ok (.iconst 1, 1) := by decide +kernel
theorem dX10_isPost_7 : decode cX10_isPost 7 = .ok (.isub, 1) := by decide +kernel
theorem dX10_isPost_8 : decode cX10_isPost 8 = .ok (.invokestatic 52, 3) := by decide +kernel
theorem dX10_isPost_11 : decode cX10_isPost 11 = .ok (.ireturn, 1) := by decide +kernel
theorem dX10_isSet_0 : decode cX10_isSet 0 = .ok (.iload_n 1, 1) := by decide +kernel
theorem dX10_isSet_1 : decode cX10_isSet 1 = .ok (.ifCond .lt 17, 3) := by decide +kernel
theorem dX10_isSet_4 : decode cX10_isSet 4 = .ok (.iload_n 1, 1) := by decide +kernel
theorem dX10_isSet_5 : decode cX10_isSet 5 = .ok (.iconst 1, 1) := by decide +kernel
theorem dX10_isSet_6 : decode cX10_isSet 6 = .ok (.aload_n 0, 1) := by decide +kernel
theorem dX10_isSet_7 : decode cX10_isSet 7 = .ok (.getfield 48, 3) := by decide +kernel
theorem dX10_isSet_10 : decode cX10_isSet 10 = .ok (.ishl, 1) := by decide +kernel
theorem dX10_isSet_11 : decode cX10_isSet 11 = .ok (.if_icmp .ge 7, 3) := by decide +kernel
theorem dX10_isSet_14 : decode cX10_isSet 14 = .ok (.iconst 1, 1) := by decide +kernel
theorem dX10_isSet_15 : decode cX10_isSet 15 = .ok (.goto 4, 3) := by decide +kernel
theorem dX10_isSet_18 : decode cX10_isSet 18 = .ok (.iconst 0, 1) := by decide +kernel
theorem dX10_isSet_19 : decode cX10_isSet 19 = .ok (.ireturn, 1) := by decide +kernel
theorem dX10_all_0 : decode cX10_all 0 = .ok (.iconst 1, 1) := by decide +kernel
theorem dX10_all_1 : decode cX10_all 1 = .ok (.aload_n 0, 1) := by decide +kernel
theorem dX10_all_2 : decode cX10_all 2 = .ok (.getfield 48, 3) := by decide +kernel
theorem dX10_all_5 : decode cX10_all 5 = .ok (.ishl, 1) := by decide +kernel
theorem dX10_all_6 : decode cX10_all 6 = .ok (.iconst 1, 1) := by decide +kernel
theorem dX10_all_7 : decode cX10_all 7 = .ok (.isub, 1) := by decide +kernel
theorem dX10_all_8 : decode cX10_all 8 = .ok (.ireturn, 1) := by decide +kernel
theorem dX10_has_0 : decode cX10_has 0 = .ok (.iload_n 0, 1) := by decide +kernel
theorem dX10_has_1 : decode cX10_has 1 = .ok (.iload_n 1, 1) := by decide +kernel
theorem dX10_has_2 : decode cX10_has 2 = .ok (.ishr, 1) := by decide +kernel
theorem dX10_has_3 : decode cX10_has 3 = .ok (.iconst 1, 1) := by decide +kernel
theorem dX10_has_4 : decode cX10_has 4 = .ok (.iand, 1) := by decide +kernel
theorem dX10_has_5 : decode cX10_has 5 = .ok (.iconst 1, 1) := by decide +kernel
theorem dX10_has_6 : decode cX10_has 6 = .ok (.if_icmp .ne 7, 3) := by decide +kernel
theorem dX10_has_9 : decode cX10_has 9 = .ok (.iconst 1, 1) := by decide +kernel
theorem dX10_has_10 : decode cX10_has 10 = .ok (.goto 4, 3) := by decide +kernel
theorem dX10_has_13 : decode cX10_has 13 = .ok (.iconst 0, 1) := by decide +kernel
theorem dX10_has_14 : decode cX10_has 14 = .ok (.ireturn, 1) := by decide +kernel
theorem dX10_ones_0 : decode cX10_ones 0 = .ok (.iconst 0, 1) := by decide +kernel
theorem dX10_ones_1 : decode cX10_ones 1 = .ok (.istore_n 1, 1) := by decide +kernel
theorem dX10_ones_2 : decode cX10_ones 2 = .ok (.iconst 0, 1) := by decide +kernel
theorem dX10_ones_3 : decode cX10_ones 3 = .ok (.istore_n 2, 1) := by decide +kernel
theorem dX10_ones_4 : decode cX10_ones 4 = .ok (.iload_n 2, 1) := by decide +kernel
theorem dX10_ones_5 : decode cX10_ones 5 = .ok (.bipush 12, 2) := by decide +kernel
theorem dX10_ones_7 : decode cX10_ones 7 = .ok (.if_icmp .ge 17, 3) := by decide +kernel
theorem dX10_ones_10 : decode cX10_ones 10 = .ok (.iload_n 1, 1) := by decide +kernel
theorem dX10_ones_11 : decode cX10_ones 11 = .ok (.iload_n 0, 1) := by decide +kernel
theorem dX10_ones_12 : decode cX10_ones 12 = .ok (.iload_n 2, 1) := by decide +kernel
theorem dX10_ones_13 : decode cX10_ones 13 = .ok (.ishr, 1) := by decide +kernel
theorem dX10_ones_14 : decode cX10_ones 14 = .ok (.iconst 1, 1) := by decide +kernel
theorem dX10_ones_15 : decode cX10_ones 15 = .ok (.iand, 1) := by decide +kernel
theorem dX10_ones_16 : decode cX10_ones 16 = .ok (.iadd, 1) := by decide +kernel
theorem dX10_ones_17 : decode cX10_ones 17 = .ok (.istore_n 1, 1) := by decide +kernel
theorem dX10_ones_18 : decode cX10_ones 18 = .ok (.iinc 2 1, 3) := by decide +kernel
theorem dX10_ones_21 : decode cX10_ones 21 = .ok (.goto (-17), 3) := by decide +kernel
theorem dX10_ones_24 : decode cX10_ones 24 = .ok (.iload_n 1, 1) := by decide +kernel
theorem dX10_ones_25 : decode cX10_ones 25 = .ok (.ireturn, 1) := by decide +kernel
theorem dX10_post_0 : decode cX10_post 0 = .ok (.aload_n 0, 1) := by decide +kernel
theorem dX10_post_1 : decode cX10_post 1 = .ok (.getfield 48, 3) := by decide +kernel
theorem dX10_post_4 : decode cX10_post 4 = .ok (.bipush 12, 2) := by decide +kernel
theorem dX10_post_6 : decode cX10_post 6 = .ok (.if_icmp .ne 6, 3) := by decide +kernel
theorem dX10_post_9 : decode cX10_post 9 = .ok (.bipush (-2), 2) := by decide +kernel
theorem dX10_post_11 : decode cX10_post 11 = .ok (.ireturn, 1) := by decide +kernel
theorem dX10_post_12 : decode cX10_post 12 = .ok (.aload_n 0, 1) := by decide +kernel
theorem dX10_post_13 : decode cX10_post 13 = .ok (.getfield 13, 3) := by decide +kernel
theorem dX10_post_16 : decode cX10_post 16 = .ok (.aload_n 0, 1) := by decide +kernel
theorem dX10_post_17 : decode cX10_post 17 = .ok (.getfield 48, 3) := by decide +kernel
theorem dX10_post_20 : decode cX10_post 20 = .ok (.iconst 1, 1) := by decide +kernel
theorem dX10_post_21 : decode cX10_post 21 = .ok (.iastore, 1) := by decide +kernel
theorem dX10_post_22 : decode cX10_post 22 = .ok (.aload_n 0, 1) := by decide +kernel
theorem dX10_post_23 : decode cX10_post 23 = .ok (.getfield 16, 3) := by decide +kernel
theorem dX10_post_26 : decode cX10_post 26 = .ok (.aload_n 0, 1) := by decide +kernel
theorem dX10_post_27 : decode cX10_post 27 = .ok (.getfield 48, 3) := by decide +kernel
theorem dX10_post_30 : decode cX10_post 30 = .ok (.iconst 1, 1) := by decide +kernel
theorem dX10_post_31 : decode cX10_post 31 = .ok (.iastore, 1) := by decide +kernel
theorem dX10_post_32 : decode cX10_post 32 = .ok (.aload_n 0, 1) := by decide +kernel
theorem dX10_post_33 : decode cX10_post 33 = .ok (.getfield 19, 3) := by decide +kernel
theorem dX10_post_36 : decode cX10_post 36 = .ok (.aload_n 0, 1) := by decide +kernel
theorem dX10_post_37 : decode cX10_post 37 = .ok (.getfield 48, 3) := by decide +kernel
theorem dX10_post_40 : decode cX10_post 40 = .ok (.iconst 0, 1) := by decide +kernel
theorem dX10_post_41 : decode cX10_post 41 = .ok (.iastore, 1) := by decide +kernel
theorem dX10_post_42 : decode cX10_post 42 = .ok (.aload_n 0, 1) := by decide +kernel
theorem dX10_post_43 : decode cX10_post 43 = .ok (.dup, 1) := by decide +kernel
theorem dX10_post_44 : decode cX10_post 44 = .ok (.getfield 48, 3) := by decide +kernel
theorem dX10_post_47 : decode cX10_post 47 = .ok (.iconst 1, 1) := by decide +kernel
theorem dX10_post_48 : decode cX10_post 48 = .ok (.iadd, 1) := by decide +kernel
theorem dX10_post_49 : decode cX10_post 49 = .ok (.putfield 48, 3) := by decide +kernel
theorem dX10_post_52 : decode cX10_post 52 = .ok (.aload_n 0, 1) := by decide +kernel
theorem dX10_post_53 : decode cX10_post 53 = .ok (.iconst 0, 1) := by decide +kernel
theorem dX10_post_54 : decode cX10_post 54 = .ok (.putfield 56, 3) := by decide +kernel
theorem dX10_post_57 : decode cX10_post 57 = .ok (.aload_n 0, 1) := by decide +kernel
theorem dX10_post_58 : decode cX10_post 58 = .ok (.getfield 48, 3) := by decide +kernel
theorem dX10_post_61 : decode cX10_post 61 = .ok (.iconst 1, 1) := by decide +kernel
theorem dX10_post_62 : decode cX10_post 62 = .ok (.isub, 1) := by decide +kernel
theorem dX10_post_63 : decode cX10_post 63 = .ok (.ireturn, 1) := by decide +kernel
theorem dX10_road_0 : decode cX10_road 0 = .ok (.aload_n 0, 1) := by decide +kernel
theorem dX10_road_1 : decode cX10_road 1 = .ok (.iload_n 1, 1) := by decide +kernel
theorem dX10_road_2 : decode cX10_road 2 = .ok (.invokevirtual 59, 3) := by decide +kernel
theorem dX10_road_5 : decode cX10_road 5 = .ok (.ifCond .eq 26, 3) := by decide +kernel
theorem dX10_road_8 : decode cX10_road 8 = .ok (.aload_n 0, 1) := by decide +kernel
theorem dX10_road_9 : decode cX10_road 9 = .ok (.iload_n 2, 1) := by decide +kernel
theorem dX10_road_10 : decode cX10_road 10 = .ok (.invokevirtual 59, 3) := by decide +kernel
theorem dX10_road_13 : decode cX10_road 13 = .ok (.ifCond .eq 18, 3) := by decide +kernel
theorem dX10_road_16 : decode cX10_road 16 = .ok (.iload_n 1, 1) := by decide +kernel
theorem dX10_road_17 : decode cX10_road 17 = .ok (.iload_n 2, 1) := by decide +kernel
theorem dX10_road_18 : decode cX10_road 18 = .ok (.if_icmp .eq 13, 3) := by decide +kernel
theorem dX10_road_21 : decode cX10_road 21 = .ok (.iload_n 3, 1) := by decide +kernel
theorem dX10_road_22 : decode cX10_road 22 = .ok (.iconst 0, 1) := by decide +kernel
theorem dX10_road_23 : decode cX10_road 23 = .ok (.bipush 9, 2) := by decide +kernel
theorem dX10_road_25 : decode cX10_road 25 = .ok (.invokestatic 52, 3) := by decide +kernel
theorem dX10_road_28 : decode cX10_road 28 = .ok (.ifCond .ne 6, 3) := by decide +kernel
theorem dX10_road_31 : decode cX10_road 31 = .ok (.bipush (-2), 2) := by decide +kernel
theorem dX10_road_33 : decode cX10_road 33 = .ok (.ireturn, 1) := by decide +kernel
theorem dX10_road_34 : decode cX10_road 34 = .ok (.aload_n 0, 1) := by decide +kernel
theorem dX10_road_35 : decode cX10_road 35 = .ok (.getfield 7, 3) := by decide +kernel
theorem dX10_road_38 : decode cX10_road 38 = .ok (.bipush 12, 2) := by decide +kernel
theorem dX10_road_40 : decode cX10_road 40 = .ok (.iload_n 1, 1) := by decide +kernel
theorem dX10_road_41 : decode cX10_road 41 = .ok (.imul, 1) := by decide +kernel
theorem dX10_road_42 : decode cX10_road 42 = .ok (.iload_n 2, 1) := by decide +kernel
theorem dX10_road_43 : decode cX10_road 43 = .ok (.iadd, 1) := by decide +kernel
theorem dX10_road_44 : decode cX10_road 44 = .ok (.iaload, 1) := by decide +kernel
theorem dX10_road_45 : decode cX10_road 45 = .ok (.istore 4, 2) := by decide +kernel
theorem dX10_road_47 : decode cX10_road 47 = .ok (.aload_n 0, 1) := by decide +kernel
theorem dX10_road_48 : decode cX10_road 48 = .ok (.getfield 7, 3) := by decide +kernel
theorem dX10_road_51 : decode cX10_road 51 = .ok (.bipush 12, 2) := by decide +kernel
theorem dX10_road_53 : decode cX10_road 53 = .ok (.iload_n 1, 1) := by decide +kernel
theorem dX10_road_54 : decode cX10_road 54 = .ok (.imul, 1) := by decide +kernel
theorem dX10_road_55 : decode cX10_road 55 = .ok (.iload_n 2, 1) := by decide +kernel
theorem dX10_road_56 : decode cX10_road 56 = .ok (.iadd, 1) := by decide +kernel
theorem dX10_road_57 : decode cX10_road 57 = .ok (.iload_n 3, 1) := by decide +kernel
theorem dX10_road_58 : decode cX10_road 58 = .ok (.iastore, 1) := by decide +kernel
theorem dX10_road_59 : decode cX10_road 59 = .ok (.aload_n 0, 1) := by decide +kernel
theorem dX10_road_60 : decode cX10_road 60 = .ok (.getfield 19, 3) := by decide +kernel
theorem dX10_road_63 : decode cX10_road 63 = .ok (.iload_n 1, 1) := by decide +kernel
theorem dX10_road_64 : decode cX10_road 64 = .ok (.iload_n 3, 1) := by decide +kernel
theorem dX10_road_65 : decode cX10_road 65 = .ok (.ifCond .le 16, 3) := by decide +kernel
theorem dX10_road_68 : decode cX10_road 68 = .ok (.aload_n 0, 1) := by decide +kernel
theorem dX10_road_69 : decode cX10_road 69 = .ok (.getfield 19, 3) := by decide +kernel
theorem dX10_road_72 : decode cX10_road 72 = .ok (.iload_n 1, 1) := by decide +kernel
theorem dX10_road_73 : decode cX10_road 73 = .ok (.iaload, 1) := by decide +kernel
theorem dX10_road_74 : decode cX10_road 74 = .ok (.iconst 1, 1) := by decide +kernel
theorem dX10_road_75 : decode cX10_road 75 = .ok (.iload_n 2, 1) := by decide +kernel
theorem dX10_road_76 : decode cX10_road 76 = .ok (.ishl, 1) := by decide +kernel
theorem dX10_road_77 : decode cX10_road 77 = .ok (.ior, 1) := by decide +kernel
theorem dX10_road_78 : decode cX10_road 78 = .ok (.goto 15, 3) := by decide +kernel
theorem dX10_road_81 : decode cX10_road 81 = .ok (.aload_n 0, 1) := by decide +kernel
theorem dX10_road_82 : decode cX10_road 82 = .ok (.getfield 19, 3) := by decide +kernel
theorem dX10_road_85 : decode cX10_road 85 = .ok (.iload_n 1, 1) := by decide +kernel
theorem dX10_road_86 : decode cX10_road 86 = .ok (.iaload, 1) := by decide +kernel
theorem dX10_road_87 : decode cX10_road 87 = .ok (.iconst 1, 1) := by decide +kernel
theorem dX10_road_88 : decode cX10_road 88 = .ok (.iload_n 2, 1) := by decide +kernel
theorem dX10_road_89 : decode cX10_road 89 = .ok (.ishl, 1) := by decide +kernel
theorem dX10_road_90 : decode cX10_road 90 = .ok (.iconst (-1), 1) := by decide +kernel
theorem dX10_road_91 : decode cX10_road 91 = .ok (.ixor, 1) := by decide +kernel
theorem dX10_road_92 : decode cX10_road 92 = .ok (.iand, 1) := by decide +kernel
theorem dX10_road_93 : decode cX10_road 93 = .ok (.iastore, 1) := by decide +kernel
theorem dX10_road_94 : decode cX10_road 94 = .ok (.aload_n 0, 1) := by decide +kernel
theorem dX10_road_95 : decode cX10_road 95 = .ok (.iconst 0, 1) := by decide +kernel
theorem dX10_road_96 : decode cX10_road 96 = .ok (.putfield 56, 3) := by decide +kernel
theorem dX10_road_99 : decode cX10_road 99 = .ok (.iload 4, 2) := by decide +kernel
theorem dX10_road_101 : decode cX10_road 101 = .ok (.ireturn, 1) := by decide +kernel
theorem dX10_bar_0 : decode cX10_bar 0 = .ok (.aload_n 0, 1) := by decide +kernel
theorem dX10_bar_1 : decode cX10_bar 1 = .ok (.iload_n 1, 1) := by decide +kernel
theorem dX10_bar_2 : decode cX10_bar 2 = .ok (.invokevirtual 59, 3) := by decide +kernel
theorem dX10_bar_5 : decode cX10_bar 5 = .ok (.ifCond .eq 13, 3) := by decide +kernel
theorem dX10_bar_8 : decode cX10_bar 8 = .ok (.iload_n 2, 1) := by decide +kernel
theorem dX10_bar_9 : decode cX10_bar 9 = .ok (.iconst 0, 1) := by decide +kernel
theorem dX10_bar_10 : decode cX10_bar 10 = .ok (.bipush 99, 2) := by decide +kernel
theorem dX10_bar_12 : decode cX10_bar 12 = .ok (.invokestatic 52, 3) := by decide +kernel
theorem dX10_bar_15 : decode cX10_bar 15 = .ok (.ifCond .ne 6, 3) := by decide +kernel
theorem dX10_bar_18 : decode cX10_bar 18 = .ok (.bipush (-2), 2) := by decide +kernel
theorem dX10_bar_20 : decode cX10_bar 20 = .ok (.ireturn, 1) := by decide +kernel
theorem dX10_bar_21 : decode cX10_bar 21 = .ok (.aload_n 0, 1) := by decide +kernel
theorem dX10_bar_22 : decode cX10_bar 22 = .ok (.getfield 13, 3) := by decide +kernel
theorem dX10_bar_25 : decode cX10_bar 25 = .ok (.iload_n 1, 1) := by decide +kernel
theorem dX10_bar_26 : decode cX10_bar 26 = .ok (.iaload, 1) := by decide +kernel
theorem dX10_bar_27 : decode cX10_bar 27 = .ok (.istore_n 3, 1) := by decide +kernel
theorem dX10_bar_28 : decode cX10_bar 28 = .ok (.aload_n 0, 1) := by decide +kernel
theorem dX10_bar_29 : decode cX10_bar 29 = .ok (.getfield 13, 3) := by decide +kernel
theorem dX10_bar_32 : decode cX10_bar 32 = .ok (.iload_n 1, 1) := by decide +kernel
theorem dX10_bar_33 : decode cX10_bar 33 = .ok (.iload_n 2, 1) := by decide +kernel
theorem dX10_bar_34 : decode cX10_bar 34 = .ok (.iastore, 1) := by decide +kernel
theorem dX10_bar_35 : decode cX10_bar 35 = .ok (.aload_n 0, 1) := by decide +kernel
theorem dX10_bar_36 : decode cX10_bar 36 = .ok (.iconst 0, 1) := by decide +kernel
theorem dX10_bar_37 : decode cX10_bar 37 = .ok (.putfield 56, 3) := by decide +kernel
theorem dX10_bar_40 : decode cX10_bar 40 = .ok (.iload_n 3, 1) := by decide +kernel
theorem dX10_bar_41 : decode cX10_bar 41 = .ok (.ireturn, 1) := by decide +kernel
theorem dX10_price_0 : decode cX10_price 0 = .ok (.aload_n 0, 1) := by decide +kernel
theorem dX10_price_1 : decode cX10_price 1 = .ok (.iload_n 1, 1) := by decide +kernel
theorem dX10_price_2 : decode cX10_price 2 = .ok (.invokevirtual 59, 3) := by decide +kernel
theorem dX10_price_5 : decode cX10_price 5 = .ok (.ifCond .eq 14, 3) := by decide +kernel
theorem dX10_price_8 : decode cX10_price 8 = .ok (.iload_n 2, 1) := by decide +kernel
theorem dX10_price_9 : decode cX10_price 9 = .ok (.iconst 0, 1) := by decide +kernel
theorem dX10_price_10 : decode cX10_price 10 = .ok (.sipush 1000, 3) := by decide +kernel
theorem dX10_price_13 : decode cX10_price 13 = .ok (.invokestatic 52, 3) := by decide +kernel
theorem dX10_price_16 : decode cX10_price 16 = .ok (.ifCond .ne 6, 3) := by decide +kernel
theorem dX10_price_19 : decode cX10_price 19 = .ok (.bipush (-2), 2) := by decide +kernel
theorem dX10_price_21 : decode cX10_price 21 = .ok (.ireturn, 1) := by decide +kernel
theorem dX10_price_22 : decode cX10_price 22 = .ok (.aload_n 0, 1) := by decide +kernel
theorem dX10_price_23 : decode cX10_price 23 = .ok (.getfield 16, 3) := by decide +kernel
theorem dX10_price_26 : decode cX10_price 26 = .ok (.iload_n 1, 1) := by decide +kernel
theorem dX10_price_27 : decode cX10_price 27 = .ok (.iaload, 1) := by decide +kernel
theorem dX10_price_28 : decode cX10_price 28 = .ok (.istore_n 3, 1) := by decide +kernel
theorem dX10_price_29 : decode cX10_price 29 = .ok (.aload_n 0, 1) := by decide +kernel
theorem dX10_price_30 : decode cX10_price 30 = .ok (.getfield 16, 3) := by decide +kernel
theorem dX10_price_33 : decode cX10_price 33 = .ok (.iload_n 1, 1) := by decide +kernel
theorem dX10_price_34 : decode cX10_price 34 = .ok (.iload_n 2, 1) := by decide +kernel
theorem dX10_price_35 : decode cX10_price 35 = .ok (.iastore, 1) := by decide +kernel
theorem dX10_price_36 : decode cX10_price 36 = .ok (.iload_n 3, 1) := by decide +kernel
theorem dX10_price_37 : decode cX10_price 37 = .ok (.ireturn, 1) := by decide +kernel
theorem dX10_isKnown_0 : decode cX10_isKnown 0 = .ok (.aload_n 0, 1) := by decide +kernel
theorem dX10_isKnown_1 : decode cX10_isKnown 1 = .ok (.getfield 56, 3) := by decide +kernel
theorem dX10_isKnown_4 : decode cX10_isKnown 4 = .ok (.iload_n 1, 1) := by decide +kernel
theorem dX10_isKnown_5 : decode cX10_isKnown 5 = .ok (.ishr, 1) := by decide +kernel
theorem dX10_isKnown_6 : decode cX10_isKnown 6 = .ok (.iconst 1, 1) := by decide +kernel
theorem dX10_isKnown_7 : decode cX10_isKnown 7 = .ok (.iand, 1) := by decide +kernel
theorem dX10_isKnown_8 : decode cX10_isKnown 8 = .ok (.iconst 1, 1) := by decide +kernel
theorem dX10_isKnown_9 : decode cX10_isKnown 9 = .ok (.if_icmp .ne 7, 3) := by decide +kernel
theorem dX10_isKnown_12 : decode cX10_isKnown 12 = .ok (.iconst 1, 1) := by decide +kernel
theorem dX10_isKnown_13 : decode cX10_isKnown 13 = .ok (.goto 4, 3) := by decide +kernel
theorem dX10_isKnown_16 : decode cX10_isKnown 16 = .ok (.iconst 0, 1) := by decide +kernel
theorem dX10_isKnown_17 : decode cX10_isKnown 17 = .ok (.istore_n 2, 1) := by decide +kernel
theorem dX10_isKnown_18 : decode cX10_isKnown 18 = .ok (.aload_n 0, 1) := by decide +kernel
theorem dX10_isKnown_19 : decode cX10_isKnown 19 = .ok (.dup, 1) := by decide +kernel
theorem dX10_isKnown_20 : decode cX10_isKnown 20 = .ok (.getfield 56, 3) := by decide +kernel
theorem dX10_isKnown_23 : decode cX10_isKnown 23 = .ok (.iconst 1, 1) := by decide +kernel
theorem dX10_isKnown_24 : decode cX10_isKnown 24 = .ok (.iload_n 1, 1) := by decide +kernel
theorem dX10_isKnown_25 : decode cX10_isKnown 25 = .ok (.ishl, 1) := by decide +kernel
theorem dX10_isKnown_26 : decode cX10_isKnown 26 = .ok (.ior, 1) := by decide +kernel
theorem dX10_isKnown_27 : decode cX10_isKnown 27 = .ok (.putfield 56, 3) := by decide +kernel
theorem dX10_isKnown_30 : decode cX10_isKnown 30 = .ok (.iload_n 2, 1) := by decide +kernel
theorem dX10_isKnown_31 : decode cX10_isKnown 31 = .ok (.ireturn, 1) := by decide +kernel
theorem dX10_behind_0 : decode cX10_behind 0 = .ok (.aload_n 0, 1) := by decide +kernel
theorem dX10_behind_1 : decode cX10_behind 1 = .ok (.getfield 19, 3) := by decide +kernel
theorem dX10_behind_4 : decode cX10_behind 4 = .ok (.iload_n 1, 1) := by decide +kernel
theorem dX10_behind_5 : decode cX10_behind 5 = .ok (.iaload, 1) := by decide +kernel
theorem dX10_behind_6 : decode cX10_behind 6 = .ok (.ireturn, 1) := by decide +kernel
theorem dX10_ahead_0 : decode cX10_ahead 0 = .ok (.iconst 0, 1) := by decide +kernel
theorem dX10_ahead_1 : decode cX10_ahead 1 = .ok (.istore_n 2, 1) := by decide +kernel
theorem dX10_ahead_2 : decode cX10_ahead 2 = .ok (.iconst 0, 1) := by decide +kernel
theorem dX10_ahead_3 : decode cX10_ahead 3 = .ok (.istore_n 3, 1) := by decide +kernel
theorem dX10_ahead_4 : decode cX10_ahead 4 = .ok (.iload_n 3, 1) := by decide +kernel
theorem dX10_ahead_5 : decode cX10_ahead 5 = .ok (.aload_n 0, 1) := by decide +kernel
theorem dX10_ahead_6 : decode cX10_ahead 6 = .ok (.getfield 48, 3) := by decide +kernel
theorem dX10_ahead_9 : decode cX10_ahead 9 = .ok (.if_icmp .ge 29, 3) := by decide +kernel
theorem dX10_ahead_12 : decode cX10_ahead 12 = .ok (.aload_n 0, 1) := by decide +kernel
theorem dX10_ahead_13 : decode cX10_ahead 13 = .ok (.getfield 7, 3) := by decide +kernel
theorem dX10_ahead_16 : decode cX10_ahead 16 = .ok (.bipush 12, 2) := by decide +kernel
theorem dX10_ahead_18 : decode cX10_ahead 18 = .ok (.iload_n 3, 1) := by decide +kernel
theorem dX10_ahead_19 : decode cX10_ahead 19 = .ok (.imul, 1) := by decide +kernel
theorem dX10_ahead_20 : decode cX10_ahead 20 = .ok (.iload_n 1, 1) := by decide +kernel
theorem dX10_ahead_21 : decode cX10_ahead 21 = .ok (.iadd, 1) := by decide +kernel
theorem dX10_ahead_22 : decode cX10_ahead 22 = .ok (.iaload, 1) := by decide +kernel
theorem dX10_ahead_23 : decode cX10_ahead 23 = .ok (.ifCond .le 9, 3) := by decide +kernel
theorem dX10_ahead_26 : decode cX10_ahead 26 = .ok (.iload_n 2, 1) := by decide +kernel
theorem dX10_ahead_27 : decode cX10_ahead 27 = .ok (.iconst 1, 1) := by decide +kernel
theorem dX10_ahead_28 : decode cX10_ahead 28 = .ok (.iload_n 3, 1) := by decide +kernel
theorem dX10_ahead_29 : decode cX10_ahead 29 = .ok (.ishl, 1) := by decide +kernel
theorem dX10_ahead_30 : decode cX10_ahead 30 = .ok (.ior, 1) := by decide +kernel
end
section
theorem dX10_ahead_31 : decode cX10_ahead 31 = .ok (.istore_n 2, 1) := by decide +kernel
theorem dX10_ahead_32 : decode cX10_ahead 32 = .ok (.iinc 3 1, 3) := by decide +kernel
theorem dX10_ahead_35 : decode cX10_ahead 35 = .ok (.goto (-31), 3) := by decide +kernel
theorem dX10_ahead_38 : decode cX10_ahead 38 = .ok (.iload_n 2, 1) := by decide +kernel
theorem dX10_ahead_39 : decode cX10_ahead 39 = .ok (.ireturn, 1) := by decide +kernel
theorem dX10_of_0 : decode cX10_of 0 = .ok (.aload_n 0, 1) := by decide +kernel
theorem dX10_of_1 : decode cX10_of 1 = .ok (.iload_n 1, 1) := by decide +kernel
theorem dX10_of_2 : decode cX10_of 2 = .ok (.invokevirtual 59, 3) := by decide +kernel
theorem dX10_of_5 : decode cX10_of 5 = .ok (.ifCond .ne 6, 3) := by decide +kernel
theorem dX10_of_8 : decode cX10_of 8 = .ok (.bipush (-2), 2) := by decide +kernel
theorem dX10_of_10 : decode cX10_of 10 = .ok (.ireturn, 1) := by decide +kernel
theorem dX10_of_11 : decode cX10_of 11 = .ok (.iload_n 2, 1) := by decide +kernel
theorem dX10_of_12 : decode cX10_of 12 = .ok (.ifCond .ne 12, 3) := by decide +kernel
theorem dX10_of_15 : decode cX10_of 15 = .ok (.aload_n 0, 1) := by decide +kernel
theorem dX10_of_16 : decode cX10_of 16 = .ok (.getfield 13, 3) := by decide +kernel
theorem dX10_of_19 : decode cX10_of 19 = .ok (.iload_n 1, 1) := by decide +kernel
theorem dX10_of_20 : decode cX10_of 20 = .ok (.iaload, 1) := by decide +kernel
theorem dX10_of_21 : decode cX10_of 21 = .ok (.goto 45, 3) := by decide +kernel
theorem dX10_of_24 : decode cX10_of 24 = .ok (.iload_n 2, 1) := by decide +kernel
theorem dX10_of_25 : decode cX10_of 25 = .ok (.iconst 1, 1) := by decide +kernel
theorem dX10_of_26 : decode cX10_of 26 = .ok (.if_icmp .ne 12, 3) := by decide +kernel
theorem dX10_of_29 : decode cX10_of 29 = .ok (.aload_n 0, 1) := by decide +kernel
theorem dX10_of_30 : decode cX10_of 30 = .ok (.getfield 16, 3) := by decide +kernel
theorem dX10_of_33 : decode cX10_of 33 = .ok (.iload_n 1, 1) := by decide +kernel
theorem dX10_of_34 : decode cX10_of 34 = .ok (.iaload, 1) := by decide +kernel
theorem dX10_of_35 : decode cX10_of 35 = .ok (.goto 31, 3) := by decide +kernel
theorem dX10_of_38 : decode cX10_of 38 = .ok (.iload_n 2, 1) := by decide +kernel
theorem dX10_of_39 : decode cX10_of 39 = .ok (.iconst 2, 1) := by decide +kernel
theorem dX10_of_40 : decode cX10_of 40 = .ok (.if_icmp .ne 11, 3) := by decide +kernel
theorem dX10_of_43 : decode cX10_of 43 = .ok (.aload_n 0, 1) := by decide +kernel
theorem dX10_of_44 : decode cX10_of 44 = .ok (.iload_n 1, 1) := by decide +kernel
theorem dX10_of_45 : decode cX10_of 45 = .ok (.invokevirtual 63, 3) := by decide +kernel
theorem dX10_of_48 : decode cX10_of 48 = .ok (.goto 18, 3) := by decide +kernel
theorem dX10_of_51 : decode cX10_of 51 = .ok (.iload_n 2, 1) := by decide +kernel
theorem dX10_of_52 : decode cX10_of 52 = .ok (.iconst 3, 1) := by decide +kernel
theorem dX10_of_53 : decode cX10_of 53 = .ok (.if_icmp .ne 11, 3) := by decide +kernel
theorem dX10_of_56 : decode cX10_of 56 = .ok (.aload_n 0, 1) := by decide +kernel
theorem dX10_of_57 : decode cX10_of 57 = .ok (.iload_n 1, 1) := by decide +kernel
theorem dX10_of_58 : decode cX10_of 58 = .ok (.invokevirtual 67, 3) := by decide +kernel
theorem dX10_of_61 : decode cX10_of 61 = .ok (.goto 5, 3) := by decide +kernel
theorem dX10_of_64 : decode cX10_of 64 = .ok (.bipush (-2), 2) := by decide +kernel
theorem dX10_of_66 : decode cX10_of 66 = .ok (.ireturn, 1) := by decide +kernel
theorem dX10_allBehind_0 : decode cX10_allBehind 0 = .ok (.iconst 0, 1) := by decide +kernel
theorem dX10_allBehind_1 : decode cX10_allBehind 1 = .ok (.istore_n 2, 1) := by decide +kernel
theorem dX10_allBehind_2 : decode cX10_allBehind 2 = .ok (.iconst 0, 1) := by decide +kernel
theorem dX10_allBehind_3 : decode cX10_allBehind 3 = .ok (.istore_n 3, 1) := by decide +kernel
theorem dX10_allBehind_4 : decode cX10_allBehind 4 = .ok (.iload_n 3, 1) := by decide +kernel
theorem dX10_allBehind_5 : decode cX10_allBehind 5 = .ok (.aload_n 0, 1) := by decide +kernel
theorem dX10_allBehind_6 : decode cX10_allBehind 6 = .ok (.getfield 48, 3) := by decide +kernel
theorem dX10_allBehind_9 : decode cX10_allBehind 9 = .ok (.if_icmp .ge 26, 3) := by decide +kernel
theorem dX10_allBehind_12 : decode cX10_allBehind 12 = .ok (.iload_n 1, 1) := by decide +kernel
theorem dX10_allBehind_13 : decode cX10_allBehind 13 = .ok (.iload_n 3, 1) := by decide +kernel
theorem dX10_allBehind_14 : decode cX10_allBehind 14 = .ok (.invokestatic 70, 3) := by decide +kernel
theorem dX10_allBehind_17 : decode cX10_allBehind 17 = .ok (.ifCond .eq 12, 3) := by decide +kernel
theorem dX10_allBehind_20 : decode cX10_allBehind 20 = .ok (.iload_n 2, 1) := by decide +kernel
theorem dX10_allBehind_21 : decode cX10_allBehind 21 = .ok (.aload_n 0, 1) := by decide +kernel
theorem dX10_allBehind_22 : decode cX10_allBehind 22 = .ok (.getfield 19, 3) := by decide +kernel
theorem dX10_allBehind_25 : decode cX10_allBehind 25 = .ok (.iload_n 3, 1) := by decide +kernel
theorem dX10_allBehind_26 : decode cX10_allBehind 26 = .ok (.iaload, 1) := by decide +kernel
theorem dX10_allBehind_27 : decode cX10_allBehind 27 = .ok (.ior, 1) := by decide +kernel
theorem dX10_allBehind_28 : decode cX10_allBehind 28 = .ok (.istore_n 2, 1) := by decide +kernel
theorem dX10_allBehind_29 : decode cX10_allBehind 29 = .ok (.iinc 3 1, 3) := by decide +kernel
theorem dX10_allBehind_32 : decode cX10_allBehind 32 = .ok (.goto (-28), 3) := by decide +kernel
theorem dX10_allBehind_35 : decode cX10_allBehind 35 = .ok (.iload_n 2, 1) := by decide +kernel
theorem dX10_allBehind_36 : decode cX10_allBehind 36 = .ok (.ireturn, 1) := by decide +kernel
theorem dX10_tick_0 : decode cX10_tick 0 = .ok (.iload_n 1, 1) := by decide +kernel
theorem dX10_tick_1 : decode cX10_tick 1 = .ok (.iconst 2, 1) := by decide +kernel
theorem dX10_tick_2 : decode cX10_tick 2 = .ok (.if_icmp .ne 16, 3) := by decide +kernel
theorem dX10_tick_5 : decode cX10_tick 5 = .ok (.iload_n 3, 1) := by decide +kernel
theorem dX10_tick_6 : decode cX10_tick 6 = .ok (.iconst 1, 1) := by decide +kernel
theorem dX10_tick_7 : decode cX10_tick 7 = .ok (.if_icmp .ne 11, 3) := by decide +kernel
theorem dX10_tick_10 : decode cX10_tick 10 = .ok (.iload_n 2, 1) := by decide +kernel
theorem dX10_tick_11 : decode cX10_tick 11 = .ok (.aload_n 0, 1) := by decide +kernel
theorem dX10_tick_12 : decode cX10_tick 12 = .ok (.iload_n 2, 1) := by decide +kernel
theorem dX10_tick_13 : decode cX10_tick 13 = .ok (.invokevirtual 74, 3) := by decide +kernel
theorem dX10_tick_16 : decode cX10_tick 16 = .ok (.ior, 1) := by decide +kernel
theorem dX10_tick_17 : decode cX10_tick 17 = .ok (.ireturn, 1) := by decide +kernel
theorem dX10_tick_18 : decode cX10_tick 18 = .ok (.iload_n 2, 1) := by decide +kernel
theorem dX10_tick_19 : decode cX10_tick 19 = .ok (.istore 4, 2) := by decide +kernel
theorem dX10_tick_21 : decode cX10_tick 21 = .ok (.iload_n 1, 1) := by decide +kernel
theorem dX10_tick_22 : decode cX10_tick 22 = .ok (.ifCond .eq 68, 3) := by decide +kernel
theorem dX10_tick_25 : decode cX10_tick 25 = .ok (.iconst 0, 1) := by decide +kernel
theorem dX10_tick_26 : decode cX10_tick 26 = .ok (.istore 5, 2) := by decide +kernel
theorem dX10_tick_28 : decode cX10_tick 28 = .ok (.iload 5, 2) := by decide +kernel
theorem dX10_tick_30 : decode cX10_tick 30 = .ok (.aload_n 0, 1) := by decide +kernel
theorem dX10_tick_31 : decode cX10_tick 31 = .ok (.getfield 48, 3) := by decide +kernel
theorem dX10_tick_34 : decode cX10_tick 34 = .ok (.if_icmp .ge 53, 3) := by decide +kernel
theorem dX10_tick_37 : decode cX10_tick 37 = .ok (.aload_n 0, 1) := by decide +kernel
theorem dX10_tick_38 : decode cX10_tick 38 = .ok (.getfield 19, 3) := by decide +kernel
theorem dX10_tick_41 : decode cX10_tick 41 = .ok (.iload 5, 2) := by decide +kernel
theorem dX10_tick_43 : decode cX10_tick 43 = .ok (.iaload, 1) := by decide +kernel
theorem dX10_tick_44 : decode cX10_tick 44 = .ok (.iload_n 2, 1) := by decide +kernel
theorem dX10_tick_45 : decode cX10_tick 45 = .ok (.iconst (-1), 1) := by decide +kernel
theorem dX10_tick_46 : decode cX10_tick 46 = .ok (.ixor, 1) := by decide +kernel
theorem dX10_tick_47 : decode cX10_tick 47 = .ok (.iand, 1) := by decide +kernel
theorem dX10_tick_48 : decode cX10_tick 48 = .ok (.istore 6, 2) := by decide +kernel
theorem dX10_tick_50 : decode cX10_tick 50 = .ok (.iload_n 2, 1) := by decide +kernel
theorem dX10_tick_51 : decode cX10_tick 51 = .ok (.iload 5, 2) := by decide +kernel
theorem dX10_tick_53 : decode cX10_tick 53 = .ok (.invokestatic 70, 3) := by decide +kernel
theorem dX10_tick_56 : decode cX10_tick 56 = .ok (.ifCond .eq 25, 3) := by decide +kernel
theorem dX10_tick_59 : decode cX10_tick 59 = .ok (.iload 6, 2) := by decide +kernel
theorem dX10_tick_61 : decode cX10_tick 61 = .ok (.ifCond .eq 20, 3) := by decide +kernel
theorem dX10_tick_64 : decode cX10_tick 64 = .ok (.iload 6, 2) := by decide +kernel
theorem dX10_tick_66 : decode cX10_tick 66 = .ok (.iload 6, 2) := by decide +kernel
theorem dX10_tick_68 : decode cX10_tick 68 = .ok (.iconst 1, 1) := by decide +kernel
theorem dX10_tick_69 : decode cX10_tick 69 = .ok (.isub, 1) := by decide +kernel
theorem dX10_tick_70 : decode cX10_tick 70 = .ok (.iand, 1) := by decide +kernel
theorem dX10_tick_71 : decode cX10_tick 71 = .ok (.ifCond .ne 10, 3) := by decide +kernel
theorem dX10_tick_74 : decode cX10_tick 74 = .ok (.iload 4, 2) := by decide +kernel
theorem dX10_tick_76 : decode cX10_tick 76 = .ok (.iload 6, 2) := by decide +kernel
theorem dX10_tick_78 : decode cX10_tick 78 = .ok (.ior, 1) := by decide +kernel
theorem dX10_tick_79 : decode cX10_tick 79 = .ok (.istore 4, 2) := by decide +kernel
theorem dX10_tick_81 : decode cX10_tick 81 = .ok (.iinc 5 1, 3) := by decide +kernel
theorem dX10_tick_84 : decode cX10_tick 84 = .ok (.goto (-56), 3) := by decide +kernel
theorem dX10_tick_87 : decode cX10_tick 87 = .ok (.iload 4, 2) := by decide +kernel
theorem dX10_tick_89 : decode cX10_tick 89 = .ok (.ireturn, 1) := by decide +kernel
theorem dX10_tick_90 : decode cX10_tick 90 = .ok (.iconst 0, 1) := by decide +kernel
theorem dX10_tick_91 : decode cX10_tick 91 = .ok (.istore 5, 2) := by decide +kernel
theorem dX10_tick_93 : decode cX10_tick 93 = .ok (.iload 5, 2) := by decide +kernel
theorem dX10_tick_95 : decode cX10_tick 95 = .ok (.aload_n 0, 1) := by decide +kernel
theorem dX10_tick_96 : decode cX10_tick 96 = .ok (.getfield 48, 3) := by decide +kernel
theorem dX10_tick_99 : decode cX10_tick 99 = .ok (.if_icmp .ge 94, 3) := by decide +kernel
theorem dX10_tick_102 : decode cX10_tick 102 = .ok (.iload_n 2, 1) := by decide +kernel
theorem dX10_tick_103 : decode cX10_tick 103 = .ok (.iload 5, 2) := by decide +kernel
theorem dX10_tick_105 : decode cX10_tick 105 = .ok (.invokestatic 70, 3) := by decide +kernel
theorem dX10_tick_108 : decode cX10_tick 108 = .ok (.ifCond .eq 6, 3) := by decide +kernel
theorem dX10_tick_111 : decode cX10_tick 111 = .ok (.goto 76, 3) := by decide +kernel
theorem dX10_tick_114 : decode cX10_tick 114 = .ok (.iconst 0, 1) := by decide +kernel
theorem dX10_tick_115 : decode cX10_tick 115 = .ok (.istore 6, 2) := by decide +kernel
theorem dX10_tick_117 : decode cX10_tick 117 = .ok (.iconst 0, 1) := by decide +kernel
theorem dX10_tick_118 : decode cX10_tick 118 = .ok (.istore 7, 2) := by decide +kernel
theorem dX10_tick_120 : decode cX10_tick 120 = .ok (.iload 7, 2) := by decide +kernel
theorem dX10_tick_122 : decode cX10_tick 122 = .ok (.aload_n 0, 1) := by decide +kernel
theorem dX10_tick_123 : decode cX10_tick 123 = .ok (.getfield 48, 3) := by decide +kernel
theorem dX10_tick_126 : decode cX10_tick 126 = .ok (.if_icmp .ge 40, 3) := by decide +kernel
theorem dX10_tick_129 : decode cX10_tick 129 = .ok (.iload 6, 2) := by decide +kernel
theorem dX10_tick_131 : decode cX10_tick 131 = .ok (.iload_n 2, 1) := by decide +kernel
theorem dX10_tick_132 : decode cX10_tick 132 = .ok (.iload 7, 2) := by decide +kernel
theorem dX10_tick_134 : decode cX10_tick 134 = .ok (.invokestatic 70, 3) := by decide +kernel
theorem dX10_tick_137 : decode cX10_tick 137 = .ok (.ifCond .eq 19, 3) := by decide +kernel
theorem dX10_tick_140 : decode cX10_tick 140 = .ok (.aload_n 0, 1) := by decide +kernel
theorem dX10_tick_141 : decode cX10_tick 141 = .ok (.getfield 7, 3) := by decide +kernel
theorem dX10_tick_144 : decode cX10_tick 144 = .ok (.bipush 12, 2) := by decide +kernel
theorem dX10_tick_146 : decode cX10_tick 146 = .ok (.iload 7, 2) := by decide +kernel
theorem dX10_tick_148 : decode cX10_tick 148 = .ok (.imul, 1) := by decide +kernel
theorem dX10_tick_149 : decode cX10_tick 149 = .ok (.iload 5, 2) := by decide +kernel
theorem dX10_tick_151 : decode cX10_tick 151 = .ok (.iadd, 1) := by decide +kernel
theorem dX10_tick_152 : decode cX10_tick 152 = .ok (.iaload, 1) := by decide +kernel
theorem dX10_tick_153 : decode cX10_tick 153 = .ok (.goto 4, 3) := by decide +kernel
theorem dX10_tick_156 : decode cX10_tick 156 = .ok (.iconst 0, 1) := by decide +kernel
theorem dX10_tick_157 : decode cX10_tick 157 = .ok (.iadd, 1) := by decide +kernel
theorem dX10_tick_158 : decode cX10_tick 158 = .ok (.istore 6, 2) := by decide +kernel
theorem dX10_tick_160 : decode cX10_tick 160 = .ok (.iinc 7 1, 3) := by decide +kernel
theorem dX10_tick_163 : decode cX10_tick 163 = .ok (.goto (-43), 3) := by decide +kernel
theorem dX10_tick_166 : decode cX10_tick 166 = .ok (.iload 6, 2) := by decide +kernel
theorem dX10_tick_168 : decode cX10_tick 168 = .ok (.aload_n 0, 1) := by decide +kernel
theorem dX10_tick_169 : decode cX10_tick 169 = .ok (.getfield 13, 3) := by decide +kernel
theorem dX10_tick_172 : decode cX10_tick 172 = .ok (.iload 5, 2) := by decide +kernel
theorem dX10_tick_174 : decode cX10_tick 174 = .ok (.iaload, 1) := by decide +kernel
theorem dX10_tick_175 : decode cX10_tick 175 = .ok (.if_icmp .lt 12, 3) := by decide +kernel
theorem dX10_tick_178 : decode cX10_tick 178 = .ok (.iload 4, 2) := by decide +kernel
theorem dX10_tick_180 : decode cX10_tick 180 = .ok (.iconst 1, 1) := by decide +kernel
theorem dX10_tick_181 : decode cX10_tick 181 = .ok (.iload 5, 2) := by decide +kernel
theorem dX10_tick_183 : decode cX10_tick 183 = .ok (.ishl, 1) := by decide +kernel
theorem dX10_tick_184 : decode cX10_tick 184 = .ok (.ior, 1) := by decide +kernel
theorem dX10_tick_185 : decode cX10_tick 185 = .ok (.istore 4, 2) := by decide +kernel
theorem dX10_tick_187 : decode cX10_tick 187 = .ok (.iinc 5 1, 3) := by decide +kernel
theorem dX10_tick_190 : decode cX10_tick 190 = .ok (.goto (-97), 3) := by decide +kernel
theorem dX10_tick_193 : decode cX10_tick 193 = .ok (.iload 4, 2) := by decide +kernel
theorem dX10_tick_195 : decode cX10_tick 195 = .ok (.ireturn, 1) := by decide +kernel
theorem dX10_runs_0 : decode cX10_runs 0 = .ok (.aload_n 0, 1) := by decide +kernel
theorem dX10_runs_1 : decode cX10_runs 1 = .ok (.getfield 22, 3) := by decide +kernel
theorem dX10_runs_4 : decode cX10_runs 4 = .ok (.iconst 0, 1) := by decide +kernel
theorem dX10_runs_5 : decode cX10_runs 5 = .ok (.iload_n 2, 1) := by decide +kernel
theorem dX10_runs_6 : decode cX10_runs 6 = .ok (.iastore, 1) := by decide +kernel
theorem dX10_runs_7 : decode cX10_runs 7 = .ok (.aload_n 0, 1) := by decide +kernel
theorem dX10_runs_8 : decode cX10_runs 8 = .ok (.iconst 0, 1) := by decide +kernel
theorem dX10_runs_9 : decode cX10_runs 9 = .ok (.putfield 77, 3) := by decide +kernel
theorem dX10_runs_12 : decode cX10_runs 12 = .ok (.iconst 0, 1) := by decide +kernel
theorem dX10_runs_13 : decode cX10_runs 13 = .ok (.istore_n 3, 1) := by decide +kernel
theorem dX10_runs_14 : decode cX10_runs 14 = .ok (.iconst 1, 1) := by decide +kernel
theorem dX10_runs_15 : decode cX10_runs 15 = .ok (.istore 4, 2) := by decide +kernel
theorem dX10_runs_17 : decode cX10_runs 17 = .ok (.iload 4, 2) := by decide +kernel
theorem dX10_runs_19 : decode cX10_runs 19 = .ok (.ifCond .eq 85, 3) := by decide +kernel
theorem dX10_runs_22 : decode cX10_runs 22 = .ok (.iinc 3 1, 3) := by decide +kernel
theorem dX10_runs_25 : decode cX10_runs 25 = .ok (.aload_n 0, 1) := by decide +kernel
theorem dX10_runs_26 : decode cX10_runs 26 = .ok (.getfield 22, 3) := by decide +kernel
theorem dX10_runs_29 : decode cX10_runs 29 = .ok (.iload_n 3, 1) := by decide +kernel
theorem dX10_runs_30 : decode cX10_runs 30 = .ok (.aload_n 0, 1) := by decide +kernel
theorem dX10_runs_31 : decode cX10_runs 31 = .ok (.iload_n 1, 1) := by decide +kernel
theorem dX10_runs_32 : decode cX10_runs 32 = .ok (.aload_n 0, 1) := by decide +kernel
theorem dX10_runs_33 : decode cX10_runs 33 = .ok (.getfield 22, 3) := by decide +kernel
theorem dX10_runs_36 : decode cX10_runs 36 = .ok (.iload_n 3, 1) := by decide +kernel
theorem dX10_runs_37 : decode cX10_runs 37 = .ok (.iconst 1, 1) := by decide +kernel
theorem dX10_runs_38 : decode cX10_runs 38 = .ok (.isub, 1) := by decide +kernel
theorem dX10_runs_39 : decode cX10_runs 39 = .ok (.iaload, 1) := by decide +kernel
theorem dX10_runs_40 : decode cX10_runs 40 = .ok (.iload_n 3, 1) := by decide +kernel
theorem dX10_runs_41 : decode cX10_runs 41 = .ok (.invokevirtual 80, 3) := by decide +kernel
theorem dX10_runs_44 : decode cX10_runs 44 = .ok (.iastore, 1) := by decide +kernel
theorem dX10_runs_45 : decode cX10_runs 45 = .ok (.aload_n 0, 1) := by decide +kernel
theorem dX10_runs_46 : decode cX10_runs 46 = .ok (.getfield 22, 3) := by decide +kernel
theorem dX10_runs_49 : decode cX10_runs 49 = .ok (.iload_n 3, 1) := by decide +kernel
theorem dX10_runs_50 : decode cX10_runs 50 = .ok (.iaload, 1) := by decide +kernel
theorem dX10_runs_51 : decode cX10_runs 51 = .ok (.aload_n 0, 1) := by decide +kernel
theorem dX10_runs_52 : decode cX10_runs 52 = .ok (.getfield 22, 3) := by decide +kernel
theorem dX10_runs_55 : decode cX10_runs 55 = .ok (.iload_n 3, 1) := by decide +kernel
theorem dX10_runs_56 : decode cX10_runs 56 = .ok (.iconst 1, 1) := by decide +kernel
theorem dX10_runs_57 : decode cX10_runs 57 = .ok (.isub, 1) := by decide +kernel
theorem dX10_runs_58 : decode cX10_runs 58 = .ok (.iaload, 1) := by decide +kernel
theorem dX10_runs_59 : decode cX10_runs 59 = .ok (.if_icmp .eq 7, 3) := by decide +kernel
theorem dX10_runs_62 : decode cX10_runs 62 = .ok (.iconst 1, 1) := by decide +kernel
theorem dX10_runs_63 : decode cX10_runs 63 = .ok (.goto 4, 3) := by decide +kernel
theorem dX10_runs_66 : decode cX10_runs 66 = .ok (.iconst 0, 1) := by decide +kernel
theorem dX10_runs_67 : decode cX10_runs 67 = .ok (.istore 5, 2) := by decide +kernel
theorem dX10_runs_69 : decode cX10_runs 69 = .ok (.iload 5, 2) := by decide +kernel
theorem dX10_runs_71 : decode cX10_runs 71 = .ok (.ifCond .eq 8, 3) := by decide +kernel
theorem dX10_runs_74 : decode cX10_runs 74 = .ok (.aload_n 0, 1) := by decide +kernel
theorem dX10_runs_75 : decode cX10_runs 75 = .ok (.iload_n 3, 1) := by decide +kernel
theorem dX10_runs_76 : decode cX10_runs 76 = .ok (.putfield 77, 3) := by decide +kernel
theorem dX10_runs_79 : decode cX10_runs 79 = .ok (.iload 5, 2) := by decide +kernel
theorem dX10_runs_81 : decode cX10_runs 81 = .ok (.ifCond .ne 13, 3) := by decide +kernel
theorem dX10_runs_84 : decode cX10_runs 84 = .ok (.iload_n 1, 1) := by decide +kernel
theorem dX10_runs_85 : decode cX10_runs 85 = .ok (.iconst 2, 1) := by decide +kernel
theorem dX10_runs_86 : decode cX10_runs 86 = .ok (.if_icmp .ne 12, 3) := by decide +kernel
theorem dX10_runs_89 : decode cX10_runs 89 = .ok (.iload_n 3, 1) := by decide +kernel
theorem dX10_runs_90 : decode cX10_runs 90 = .ok (.iconst 1, 1) := by decide +kernel
theorem dX10_runs_91 : decode cX10_runs 91 = .ok (.if_icmp .ne 7, 3) := by decide +kernel
theorem dX10_runs_94 : decode cX10_runs 94 = .ok (.iconst 1, 1) := by decide +kernel
theorem dX10_runs_95 : decode cX10_runs 95 = .ok (.goto 4, 3) := by decide +kernel
theorem dX10_runs_98 : decode cX10_runs 98 = .ok (.iconst 0, 1) := by decide +kernel
theorem dX10_runs_99 : decode cX10_runs 99 = .ok (.istore 4, 2) := by decide +kernel
theorem dX10_runs_101 : decode cX10_runs 101 = .ok (.goto (-84), 3) := by decide +kernel
theorem dX10_runs_104 : decode cX10_runs 104 = .ok (.aload_n 0, 1) := by decide +kernel
theorem dX10_runs_105 : decode cX10_runs 105 = .ok (.getfield 22, 3) := by decide +kernel
theorem dX10_runs_108 : decode cX10_runs 108 = .ok (.iload_n 3, 1) := by decide +kernel
theorem dX10_runs_109 : decode cX10_runs 109 = .ok (.iaload, 1) := by decide +kernel
theorem dX10_runs_110 : decode cX10_runs 110 = .ok (.ireturn, 1) := by decide +kernel
theorem dX10_endOf_0 : decode cX10_endOf 0 = .ok (.aload_n 0, 1) := by decide +kernel
theorem dX10_endOf_1 : decode cX10_endOf 1 = .ok (.iconst 0, 1) := by decide +kernel
theorem dX10_endOf_2 : decode cX10_endOf 2 = .ok (.iload_n 1, 1) := by decide +kernel
theorem dX10_endOf_3 : decode cX10_endOf 3 = .ok (.iadd, 1) := by decide +kernel
theorem dX10_endOf_4 : decode cX10_endOf 4 = .ok (.invokevirtual 84, 3) := by decide +kernel
theorem dX10_endOf_7 : decode cX10_endOf 7 = .ok (.ifCond .ne 37, 3) := by decide +kernel
theorem dX10_endOf_10 : decode cX10_endOf 10 = .ok (.iconst 0, 1) := by decide +kernel
theorem dX10_endOf_11 : decode cX10_endOf 11 = .ok (.istore_n 3, 1) := by decide +kernel
theorem dX10_endOf_12 : decode cX10_endOf 12 = .ok (.iload_n 3, 1) := by decide +kernel
theorem dX10_endOf_13 : decode cX10_endOf 13 = .ok (.aload_n 0, 1) := by decide +kernel
theorem dX10_endOf_14 : decode cX10_endOf 14 = .ok (.invokevirtual 87, 3) := by decide +kernel
theorem dX10_endOf_17 : decode cX10_endOf 17 = .ok (.if_icmp .gt 27, 3) := by decide +kernel
theorem dX10_endOf_20 : decode cX10_endOf 20 = .ok (.aload_n 0, 1) := by decide +kernel
theorem dX10_endOf_21 : decode cX10_endOf 21 = .ok (.getfield 25, 3) := by decide +kernel
theorem dX10_endOf_24 : decode cX10_endOf 24 = .ok (.sipush 4096, 3) := by decide +kernel
theorem dX10_endOf_27 : decode cX10_endOf 27 = .ok (.iload_n 1, 1) := by decide +kernel
theorem dX10_endOf_28 : decode cX10_endOf 28 = .ok (.imul, 1) := by decide +kernel
theorem dX10_endOf_29 : decode cX10_endOf 29 = .ok (.iload_n 3, 1) := by decide +kernel
theorem dX10_endOf_30 : decode cX10_endOf 30 = .ok (.iadd, 1) := by decide +kernel
theorem dX10_endOf_31 : decode cX10_endOf 31 = .ok (.aload_n 0, 1) := by decide +kernel
theorem dX10_endOf_32 : decode cX10_endOf 32 = .ok (.iload_n 1, 1) := by decide +kernel
theorem dX10_endOf_33 : decode cX10_endOf 33 = .ok (.iload_n 3, 1) := by decide +kernel
theorem dX10_endOf_34 : decode cX10_endOf 34 = .ok (.invokevirtual 91, 3) := by decide +kernel
theorem dX10_endOf_37 : decode cX10_endOf 37 = .ok (.iastore, 1) := by decide +kernel
theorem dX10_endOf_38 : decode cX10_endOf 38 = .ok (.iinc 3 1, 3) := by decide +kernel
theorem dX10_endOf_41 : decode cX10_endOf 41 = .ok (.goto (-29), 3) := by decide +kernel
theorem dX10_endOf_44 : decode cX10_endOf 44 = .ok (.aload_n 0, 1) := by decide +kernel
theorem dX10_endOf_45 : decode cX10_endOf 45 = .ok (.getfield 25, 3) := by decide +kernel
theorem dX10_endOf_48 : decode cX10_endOf 48 = .ok (.sipush 4096, 3) := by decide +kernel
theorem dX10_endOf_51 : decode cX10_endOf 51 = .ok (.iload_n 1, 1) := by decide +kernel
theorem dX10_endOf_52 : decode cX10_endOf 52 = .ok (.imul, 1) := by decide +kernel
theorem dX10_endOf_53 : decode cX10_endOf 53 = .ok (.iload_n 2, 1) := by decide +kernel
theorem dX10_endOf_54 : decode cX10_endOf 54 = .ok (.iadd, 1) := by decide +kernel
theorem dX10_endOf_55 : decode cX10_endOf 55 = .ok (.iaload, 1) := by decide +kernel
theorem dX10_endOf_56 : decode cX10_endOf 56 = .ok (.ireturn, 1) := by decide +kernel
theorem dX10_isRule_0 : decode cX10_isRule 0 = .ok (.iload_n 0, 1) := by decide +kernel
theorem dX10_isRule_1 : decode cX10_isRule 1 = .ok (.iconst 0, 1) := by decide +kernel
theorem dX10_isRule_2 : decode cX10_isRule 2 = .ok (.iconst 2, 1) := by decide +kernel
theorem dX10_isRule_3 : decode cX10_isRule 3 = .ok (.invokestatic 52, 3) := by decide +kernel
theorem dX10_isRule_6 : decode cX10_isRule 6 = .ok (.ireturn, 1) := by decide +kernel
theorem dX10_go_0 : decode cX10_go 0 = .ok (.iload_n 1, 1) := by decide +kernel
theorem dX10_go_1 : decode cX10_go 1 = .ok (.invokestatic 95, 3) := by decide +kernel
theorem dX10_go_4 : decode cX10_go 4 = .ok (.ifCond .eq 20, 3) := by decide +kernel
theorem dX10_go_7 : decode cX10_go 7 = .ok (.aload_n 0, 1) := by decide +kernel
theorem dX10_go_8 : decode cX10_go 8 = .ok (.iload_n 2, 1) := by decide +kernel
theorem dX10_go_9 : decode cX10_go 9 = .ok (.invokevirtual 98, 3) := by decide +kernel
theorem dX10_go_12 : decode cX10_go 12 = .ok (.ifCond .eq 12, 3) := by decide +kernel
theorem dX10_go_15 : decode cX10_go 15 = .ok (.aload_n 0, 1) := by decide +kernel
theorem dX10_go_16 : decode cX10_go 16 = .ok (.iload_n 1, 1) := by decide +kernel
theorem dX10_go_17 : decode cX10_go 17 = .ok (.iload_n 2, 1) := by decide +kernel
theorem dX10_go_18 : decode cX10_go 18 = .ok (.invokevirtual 91, 3) := by decide +kernel
theorem dX10_go_21 : decode cX10_go 21 = .ok (.goto 5, 3) := by decide +kernel
theorem dX10_go_24 : decode cX10_go 24 = .ok (.bipush (-2), 2) := by decide +kernel
theorem dX10_go_26 : decode cX10_go 26 = .ok (.ireturn, 1) := by decide +kernel
theorem dX10_ticks_0 : decode cX10_ticks 0 = .ok (.iload_n 1, 1) := by decide +kernel
theorem dX10_ticks_1 : decode cX10_ticks 1 = .ok (.invokestatic 95, 3) := by decide +kernel
theorem dX10_ticks_4 : decode cX10_ticks 4 = .ok (.ifCond .eq 11, 3) := by decide +kernel
theorem dX10_ticks_7 : decode cX10_ticks 7 = .ok (.aload_n 0, 1) := by decide +kernel
theorem dX10_ticks_8 : decode cX10_ticks 8 = .ok (.iload_n 2, 1) := by decide +kernel
theorem dX10_ticks_9 : decode cX10_ticks 9 = .ok (.invokevirtual 98, 3) := by decide +kernel
theorem dX10_ticks_12 : decode cX10_ticks 12 = .ok (.ifCond .ne 6, 3) := by decide +kernel
theorem dX10_ticks_15 : decode cX10_ticks 15 = .ok (.bipush (-2), 2) := by decide +kernel
theorem dX10_ticks_17 : decode cX10_ticks 17 = .ok (.ireturn, 1) := by decide +kernel
theorem dX10_ticks_18 : decode cX10_ticks 18 = .ok (.aload_n 0, 1) := by decide +kernel
theorem dX10_ticks_19 : decode cX10_ticks 19 = .ok (.iload_n 1, 1) := by decide +kernel
theorem dX10_ticks_20 : decode cX10_ticks 20 = .ok (.iload_n 2, 1) := by decide +kernel
theorem dX10_ticks_21 : decode cX10_ticks 21 = .ok (.invokevirtual 91, 3) := by decide +kernel
theorem dX10_ticks_24 : decode cX10_ticks 24 = .ok (.istore_n 3, 1) := by decide +kernel
theorem dX10_ticks_25 : decode cX10_ticks 25 = .ok (.aload_n 0, 1) := by decide +kernel
theorem dX10_ticks_26 : decode cX10_ticks 26 = .ok (.getfield 77, 3) := by decide +kernel
theorem dX10_ticks_29 : decode cX10_ticks 29 = .ok (.ireturn, 1) := by decide +kernel
theorem dX10_comes_0 : decode cX10_comes 0 = .ok (.iconst 0, 1) := by decide +kernel
theorem dX10_comes_1 : decode cX10_comes 1 = .ok (.istore_n 2, 1) := by decide +kernel
theorem dX10_comes_2 : decode cX10_comes 2 = .ok (.iload_n 2, 1) := by decide +kernel
theorem dX10_comes_3 : decode cX10_comes 3 = .ok (.aload_n 0, 1) := by decide +kernel
theorem dX10_comes_4 : decode cX10_comes 4 = .ok (.getfield 77, 3) := by decide +kernel
theorem dX10_comes_7 : decode cX10_comes 7 = .ok (.if_icmp .gt 24, 3) := by decide +kernel
theorem dX10_comes_10 : decode cX10_comes 10 = .ok (.aload_n 0, 1) := by decide +kernel
theorem dX10_comes_11 : decode cX10_comes 11 = .ok (.getfield 22, 3) := by decide +kernel
theorem dX10_comes_14 : decode cX10_comes 14 = .ok (.iload_n 2, 1) := by decide +kernel
theorem dX10_comes_15 : decode cX10_comes 15 = .ok (.iaload, 1) := by decide +kernel
theorem dX10_comes_16 : decode cX10_comes 16 = .ok (.iload_n 1, 1) := by decide +kernel
theorem dX10_comes_17 : decode cX10_comes 17 = .ok (.invokestatic 70, 3) := by decide +kernel
end
section
theorem dX10_comes_20 : decode cX10_comes 20 = .ok (.ifCond .eq 5, 3) := by decide +kernel
theorem dX10_comes_23 : decode cX10_comes 23 = .ok (.iload_n 2, 1) := by decide +kernel
theorem dX10_comes_24 : decode cX10_comes 24 = .ok (.ireturn, 1) := by decide +kernel
theorem dX10_comes_25 : decode cX10_comes 25 = .ok (.iinc 2 1, 3) := by decide +kernel
theorem dX10_comes_28 : decode cX10_comes 28 = .ok (.goto (-26), 3) := by decide +kernel
theorem dX10_comes_31 : decode cX10_comes 31 = .ok (.iconst (-1), 1) := by decide +kernel
theorem dX10_comes_32 : decode cX10_comes 32 = .ok (.ireturn, 1) := by decide +kernel
theorem dX10_when_0 : decode cX10_when 0 = .ok (.iload_n 1, 1) := by decide +kernel
theorem dX10_when_1 : decode cX10_when 1 = .ok (.invokestatic 95, 3) := by decide +kernel
theorem dX10_when_4 : decode cX10_when 4 = .ok (.ifCond .eq 19, 3) := by decide +kernel
theorem dX10_when_7 : decode cX10_when 7 = .ok (.aload_n 0, 1) := by decide +kernel
theorem dX10_when_8 : decode cX10_when 8 = .ok (.iload_n 2, 1) := by decide +kernel
theorem dX10_when_9 : decode cX10_when 9 = .ok (.invokevirtual 98, 3) := by decide +kernel
theorem dX10_when_12 : decode cX10_when 12 = .ok (.ifCond .eq 11, 3) := by decide +kernel
theorem dX10_when_15 : decode cX10_when 15 = .ok (.aload_n 0, 1) := by decide +kernel
theorem dX10_when_16 : decode cX10_when 16 = .ok (.iload_n 3, 1) := by decide +kernel
theorem dX10_when_17 : decode cX10_when 17 = .ok (.invokevirtual 59, 3) := by decide +kernel
theorem dX10_when_20 : decode cX10_when 20 = .ok (.ifCond .ne 6, 3) := by decide +kernel
theorem dX10_when_23 : decode cX10_when 23 = .ok (.bipush (-2), 2) := by decide +kernel
theorem dX10_when_25 : decode cX10_when 25 = .ok (.ireturn, 1) := by decide +kernel
theorem dX10_when_26 : decode cX10_when 26 = .ok (.aload_n 0, 1) := by decide +kernel
theorem dX10_when_27 : decode cX10_when 27 = .ok (.iload_n 1, 1) := by decide +kernel
theorem dX10_when_28 : decode cX10_when 28 = .ok (.iload_n 2, 1) := by decide +kernel
theorem dX10_when_29 : decode cX10_when 29 = .ok (.invokevirtual 91, 3) := by decide +kernel
theorem dX10_when_32 : decode cX10_when 32 = .ok (.istore 4, 2) := by decide +kernel
theorem dX10_when_34 : decode cX10_when 34 = .ok (.aload_n 0, 1) := by decide +kernel
theorem dX10_when_35 : decode cX10_when 35 = .ok (.iload_n 3, 1) := by decide +kernel
theorem dX10_when_36 : decode cX10_when 36 = .ok (.invokevirtual 101, 3) := by decide +kernel
theorem dX10_when_39 : decode cX10_when 39 = .ok (.ireturn, 1) := by decide +kernel
theorem dX10_brought_0 : decode cX10_brought 0 = .ok (.iload_n 1, 1) := by decide +kernel
theorem dX10_brought_1 : decode cX10_brought 1 = .ok (.invokestatic 95, 3) := by decide +kernel
theorem dX10_brought_4 : decode cX10_brought 4 = .ok (.ifCond .eq 19, 3) := by decide +kernel
theorem dX10_brought_7 : decode cX10_brought 7 = .ok (.aload_n 0, 1) := by decide +kernel
theorem dX10_brought_8 : decode cX10_brought 8 = .ok (.iload_n 2, 1) := by decide +kernel
theorem dX10_brought_9 : decode cX10_brought 9 = .ok (.invokevirtual 98, 3) := by decide +kernel
theorem dX10_brought_12 : decode cX10_brought 12 = .ok (.ifCond .eq 11, 3) := by decide +kernel
theorem dX10_brought_15 : decode cX10_brought 15 = .ok (.aload_n 0, 1) := by decide +kernel
theorem dX10_brought_16 : decode cX10_brought 16 = .ok (.iload_n 3, 1) := by decide +kernel
theorem dX10_brought_17 : decode cX10_brought 17 = .ok (.invokevirtual 59, 3) := by decide +kernel
theorem dX10_brought_20 : decode cX10_brought 20 = .ok (.ifCond .ne 6, 3) := by decide +kernel
theorem dX10_brought_23 : decode cX10_brought 23 = .ok (.bipush (-2), 2) := by decide +kernel
theorem dX10_brought_25 : decode cX10_brought 25 = .ok (.ireturn, 1) := by decide +kernel
theorem dX10_brought_26 : decode cX10_brought 26 = .ok (.aload_n 0, 1) := by decide +kernel
theorem dX10_brought_27 : decode cX10_brought 27 = .ok (.iload_n 1, 1) := by decide +kernel
theorem dX10_brought_28 : decode cX10_brought 28 = .ok (.iload_n 2, 1) := by decide +kernel
theorem dX10_brought_29 : decode cX10_brought 29 = .ok (.invokevirtual 91, 3) := by decide +kernel
theorem dX10_brought_32 : decode cX10_brought 32 = .ok (.istore 4, 2) := by decide +kernel
theorem dX10_brought_34 : decode cX10_brought 34 = .ok (.aload_n 0, 1) := by decide +kernel
theorem dX10_brought_35 : decode cX10_brought 35 = .ok (.iload_n 3, 1) := by decide +kernel
theorem dX10_brought_36 : decode cX10_brought 36 = .ok (.invokevirtual 101, 3) := by decide +kernel
theorem dX10_brought_39 : decode cX10_brought 39 = .ok (.istore 5, 2) := by decide +kernel
theorem dX10_brought_41 : decode cX10_brought 41 = .ok (.iload 5, 2) := by decide +kernel
theorem dX10_brought_43 : decode cX10_brought 43 = .ok (.iconst 1, 1) := by decide +kernel
theorem dX10_brought_44 : decode cX10_brought 44 = .ok (.if_icmp .ge 6, 3) := by decide +kernel
theorem dX10_brought_47 : decode cX10_brought 47 = .ok (.iload 5, 2) := by decide +kernel
theorem dX10_brought_49 : decode cX10_brought 49 = .ok (.ireturn, 1) := by decide +kernel
theorem dX10_brought_50 : decode cX10_brought 50 = .ok (.aload_n 0, 1) := by decide +kernel
theorem dX10_brought_51 : decode cX10_brought 51 = .ok (.getfield 22, 3) := by decide +kernel
theorem dX10_brought_54 : decode cX10_brought 54 = .ok (.iload 5, 2) := by decide +kernel
theorem dX10_brought_56 : decode cX10_brought 56 = .ok (.iconst 1, 1) := by decide +kernel
theorem dX10_brought_57 : decode cX10_brought 57 = .ok (.isub, 1) := by decide +kernel
theorem dX10_brought_58 : decode cX10_brought 58 = .ok (.iaload, 1) := by decide +kernel
theorem dX10_brought_59 : decode cX10_brought 59 = .ok (.istore 6, 2) := by decide +kernel
theorem dX10_brought_61 : decode cX10_brought 61 = .ok (.iload_n 1, 1) := by decide +kernel
theorem dX10_brought_62 : decode cX10_brought 62 = .ok (.ifCond .ne 12, 3) := by decide +kernel
theorem dX10_brought_65 : decode cX10_brought 65 = .ok (.iload 6, 2) := by decide +kernel
theorem dX10_brought_67 : decode cX10_brought 67 = .ok (.aload_n 0, 1) := by decide +kernel
theorem dX10_brought_68 : decode cX10_brought 68 = .ok (.iload_n 3, 1) := by decide +kernel
theorem dX10_brought_69 : decode cX10_brought 69 = .ok (.invokevirtual 67, 3) := by decide +kernel
theorem dX10_brought_72 : decode cX10_brought 72 = .ok (.iand, 1) := by decide +kernel
theorem dX10_brought_73 : decode cX10_brought 73 = .ok (.ireturn, 1) := by decide +kernel
theorem dX10_brought_74 : decode cX10_brought 74 = .ok (.iconst 0, 1) := by decide +kernel
theorem dX10_brought_75 : decode cX10_brought 75 = .ok (.istore 7, 2) := by decide +kernel
theorem dX10_brought_77 : decode cX10_brought 77 = .ok (.iload 7, 2) := by decide +kernel
theorem dX10_brought_79 : decode cX10_brought 79 = .ok (.aload_n 0, 1) := by decide +kernel
theorem dX10_brought_80 : decode cX10_brought 80 = .ok (.getfield 48, 3) := by decide +kernel
theorem dX10_brought_83 : decode cX10_brought 83 = .ok (.if_icmp .ge 71, 3) := by decide +kernel
theorem dX10_brought_86 : decode cX10_brought 86 = .ok (.iload 6, 2) := by decide +kernel
theorem dX10_brought_88 : decode cX10_brought 88 = .ok (.iload 7, 2) := by decide +kernel
theorem dX10_brought_90 : decode cX10_brought 90 = .ok (.invokestatic 70, 3) := by decide +kernel
theorem dX10_brought_93 : decode cX10_brought 93 = .ok (.ifCond .ne 6, 3) := by decide +kernel
theorem dX10_brought_96 : decode cX10_brought 96 = .ok (.goto 52, 3) := by decide +kernel
theorem dX10_brought_99 : decode cX10_brought 99 = .ok (.iload_n 1, 1) := by decide +kernel
theorem dX10_brought_100 : decode cX10_brought 100 = .ok (.iconst 2, 1) := by decide +kernel
theorem dX10_brought_101 : decode cX10_brought 101 = .ok (.if_icmp .ne 25, 3) := by decide +kernel
theorem dX10_brought_104 : decode cX10_brought 104 = .ok (.iload 5, 2) := by decide +kernel
theorem dX10_brought_106 : decode cX10_brought 106 = .ok (.iconst 1, 1) := by decide +kernel
theorem dX10_brought_107 : decode cX10_brought 107 = .ok (.if_icmp .ne 19, 3) := by decide +kernel
theorem dX10_brought_110 : decode cX10_brought 110 = .ok (.aload_n 0, 1) := by decide +kernel
theorem dX10_brought_111 : decode cX10_brought 111 = .ok (.iload 7, 2) := by decide +kernel
theorem dX10_brought_113 : decode cX10_brought 113 = .ok (.invokevirtual 63, 3) := by decide +kernel
theorem dX10_brought_116 : decode cX10_brought 116 = .ok (.iload_n 3, 1) := by decide +kernel
theorem dX10_brought_117 : decode cX10_brought 117 = .ok (.invokestatic 70, 3) := by decide +kernel
theorem dX10_brought_120 : decode cX10_brought 120 = .ok (.ifCond .eq 28, 3) := by decide +kernel
theorem dX10_brought_123 : decode cX10_brought 123 = .ok (.goto 20, 3) := by decide +kernel
theorem dX10_brought_126 : decode cX10_brought 126 = .ok (.aload_n 0, 1) := by decide +kernel
theorem dX10_brought_127 : decode cX10_brought 127 = .ok (.iload 7, 2) := by decide +kernel
theorem dX10_brought_129 : decode cX10_brought 129 = .ok (.invokevirtual 63, 3) := by decide +kernel
theorem dX10_brought_132 : decode cX10_brought 132 = .ok (.iload 6, 2) := by decide +kernel
theorem dX10_brought_134 : decode cX10_brought 134 = .ok (.iconst (-1), 1) := by decide +kernel
theorem dX10_brought_135 : decode cX10_brought 135 = .ok (.ixor, 1) := by decide +kernel
theorem dX10_brought_136 : decode cX10_brought 136 = .ok (.iand, 1) := by decide +kernel
theorem dX10_brought_137 : decode cX10_brought 137 = .ok (.iconst 1, 1) := by decide +kernel
theorem dX10_brought_138 : decode cX10_brought 138 = .ok (.iload_n 3, 1) := by decide +kernel
theorem dX10_brought_139 : decode cX10_brought 139 = .ok (.ishl, 1) := by decide +kernel
theorem dX10_brought_140 : decode cX10_brought 140 = .ok (.if_icmp .ne 8, 3) := by decide +kernel
theorem dX10_brought_143 : decode cX10_brought 143 = .ok (.iconst 1, 1) := by decide +kernel
theorem dX10_brought_144 : decode cX10_brought 144 = .ok (.iload 7, 2) := by decide +kernel
theorem dX10_brought_146 : decode cX10_brought 146 = .ok (.ishl, 1) := by decide +kernel
theorem dX10_brought_147 : decode cX10_brought 147 = .ok (.ireturn, 1) := by decide +kernel
theorem dX10_brought_148 : decode cX10_brought 148 = .ok (.iinc 7 1, 3) := by decide +kernel
theorem dX10_brought_151 : decode cX10_brought 151 = .ok (.goto (-74), 3) := by decide +kernel
theorem dX10_brought_154 : decode cX10_brought 154 = .ok (.iconst 0, 1) := by decide +kernel
theorem dX10_brought_155 : decode cX10_brought 155 = .ok (.ireturn, 1) := by decide +kernel
theorem dX10_isFort_0 : decode cX10_isFort 0 = .ok (.aload_n 0, 1) := by decide +kernel
theorem dX10_isFort_1 : decode cX10_isFort 1 = .ok (.invokevirtual 87, 3) := by decide +kernel
theorem dX10_isFort_4 : decode cX10_isFort 4 = .ok (.iload_n 2, 1) := by decide +kernel
theorem dX10_isFort_5 : decode cX10_isFort 5 = .ok (.iconst (-1), 1) := by decide +kernel
theorem dX10_isFort_6 : decode cX10_isFort 6 = .ok (.ixor, 1) := by decide +kernel
theorem dX10_isFort_7 : decode cX10_isFort 7 = .ok (.iand, 1) := by decide +kernel
theorem dX10_isFort_8 : decode cX10_isFort 8 = .ok (.istore_n 3, 1) := by decide +kernel
theorem dX10_isFort_9 : decode cX10_isFort 9 = .ok (.iload_n 2, 1) := by decide +kernel
theorem dX10_isFort_10 : decode cX10_isFort 10 = .ok (.ifCond .eq 18, 3) := by decide +kernel
theorem dX10_isFort_13 : decode cX10_isFort 13 = .ok (.aload_n 0, 1) := by decide +kernel
theorem dX10_isFort_14 : decode cX10_isFort 14 = .ok (.iload_n 1, 1) := by decide +kernel
theorem dX10_isFort_15 : decode cX10_isFort 15 = .ok (.iload_n 3, 1) := by decide +kernel
theorem dX10_isFort_16 : decode cX10_isFort 16 = .ok (.iconst 2, 1) := by decide +kernel
theorem dX10_isFort_17 : decode cX10_isFort 17 = .ok (.invokevirtual 80, 3) := by decide +kernel
theorem dX10_isFort_20 : decode cX10_isFort 20 = .ok (.iload_n 3, 1) := by decide +kernel
theorem dX10_isFort_21 : decode cX10_isFort 21 = .ok (.if_icmp .ne 7, 3) := by decide +kernel
theorem dX10_isFort_24 : decode cX10_isFort 24 = .ok (.iconst 1, 1) := by decide +kernel
theorem dX10_isFort_25 : decode cX10_isFort 25 = .ok (.goto 4, 3) := by decide +kernel
theorem dX10_isFort_28 : decode cX10_isFort 28 = .ok (.iconst 0, 1) := by decide +kernel
theorem dX10_isFort_29 : decode cX10_isFort 29 = .ok (.ireturn, 1) := by decide +kernel
theorem dX10_fort_0 : decode cX10_fort 0 = .ok (.iload_n 1, 1) := by decide +kernel
theorem dX10_fort_1 : decode cX10_fort 1 = .ok (.iconst 0, 1) := by decide +kernel
theorem dX10_fort_2 : decode cX10_fort 2 = .ok (.iconst 1, 1) := by decide +kernel
theorem dX10_fort_3 : decode cX10_fort 3 = .ok (.invokestatic 52, 3) := by decide +kernel
theorem dX10_fort_6 : decode cX10_fort 6 = .ok (.ifCond .eq 11, 3) := by decide +kernel
theorem dX10_fort_9 : decode cX10_fort 9 = .ok (.aload_n 0, 1) := by decide +kernel
theorem dX10_fort_10 : decode cX10_fort 10 = .ok (.iload_n 2, 1) := by decide +kernel
theorem dX10_fort_11 : decode cX10_fort 11 = .ok (.invokevirtual 98, 3) := by decide +kernel
theorem dX10_fort_14 : decode cX10_fort 14 = .ok (.ifCond .ne 6, 3) := by decide +kernel
theorem dX10_fort_17 : decode cX10_fort 17 = .ok (.bipush (-2), 2) := by decide +kernel
theorem dX10_fort_19 : decode cX10_fort 19 = .ok (.ireturn, 1) := by decide +kernel
theorem dX10_fort_20 : decode cX10_fort 20 = .ok (.aload_n 0, 1) := by decide +kernel
theorem dX10_fort_21 : decode cX10_fort 21 = .ok (.iload_n 1, 1) := by decide +kernel
theorem dX10_fort_22 : decode cX10_fort 22 = .ok (.iload_n 2, 1) := by decide +kernel
theorem dX10_fort_23 : decode cX10_fort 23 = .ok (.invokevirtual 104, 3) := by decide +kernel
theorem dX10_fort_26 : decode cX10_fort 26 = .ok (.ifCond .eq 7, 3) := by decide +kernel
theorem dX10_fort_29 : decode cX10_fort 29 = .ok (.iconst 1, 1) := by decide +kernel
theorem dX10_fort_30 : decode cX10_fort 30 = .ok (.goto 4, 3) := by decide +kernel
theorem dX10_fort_33 : decode cX10_fort 33 = .ok (.iconst 0, 1) := by decide +kernel
theorem dX10_fort_34 : decode cX10_fort 34 = .ok (.ireturn, 1) := by decide +kernel
theorem dX10_findForts_0 : decode cX10_findForts 0 = .ok (.aload_n 0, 1) := by decide +kernel
theorem dX10_findForts_1 : decode cX10_findForts 1 = .ok (.bipush 6, 2) := by decide +kernel
theorem dX10_findForts_3 : decode cX10_findForts 3 = .ok (.iload_n 1, 1) := by decide +kernel
theorem dX10_findForts_4 : decode cX10_findForts 4 = .ok (.iadd, 1) := by decide +kernel
theorem dX10_findForts_5 : decode cX10_findForts 5 = .ok (.invokevirtual 84, 3) := by decide +kernel
theorem dX10_findForts_8 : decode cX10_findForts 8 = .ok (.ifCond .eq 4, 3) := by decide +kernel
theorem dX10_findForts_11 : decode cX10_findForts 11 = .ok (.return_, 1) := by decide +kernel
theorem dX10_findForts_12 : decode cX10_findForts 12 = .ok (.sipush 4096, 3) := by decide +kernel
theorem dX10_findForts_15 : decode cX10_findForts 15 = .ok (.iload_n 1, 1) := by decide +kernel
theorem dX10_findForts_16 : decode cX10_findForts 16 = .ok (.imul, 1) := by decide +kernel
theorem dX10_findForts_17 : decode cX10_findForts 17 = .ok (.istore_n 2, 1) := by decide +kernel
theorem dX10_findForts_18 : decode cX10_findForts 18 = .ok (.iconst 0, 1) := by decide +kernel
theorem dX10_findForts_19 : decode cX10_findForts 19 = .ok (.istore_n 3, 1) := by decide +kernel
theorem dX10_findForts_20 : decode cX10_findForts 20 = .ok (.iload_n 3, 1) := by decide +kernel
theorem dX10_findForts_21 : decode cX10_findForts 21 = .ok (.aload_n 0, 1) := by decide +kernel
theorem dX10_findForts_22 : decode cX10_findForts 22 = .ok (.invokevirtual 87, 3) := by decide +kernel
theorem dX10_findForts_25 : decode cX10_findForts 25 = .ok (.if_icmp .gt 23, 3) := by decide +kernel
theorem dX10_findForts_28 : decode cX10_findForts 28 = .ok (.aload_n 0, 1) := by decide +kernel
theorem dX10_findForts_29 : decode cX10_findForts 29 = .ok (.getfield 28, 3) := by decide +kernel
theorem dX10_findForts_32 : decode cX10_findForts 32 = .ok (.iload_n 2, 1) := by decide +kernel
theorem dX10_findForts_33 : decode cX10_findForts 33 = .ok (.iload_n 3, 1) := by decide +kernel
theorem dX10_findForts_34 : decode cX10_findForts 34 = .ok (.iadd, 1) := by decide +kernel
theorem dX10_findForts_35 : decode cX10_findForts 35 = .ok (.aload_n 0, 1) := by decide +kernel
theorem dX10_findForts_36 : decode cX10_findForts 36 = .ok (.iload_n 1, 1) := by decide +kernel
theorem dX10_findForts_37 : decode cX10_findForts 37 = .ok (.iload_n 3, 1) := by decide +kernel
theorem dX10_findForts_38 : decode cX10_findForts 38 = .ok (.invokevirtual 104, 3) := by decide +kernel
theorem dX10_findForts_41 : decode cX10_findForts 41 = .ok (.bastore, 1) := by decide +kernel
theorem dX10_findForts_42 : decode cX10_findForts 42 = .ok (.iinc 3 1, 3) := by decide +kernel
theorem dX10_findForts_45 : decode cX10_findForts 45 = .ok (.goto (-25), 3) := by decide +kernel
theorem dX10_findForts_48 : decode cX10_findForts 48 = .ok (.aload_n 0, 1) := by decide +kernel
theorem dX10_findForts_49 : decode cX10_findForts 49 = .ok (.invokevirtual 87, 3) := by decide +kernel
theorem dX10_findForts_52 : decode cX10_findForts 52 = .ok (.istore_n 3, 1) := by decide +kernel
theorem dX10_findForts_53 : decode cX10_findForts 53 = .ok (.iload_n 3, 1) := by decide +kernel
theorem dX10_findForts_54 : decode cX10_findForts 54 = .ok (.ifCond .le 76, 3) := by decide +kernel
theorem dX10_findForts_57 : decode cX10_findForts 57 = .ok (.aload_n 0, 1) := by decide +kernel
theorem dX10_findForts_58 : decode cX10_findForts 58 = .ok (.getfield 28, 3) := by decide +kernel
theorem dX10_findForts_61 : decode cX10_findForts 61 = .ok (.iload_n 2, 1) := by decide +kernel
theorem dX10_findForts_62 : decode cX10_findForts 62 = .ok (.iload_n 3, 1) := by decide +kernel
theorem dX10_findForts_63 : decode cX10_findForts 63 = .ok (.iadd, 1) := by decide +kernel
theorem dX10_findForts_64 : decode cX10_findForts 64 = .ok (.baload, 1) := by decide +kernel
theorem dX10_findForts_65 : decode cX10_findForts 65 = .ok (.istore 4, 2) := by decide +kernel
theorem dX10_findForts_67 : decode cX10_findForts 67 = .ok (.iload_n 3, 1) := by decide +kernel
theorem dX10_findForts_68 : decode cX10_findForts 68 = .ok (.iconst 1, 1) := by decide +kernel
theorem dX10_findForts_69 : decode cX10_findForts 69 = .ok (.isub, 1) := by decide +kernel
theorem dX10_findForts_70 : decode cX10_findForts 70 = .ok (.iload_n 3, 1) := by decide +kernel
theorem dX10_findForts_71 : decode cX10_findForts 71 = .ok (.iand, 1) := by decide +kernel
theorem dX10_findForts_72 : decode cX10_findForts 72 = .ok (.istore 5, 2) := by decide +kernel
theorem dX10_findForts_74 : decode cX10_findForts 74 = .ok (.iload 5, 2) := by decide +kernel
theorem dX10_findForts_76 : decode cX10_findForts 76 = .ok (.ifCond .le 38, 3) := by decide +kernel
theorem dX10_findForts_79 : decode cX10_findForts 79 = .ok (.iload 4, 2) := by decide +kernel
theorem dX10_findForts_81 : decode cX10_findForts 81 = .ok (.ifCond .eq 33, 3) := by decide +kernel
theorem dX10_findForts_84 : decode cX10_findForts 84 = .ok (.aload_n 0, 1) := by decide +kernel
theorem dX10_findForts_85 : decode cX10_findForts 85 = .ok (.getfield 28, 3) := by decide +kernel
theorem dX10_findForts_88 : decode cX10_findForts 88 = .ok (.iload_n 2, 1) := by decide +kernel
theorem dX10_findForts_89 : decode cX10_findForts 89 = .ok (.iload 5, 2) := by decide +kernel
theorem dX10_findForts_91 : decode cX10_findForts 91 = .ok (.iadd, 1) := by decide +kernel
theorem dX10_findForts_92 : decode cX10_findForts 92 = .ok (.baload, 1) := by decide +kernel
theorem dX10_findForts_93 : decode cX10_findForts 93 = .ok (.ifCond .ne 7, 3) := by decide +kernel
theorem dX10_findForts_96 : decode cX10_findForts 96 = .ok (.iconst 1, 1) := by decide +kernel
theorem dX10_findForts_97 : decode cX10_findForts 97 = .ok (.goto 4, 3) := by decide +kernel
theorem dX10_findForts_100 : decode cX10_findForts 100 = .ok (.iconst 0, 1) := by decide +kernel
theorem dX10_findForts_101 : decode cX10_findForts 101 = .ok (.istore 4, 2) := by decide +kernel
theorem dX10_findForts_103 : decode cX10_findForts 103 = .ok (.iload 5, 2) := by decide +kernel
theorem dX10_findForts_105 : decode cX10_findForts 105 = .ok (.iconst 1, 1) := by decide +kernel
theorem dX10_findForts_106 : decode cX10_findForts 106 = .ok (.isub, 1) := by decide +kernel
theorem dX10_findForts_107 : decode cX10_findForts 107 = .ok (.iload_n 3, 1) := by decide +kernel
theorem dX10_findForts_108 : decode cX10_findForts 108 = .ok (.iand, 1) := by decide +kernel
theorem dX10_findForts_109 : decode cX10_findForts 109 = .ok (.istore 5, 2) := by decide +kernel
theorem dX10_findForts_111 : decode cX10_findForts 111 = .ok (.goto (-37), 3) := by decide +kernel
theorem dX10_findForts_114 : decode cX10_findForts 114 = .ok (.aload_n 0, 1) := by decide +kernel
theorem dX10_findForts_115 : decode cX10_findForts 115 = .ok (.getfield 28, 3) := by decide +kernel
theorem dX10_findForts_118 : decode cX10_findForts 118 = .ok (.iload_n 2, 1) := by decide +kernel
theorem dX10_findForts_119 : decode cX10_findForts 119 = .ok (.iload_n 3, 1) := by decide +kernel
theorem dX10_findForts_120 : decode cX10_findForts 120 = .ok (.iadd, 1) := by decide +kernel
theorem dX10_findForts_121 : decode cX10_findForts 121 = .ok (.iload 4, 2) := by decide +kernel
theorem dX10_findForts_123 : decode cX10_findForts 123 = .ok (.bastore, 1) := by decide +kernel
theorem dX10_findForts_124 : decode cX10_findForts 124 = .ok (.iinc 3 (-1), 3) := by decide +kernel
theorem dX10_findForts_127 : decode cX10_findForts 127 = .ok (.goto (-74), 3) := by decide +kernel
theorem dX10_findForts_130 : decode cX10_findForts 130 = .ok (.return_, 1) := by decide +kernel
theorem dX10_forts_0 : decode cX10_forts 0 = .ok (.iload_n 1, 1) := by decide +kernel
theorem dX10_forts_1 : decode cX10_forts 1 = .ok (.iconst 0, 1) := by decide +kernel
theorem dX10_forts_2 : decode cX10_forts 2 = .ok (.iconst 1, 1) := by decide +kernel
theorem dX10_forts_3 : decode cX10_forts 3 = .ok (.invokestatic 52, 3) := by decide +kernel
theorem dX10_forts_6 : decode cX10_forts 6 = .ok (.ifCond .eq 7, 3) := by decide +kernel
theorem dX10_forts_9 : decode cX10_forts 9 = .ok (.iload_n 2, 1) := by decide +kernel
theorem dX10_forts_10 : decode cX10_forts 10 = .ok (.ifCond .ge 6, 3) := by decide +kernel
theorem dX10_forts_13 : decode cX10_forts 13 = .ok (.bipush (-2), 2) := by decide +kernel
theorem dX10_forts_15 : decode cX10_forts 15 = .ok (.ireturn, 1) := by decide +kernel
theorem dX10_forts_16 : decode cX10_forts 16 = .ok (.aload_n 0, 1) := by decide +kernel
theorem dX10_forts_17 : decode cX10_forts 17 = .ok (.iload_n 1, 1) := by decide +kernel
theorem dX10_forts_18 : decode cX10_forts 18 = .ok (.invokevirtual 107, 3) := by decide +kernel
theorem dX10_forts_21 : decode cX10_forts 21 = .ok (.iload_n 2, 1) := by decide +kernel
theorem dX10_forts_22 : decode cX10_forts 22 = .ok (.istore_n 3, 1) := by decide +kernel
theorem dX10_forts_23 : decode cX10_forts 23 = .ok (.iconst 1, 1) := by decide +kernel
theorem dX10_forts_24 : decode cX10_forts 24 = .ok (.istore 4, 2) := by decide +kernel
theorem dX10_forts_26 : decode cX10_forts 26 = .ok (.iload 4, 2) := by decide +kernel
theorem dX10_forts_28 : decode cX10_forts 28 = .ok (.aload_n 0, 1) := by decide +kernel
theorem dX10_forts_29 : decode cX10_forts 29 = .ok (.getfield 48, 3) := by decide +kernel
theorem dX10_forts_32 : decode cX10_forts 32 = .ok (.if_icmp .gt 66, 3) := by decide +kernel
theorem dX10_forts_35 : decode cX10_forts 35 = .ok (.iconst 1, 1) := by decide +kernel
theorem dX10_forts_36 : decode cX10_forts 36 = .ok (.istore 5, 2) := by decide +kernel
theorem dX10_forts_38 : decode cX10_forts 38 = .ok (.iload 5, 2) := by decide +kernel
theorem dX10_forts_40 : decode cX10_forts 40 = .ok (.aload_n 0, 1) := by decide +kernel
theorem dX10_forts_41 : decode cX10_forts 41 = .ok (.invokevirtual 87, 3) := by decide +kernel
theorem dX10_forts_44 : decode cX10_forts 44 = .ok (.if_icmp .gt 48, 3) := by decide +kernel
theorem dX10_forts_47 : decode cX10_forts 47 = .ok (.aload_n 0, 1) := by decide +kernel
theorem dX10_forts_48 : decode cX10_forts 48 = .ok (.getfield 28, 3) := by decide +kernel
theorem dX10_forts_51 : decode cX10_forts 51 = .ok (.sipush 4096, 3) := by decide +kernel
theorem dX10_forts_54 : decode cX10_forts 54 = .ok (.iload_n 1, 1) := by decide +kernel
theorem dX10_forts_55 : decode cX10_forts 55 = .ok (.imul, 1) := by decide +kernel
theorem dX10_forts_56 : decode cX10_forts 56 = .ok (.iload 5, 2) := by decide +kernel
theorem dX10_forts_58 : decode cX10_forts 58 = .ok (.iadd, 1) := by decide +kernel
theorem dX10_forts_59 : decode cX10_forts 59 = .ok (.baload, 1) := by decide +kernel
theorem dX10_forts_60 : decode cX10_forts 60 = .ok (.ifCond .eq 26, 3) := by decide +kernel
theorem dX10_forts_63 : decode cX10_forts 63 = .ok (.iload 5, 2) := by decide +kernel
theorem dX10_forts_65 : decode cX10_forts 65 = .ok (.invokestatic 111, 3) := by decide +kernel
theorem dX10_forts_68 : decode cX10_forts 68 = .ok (.iload 4, 2) := by decide +kernel
theorem dX10_forts_70 : decode cX10_forts 70 = .ok (.if_icmp .eq 6, 3) := by decide +kernel
theorem dX10_forts_73 : decode cX10_forts 73 = .ok (.goto 13, 3) := by decide +kernel
theorem dX10_forts_76 : decode cX10_forts 76 = .ok (.iload_n 3, 1) := by decide +kernel
theorem dX10_forts_77 : decode cX10_forts 77 = .ok (.ifCond .ne 6, 3) := by decide +kernel
theorem dX10_forts_80 : decode cX10_forts 80 = .ok (.iload 5, 2) := by decide +kernel
theorem dX10_forts_82 : decode cX10_forts 82 = .ok (.ireturn, 1) := by decide +kernel
theorem dX10_forts_83 : decode cX10_forts 83 = .ok (.iinc 3 (-1), 3) := by decide +kernel
theorem dX10_forts_86 : decode cX10_forts 86 = .ok (.iinc 5 1, 3) := by decide +kernel
theorem dX10_forts_89 : decode cX10_forts 89 = .ok (.goto (-51), 3) := by decide +kernel
theorem dX10_forts_92 : decode cX10_forts 92 = .ok (.iinc 4 1, 3) := by decide +kernel
theorem dX10_forts_95 : decode cX10_forts 95 = .ok (.goto (-69), 3) := by decide +kernel
theorem dX10_forts_98 : decode cX10_forts 98 = .ok (.iconst (-1), 1) := by decide +kernel
theorem dX10_forts_99 : decode cX10_forts 99 = .ok (.ireturn, 1) := by decide +kernel
theorem dX10_apart_0 : decode cX10_apart 0 = .ok (.iload_n 1, 1) := by decide +kernel
theorem dX10_apart_1 : decode cX10_apart 1 = .ok (.iconst 0, 1) := by decide +kernel
theorem dX10_apart_2 : decode cX10_apart 2 = .ok (.iconst 1, 1) := by decide +kernel
theorem dX10_apart_3 : decode cX10_apart 3 = .ok (.invokestatic 52, 3) := by decide +kernel
theorem dX10_apart_6 : decode cX10_apart 6 = .ok (.ifCond .ne 6, 3) := by decide +kernel
theorem dX10_apart_9 : decode cX10_apart 9 = .ok (.bipush (-2), 2) := by decide +kernel
theorem dX10_apart_11 : decode cX10_apart 11 = .ok (.ireturn, 1) := by decide +kernel
theorem dX10_apart_12 : decode cX10_apart 12 = .ok (.aload_n 0, 1) := by decide +kernel
theorem dX10_apart_13 : decode cX10_apart 13 = .ok (.iload_n 1, 1) := by decide +kernel
theorem dX10_apart_14 : decode cX10_apart 14 = .ok (.invokevirtual 107, 3) := by decide +kernel
theorem dX10_apart_17 : decode cX10_apart 17 = .ok (.aload_n 0, 1) := by decide +kernel
theorem dX10_apart_18 : decode cX10_apart 18 = .ok (.getfield 32, 3) := by decide +kernel
theorem dX10_apart_21 : decode cX10_apart 21 = .ok (.iconst 0, 1) := by decide +kernel
theorem dX10_apart_22 : decode cX10_apart 22 = .ok (.iconst 0, 1) := by decide +kernel
theorem dX10_apart_23 : decode cX10_apart 23 = .ok (.iastore, 1) := by decide +kernel
theorem dX10_apart_24 : decode cX10_apart 24 = .ok (.iconst 1, 1) := by decide +kernel
theorem dX10_apart_25 : decode cX10_apart 25 = .ok (.istore_n 2, 1) := by decide +kernel
theorem dX10_apart_26 : decode cX10_apart 26 = .ok (.iload_n 2, 1) := by decide +kernel
theorem dX10_apart_27 : decode cX10_apart 27 = .ok (.aload_n 0, 1) := by decide +kernel
theorem dX10_apart_28 : decode cX10_apart 28 = .ok (.invokevirtual 87, 3) := by decide +kernel
theorem dX10_apart_31 : decode cX10_apart 31 = .ok (.if_icmp .gt 109, 3) := by decide +kernel
theorem dX10_apart_34 : decode cX10_apart 34 = .ok (.iload_n 2, 1) := by decide +kernel
theorem dX10_apart_35 : decode cX10_apart 35 = .ok (.iload_n 2, 1) := by decide +kernel
theorem dX10_apart_36 : decode cX10_apart 36 = .ok (.ineg, 1) := by decide +kernel
theorem dX10_apart_37 : decode cX10_apart 37 = .ok (.iand, 1) := by decide +kernel
theorem dX10_apart_38 : decode cX10_apart 38 = .ok (.istore_n 3, 1) := by decide +kernel
theorem dX10_apart_39 : decode cX10_apart 39 = .ok (.aload_n 0, 1) := by decide +kernel
theorem dX10_apart_40 : decode cX10_apart 40 = .ok (.getfield 32, 3) := by decide +kernel
theorem dX10_apart_43 : decode cX10_apart 43 = .ok (.iload_n 2, 1) := by decide +kernel
theorem dX10_apart_44 : decode cX10_apart 44 = .ok (.iload_n 3, 1) := by decide +kernel
theorem dX10_apart_45 : decode cX10_apart 45 = .ok (.iconst (-1), 1) := by decide +kernel
theorem dX10_apart_46 : decode cX10_apart 46 = .ok (.ixor, 1) := by decide +kernel
theorem dX10_apart_47 : decode cX10_apart 47 = .ok (.iand, 1) := by decide +kernel
theorem dX10_apart_48 : decode cX10_apart 48 = .ok (.iaload, 1) := by decide +kernel
theorem dX10_apart_49 : decode cX10_apart 49 = .ok (.istore 4, 2) := by decide +kernel
theorem dX10_apart_51 : decode cX10_apart 51 = .ok (.iload_n 2, 1) := by decide +kernel
end
section
theorem dX10_apart_52 : decode cX10_apart 52 = .ok (.istore 5, 2) := by decide +kernel
theorem dX10_apart_54 : decode cX10_apart 54 = .ok (.iload 5, 2) := by decide +kernel
theorem dX10_apart_56 : decode cX10_apart 56 = .ok (.ifCond .le 70, 3) := by decide +kernel
theorem dX10_apart_59 : decode cX10_apart 59 = .ok (.aload_n 0, 1) := by decide +kernel
theorem dX10_apart_60 : decode cX10_apart 60 = .ok (.getfield 28, 3) := by decide +kernel
theorem dX10_apart_63 : decode cX10_apart 63 = .ok (.sipush 4096, 3) := by decide +kernel
theorem dX10_apart_66 : decode cX10_apart 66 = .ok (.iload_n 1, 1) := by decide +kernel
theorem dX10_apart_67 : decode cX10_apart 67 = .ok (.imul, 1) := by decide +kernel
theorem dX10_apart_68 : decode cX10_apart 68 = .ok (.iload 5, 2) := by decide +kernel
theorem dX10_apart_70 : decode cX10_apart 70 = .ok (.iadd, 1) := by decide +kernel
theorem dX10_apart_71 : decode cX10_apart 71 = .ok (.baload, 1) := by decide +kernel
theorem dX10_apart_72 : decode cX10_apart 72 = .ok (.ifCond .eq 43, 3) := by decide +kernel
theorem dX10_apart_75 : decode cX10_apart 75 = .ok (.iload 5, 2) := by decide +kernel
theorem dX10_apart_77 : decode cX10_apart 77 = .ok (.iload_n 3, 1) := by decide +kernel
theorem dX10_apart_78 : decode cX10_apart 78 = .ok (.iand, 1) := by decide +kernel
theorem dX10_apart_79 : decode cX10_apart 79 = .ok (.ifCond .eq 36, 3) := by decide +kernel
theorem dX10_apart_82 : decode cX10_apart 82 = .ok (.iconst 1, 1) := by decide +kernel
theorem dX10_apart_83 : decode cX10_apart 83 = .ok (.aload_n 0, 1) := by decide +kernel
theorem dX10_apart_84 : decode cX10_apart 84 = .ok (.getfield 32, 3) := by decide +kernel
theorem dX10_apart_87 : decode cX10_apart 87 = .ok (.iload_n 2, 1) := by decide +kernel
theorem dX10_apart_88 : decode cX10_apart 88 = .ok (.iload 5, 2) := by decide +kernel
theorem dX10_apart_90 : decode cX10_apart 90 = .ok (.iconst (-1), 1) := by decide +kernel
theorem dX10_apart_91 : decode cX10_apart 91 = .ok (.ixor, 1) := by decide +kernel
theorem dX10_apart_92 : decode cX10_apart 92 = .ok (.iand, 1) := by decide +kernel
theorem dX10_apart_93 : decode cX10_apart 93 = .ok (.iaload, 1) := by decide +kernel
theorem dX10_apart_94 : decode cX10_apart 94 = .ok (.iadd, 1) := by decide +kernel
theorem dX10_apart_95 : decode cX10_apart 95 = .ok (.iload 4, 2) := by decide +kernel
theorem dX10_apart_97 : decode cX10_apart 97 = .ok (.if_icmp .le 18, 3) := by decide +kernel
theorem dX10_apart_100 : decode cX10_apart 100 = .ok (.iconst 1, 1) := by decide +kernel
theorem dX10_apart_101 : decode cX10_apart 101 = .ok (.aload_n 0, 1) := by decide +kernel
theorem dX10_apart_102 : decode cX10_apart 102 = .ok (.getfield 32, 3) := by decide +kernel
theorem dX10_apart_105 : decode cX10_apart 105 = .ok (.iload_n 2, 1) := by decide +kernel
theorem dX10_apart_106 : decode cX10_apart 106 = .ok (.iload 5, 2) := by decide +kernel
theorem dX10_apart_108 : decode cX10_apart 108 = .ok (.iconst (-1), 1) := by decide +kernel
theorem dX10_apart_109 : decode cX10_apart 109 = .ok (.ixor, 1) := by decide +kernel
theorem dX10_apart_110 : decode cX10_apart 110 = .ok (.iand, 1) := by decide +kernel
theorem dX10_apart_111 : decode cX10_apart 111 = .ok (.iaload, 1) := by decide +kernel
theorem dX10_apart_112 : decode cX10_apart 112 = .ok (.iadd, 1) := by decide +kernel
theorem dX10_apart_113 : decode cX10_apart 113 = .ok (.istore 4, 2) := by decide +kernel
theorem dX10_apart_115 : decode cX10_apart 115 = .ok (.iload 5, 2) := by decide +kernel
theorem dX10_apart_117 : decode cX10_apart 117 = .ok (.iconst 1, 1) := by decide +kernel
theorem dX10_apart_118 : decode cX10_apart 118 = .ok (.isub, 1) := by decide +kernel
theorem dX10_apart_119 : decode cX10_apart 119 = .ok (.iload_n 2, 1) := by decide +kernel
theorem dX10_apart_120 : decode cX10_apart 120 = .ok (.iand, 1) := by decide +kernel
theorem dX10_apart_121 : decode cX10_apart 121 = .ok (.istore 5, 2) := by decide +kernel
theorem dX10_apart_123 : decode cX10_apart 123 = .ok (.goto (-69), 3) := by decide +kernel
theorem dX10_apart_126 : decode cX10_apart 126 = .ok (.aload_n 0, 1) := by decide +kernel
theorem dX10_apart_127 : decode cX10_apart 127 = .ok (.getfield 32, 3) := by decide +kernel
theorem dX10_apart_130 : decode cX10_apart 130 = .ok (.iload_n 2, 1) := by decide +kernel
theorem dX10_apart_131 : decode cX10_apart 131 = .ok (.iload 4, 2) := by decide +kernel
theorem dX10_apart_133 : decode cX10_apart 133 = .ok (.iastore, 1) := by decide +kernel
theorem dX10_apart_134 : decode cX10_apart 134 = .ok (.iinc 2 1, 3) := by decide +kernel
theorem dX10_apart_137 : decode cX10_apart 137 = .ok (.goto (-111), 3) := by decide +kernel
theorem dX10_apart_140 : decode cX10_apart 140 = .ok (.aload_n 0, 1) := by decide +kernel
theorem dX10_apart_141 : decode cX10_apart 141 = .ok (.getfield 32, 3) := by decide +kernel
theorem dX10_apart_144 : decode cX10_apart 144 = .ok (.aload_n 0, 1) := by decide +kernel
theorem dX10_apart_145 : decode cX10_apart 145 = .ok (.invokevirtual 87, 3) := by decide +kernel
theorem dX10_apart_148 : decode cX10_apart 148 = .ok (.iaload, 1) := by decide +kernel
theorem dX10_apart_149 : decode cX10_apart 149 = .ok (.ireturn, 1) := by decide +kernel
theorem dX10_setsGoing_0 : decode cX10_setsGoing 0 = .ok (.aload_n 0, 1) := by decide +kernel
theorem dX10_setsGoing_1 : decode cX10_setsGoing 1 = .ok (.iload_n 1, 1) := by decide +kernel
theorem dX10_setsGoing_2 : decode cX10_setsGoing 2 = .ok (.iload_n 2, 1) := by decide +kernel
theorem dX10_setsGoing_3 : decode cX10_setsGoing 3 = .ok (.invokevirtual 114, 3) := by decide +kernel
theorem dX10_setsGoing_6 : decode cX10_setsGoing 6 = .ok (.aload_n 0, 1) := by decide +kernel
theorem dX10_setsGoing_7 : decode cX10_setsGoing 7 = .ok (.invokevirtual 87, 3) := by decide +kernel
theorem dX10_setsGoing_10 : decode cX10_setsGoing 10 = .ok (.if_icmp .ne 7, 3) := by decide +kernel
theorem dX10_setsGoing_13 : decode cX10_setsGoing 13 = .ok (.iconst 1, 1) := by decide +kernel
theorem dX10_setsGoing_14 : decode cX10_setsGoing 14 = .ok (.goto 4, 3) := by decide +kernel
theorem dX10_setsGoing_17 : decode cX10_setsGoing 17 = .ok (.iconst 0, 1) := by decide +kernel
theorem dX10_setsGoing_18 : decode cX10_setsGoing 18 = .ok (.ireturn, 1) := by decide +kernel
theorem dX10_least_0 : decode cX10_least 0 = .ok (.iload_n 1, 1) := by decide +kernel
theorem dX10_least_1 : decode cX10_least 1 = .ok (.invokestatic 95, 3) := by decide +kernel
theorem dX10_least_4 : decode cX10_least 4 = .ok (.ifCond .ne 6, 3) := by decide +kernel
theorem dX10_least_7 : decode cX10_least 7 = .ok (.bipush (-2), 2) := by decide +kernel
theorem dX10_least_9 : decode cX10_least 9 = .ok (.ireturn, 1) := by decide +kernel
theorem dX10_least_10 : decode cX10_least 10 = .ok (.iconst 0, 1) := by decide +kernel
theorem dX10_least_11 : decode cX10_least 11 = .ok (.istore_n 2, 1) := by decide +kernel
theorem dX10_least_12 : decode cX10_least 12 = .ok (.iload_n 2, 1) := by decide +kernel
theorem dX10_least_13 : decode cX10_least 13 = .ok (.aload_n 0, 1) := by decide +kernel
theorem dX10_least_14 : decode cX10_least 14 = .ok (.getfield 48, 3) := by decide +kernel
theorem dX10_least_17 : decode cX10_least 17 = .ok (.if_icmp .gt 44, 3) := by decide +kernel
theorem dX10_least_20 : decode cX10_least 20 = .ok (.iconst 0, 1) := by decide +kernel
theorem dX10_least_21 : decode cX10_least 21 = .ok (.istore_n 3, 1) := by decide +kernel
theorem dX10_least_22 : decode cX10_least 22 = .ok (.iload_n 3, 1) := by decide +kernel
theorem dX10_least_23 : decode cX10_least 23 = .ok (.aload_n 0, 1) := by decide +kernel
theorem dX10_least_24 : decode cX10_least 24 = .ok (.invokevirtual 87, 3) := by decide +kernel
theorem dX10_least_27 : decode cX10_least 27 = .ok (.if_icmp .gt 28, 3) := by decide +kernel
theorem dX10_least_30 : decode cX10_least 30 = .ok (.iload_n 3, 1) := by decide +kernel
theorem dX10_least_31 : decode cX10_least 31 = .ok (.invokestatic 111, 3) := by decide +kernel
theorem dX10_least_34 : decode cX10_least 34 = .ok (.iload_n 2, 1) := by decide +kernel
theorem dX10_least_35 : decode cX10_least 35 = .ok (.if_icmp .ne 14, 3) := by decide +kernel
theorem dX10_least_38 : decode cX10_least 38 = .ok (.aload_n 0, 1) := by decide +kernel
theorem dX10_least_39 : decode cX10_least 39 = .ok (.iload_n 1, 1) := by decide +kernel
theorem dX10_least_40 : decode cX10_least 40 = .ok (.iload_n 3, 1) := by decide +kernel
theorem dX10_least_41 : decode cX10_least 41 = .ok (.invokevirtual 117, 3) := by decide +kernel
theorem dX10_least_44 : decode cX10_least 44 = .ok (.ifCond .eq 5, 3) := by decide +kernel
theorem dX10_least_47 : decode cX10_least 47 = .ok (.iload_n 3, 1) := by decide +kernel
theorem dX10_least_48 : decode cX10_least 48 = .ok (.ireturn, 1) := by decide +kernel
theorem dX10_least_49 : decode cX10_least 49 = .ok (.iinc 3 1, 3) := by decide +kernel
theorem dX10_least_52 : decode cX10_least 52 = .ok (.goto (-30), 3) := by decide +kernel
theorem dX10_least_55 : decode cX10_least 55 = .ok (.iinc 2 1, 3) := by decide +kernel
theorem dX10_least_58 : decode cX10_least 58 = .ok (.goto (-46), 3) := by decide +kernel
theorem dX10_least_61 : decode cX10_least 61 = .ok (.iconst (-1), 1) := by decide +kernel
theorem dX10_least_62 : decode cX10_least 62 = .ok (.ireturn, 1) := by decide +kernel
theorem dX10_many_0 : decode cX10_many 0 = .ok (.iload_n 1, 1) := by decide +kernel
theorem dX10_many_1 : decode cX10_many 1 = .ok (.invokestatic 95, 3) := by decide +kernel
theorem dX10_many_4 : decode cX10_many 4 = .ok (.ifCond .ne 6, 3) := by decide +kernel
theorem dX10_many_7 : decode cX10_many 7 = .ok (.bipush (-2), 2) := by decide +kernel
theorem dX10_many_9 : decode cX10_many 9 = .ok (.ireturn, 1) := by decide +kernel
theorem dX10_many_10 : decode cX10_many 10 = .ok (.aload_n 0, 1) := by decide +kernel
theorem dX10_many_11 : decode cX10_many 11 = .ok (.iload_n 1, 1) := by decide +kernel
theorem dX10_many_12 : decode cX10_many 12 = .ok (.invokevirtual 120, 3) := by decide +kernel
theorem dX10_many_15 : decode cX10_many 15 = .ok (.invokestatic 111, 3) := by decide +kernel
theorem dX10_many_18 : decode cX10_many 18 = .ok (.istore_n 2, 1) := by decide +kernel
theorem dX10_many_19 : decode cX10_many 19 = .ok (.iconst 0, 1) := by decide +kernel
theorem dX10_many_20 : decode cX10_many 20 = .ok (.istore_n 3, 1) := by decide +kernel
theorem dX10_many_21 : decode cX10_many 21 = .ok (.iconst 0, 1) := by decide +kernel
theorem dX10_many_22 : decode cX10_many 22 = .ok (.istore 4, 2) := by decide +kernel
theorem dX10_many_24 : decode cX10_many 24 = .ok (.iload 4, 2) := by decide +kernel
theorem dX10_many_26 : decode cX10_many 26 = .ok (.aload_n 0, 1) := by decide +kernel
theorem dX10_many_27 : decode cX10_many 27 = .ok (.invokevirtual 87, 3) := by decide +kernel
theorem dX10_many_30 : decode cX10_many 30 = .ok (.if_icmp .gt 36, 3) := by decide +kernel
theorem dX10_many_33 : decode cX10_many 33 = .ok (.iload_n 3, 1) := by decide +kernel
theorem dX10_many_34 : decode cX10_many 34 = .ok (.iload 4, 2) := by decide +kernel
theorem dX10_many_36 : decode cX10_many 36 = .ok (.invokestatic 111, 3) := by decide +kernel
theorem dX10_many_39 : decode cX10_many 39 = .ok (.iload_n 2, 1) := by decide +kernel
theorem dX10_many_40 : decode cX10_many 40 = .ok (.if_icmp .ne 17, 3) := by decide +kernel
theorem dX10_many_43 : decode cX10_many 43 = .ok (.aload_n 0, 1) := by decide +kernel
theorem dX10_many_44 : decode cX10_many 44 = .ok (.iload_n 1, 1) := by decide +kernel
theorem dX10_many_45 : decode cX10_many 45 = .ok (.iload 4, 2) := by decide +kernel
theorem dX10_many_47 : decode cX10_many 47 = .ok (.invokevirtual 117, 3) := by decide +kernel
theorem dX10_many_50 : decode cX10_many 50 = .ok (.ifCond .eq 7, 3) := by decide +kernel
theorem dX10_many_53 : decode cX10_many 53 = .ok (.iconst 1, 1) := by decide +kernel
theorem dX10_many_54 : decode cX10_many 54 = .ok (.goto 4, 3) := by decide +kernel
theorem dX10_many_57 : decode cX10_many 57 = .ok (.iconst 0, 1) := by decide +kernel
theorem dX10_many_58 : decode cX10_many 58 = .ok (.iadd, 1) := by decide +kernel
theorem dX10_many_59 : decode cX10_many 59 = .ok (.istore_n 3, 1) := by decide +kernel
theorem dX10_many_60 : decode cX10_many 60 = .ok (.iinc 4 1, 3) := by decide +kernel
theorem dX10_many_63 : decode cX10_many 63 = .ok (.goto (-39), 3) := by decide +kernel
theorem dX10_many_66 : decode cX10_many 66 = .ok (.iload_n 3, 1) := by decide +kernel
theorem dX10_many_67 : decode cX10_many 67 = .ok (.ireturn, 1) := by decide +kernel
theorem dX10_cheapest_0 : decode cX10_cheapest 0 = .ok (.iload_n 1, 1) := by decide +kernel
theorem dX10_cheapest_1 : decode cX10_cheapest 1 = .ok (.invokestatic 95, 3) := by decide +kernel
theorem dX10_cheapest_4 : decode cX10_cheapest 4 = .ok (.ifCond .ne 6, 3) := by decide +kernel
theorem dX10_cheapest_7 : decode cX10_cheapest 7 = .ok (.bipush (-2), 2) := by decide +kernel
theorem dX10_cheapest_9 : decode cX10_cheapest 9 = .ok (.ireturn, 1) := by decide +kernel
theorem dX10_cheapest_10 : decode cX10_cheapest 10 = .ok (.iconst 0, 1) := by decide +kernel
theorem dX10_cheapest_11 : decode cX10_cheapest 11 = .ok (.istore_n 2, 1) := by decide +kernel
theorem dX10_cheapest_12 : decode cX10_cheapest 12 = .ok (.ldc 123, 2) := by decide +kernel
theorem dX10_cheapest_14 : decode cX10_cheapest 14 = .ok (.istore_n 3, 1) := by decide +kernel
theorem dX10_cheapest_15 : decode cX10_cheapest 15 = .ok (.iconst 0, 1) := by decide +kernel
theorem dX10_cheapest_16 : decode cX10_cheapest 16 = .ok (.istore 4, 2) := by decide +kernel
theorem dX10_cheapest_18 : decode cX10_cheapest 18 = .ok (.iload 4, 2) := by decide +kernel
theorem dX10_cheapest_20 : decode cX10_cheapest 20 = .ok (.aload_n 0, 1) := by decide +kernel
theorem dX10_cheapest_21 : decode cX10_cheapest 21 = .ok (.invokevirtual 87, 3) := by decide +kernel
theorem dX10_cheapest_24 : decode cX10_cheapest 24 = .ok (.if_icmp .gt 81, 3) := by decide +kernel
theorem dX10_cheapest_27 : decode cX10_cheapest 27 = .ok (.iconst 0, 1) := by decide +kernel
theorem dX10_cheapest_28 : decode cX10_cheapest 28 = .ok (.istore 5, 2) := by decide +kernel
theorem dX10_cheapest_30 : decode cX10_cheapest 30 = .ok (.iconst 0, 1) := by decide +kernel
theorem dX10_cheapest_31 : decode cX10_cheapest 31 = .ok (.istore 6, 2) := by decide +kernel
theorem dX10_cheapest_33 : decode cX10_cheapest 33 = .ok (.iload 6, 2) := by decide +kernel
theorem dX10_cheapest_35 : decode cX10_cheapest 35 = .ok (.aload_n 0, 1) := by decide +kernel
theorem dX10_cheapest_36 : decode cX10_cheapest 36 = .ok (.getfield 48, 3) := by decide +kernel
theorem dX10_cheapest_39 : decode cX10_cheapest 39 = .ok (.if_icmp .ge 35, 3) := by decide +kernel
theorem dX10_cheapest_42 : decode cX10_cheapest 42 = .ok (.iload 5, 2) := by decide +kernel
theorem dX10_cheapest_44 : decode cX10_cheapest 44 = .ok (.iload 4, 2) := by decide +kernel
theorem dX10_cheapest_46 : decode cX10_cheapest 46 = .ok (.iload 6, 2) := by decide +kernel
theorem dX10_cheapest_48 : decode cX10_cheapest 48 = .ok (.invokestatic 70, 3) := by decide +kernel
theorem dX10_cheapest_51 : decode cX10_cheapest 51 = .ok (.ifCond .eq 13, 3) := by decide +kernel
theorem dX10_cheapest_54 : decode cX10_cheapest 54 = .ok (.aload_n 0, 1) := by decide +kernel
theorem dX10_cheapest_55 : decode cX10_cheapest 55 = .ok (.getfield 16, 3) := by decide +kernel
theorem dX10_cheapest_58 : decode cX10_cheapest 58 = .ok (.iload 6, 2) := by decide +kernel
theorem dX10_cheapest_60 : decode cX10_cheapest 60 = .ok (.iaload, 1) := by decide +kernel
theorem dX10_cheapest_61 : decode cX10_cheapest 61 = .ok (.goto 4, 3) := by decide +kernel
theorem dX10_cheapest_64 : decode cX10_cheapest 64 = .ok (.iconst 0, 1) := by decide +kernel
theorem dX10_cheapest_65 : decode cX10_cheapest 65 = .ok (.iadd, 1) := by decide +kernel
theorem dX10_cheapest_66 : decode cX10_cheapest 66 = .ok (.istore 5, 2) := by decide +kernel
theorem dX10_cheapest_68 : decode cX10_cheapest 68 = .ok (.iinc 6 1, 3) := by decide +kernel
theorem dX10_cheapest_71 : decode cX10_cheapest 71 = .ok (.goto (-38), 3) := by decide +kernel
theorem dX10_cheapest_74 : decode cX10_cheapest 74 = .ok (.iload 5, 2) := by decide +kernel
theorem dX10_cheapest_76 : decode cX10_cheapest 76 = .ok (.iload_n 3, 1) := by decide +kernel
theorem dX10_cheapest_77 : decode cX10_cheapest 77 = .ok (.if_icmp .ge 22, 3) := by decide +kernel
theorem dX10_cheapest_80 : decode cX10_cheapest 80 = .ok (.aload_n 0, 1) := by decide +kernel
theorem dX10_cheapest_81 : decode cX10_cheapest 81 = .ok (.iload_n 1, 1) := by decide +kernel
theorem dX10_cheapest_82 : decode cX10_cheapest 82 = .ok (.iload 4, 2) := by decide +kernel
theorem dX10_cheapest_84 : decode cX10_cheapest 84 = .ok (.invokevirtual 117, 3) := by decide +kernel
theorem dX10_cheapest_87 : decode cX10_cheapest 87 = .ok (.ifCond .ne 6, 3) := by decide +kernel
theorem dX10_cheapest_90 : decode cX10_cheapest 90 = .ok (.goto 9, 3) := by decide +kernel
theorem dX10_cheapest_93 : decode cX10_cheapest 93 = .ok (.iload 5, 2) := by decide +kernel
theorem dX10_cheapest_95 : decode cX10_cheapest 95 = .ok (.istore_n 3, 1) := by decide +kernel
theorem dX10_cheapest_96 : decode cX10_cheapest 96 = .ok (.iload 4, 2) := by decide +kernel
theorem dX10_cheapest_98 : decode cX10_cheapest 98 = .ok (.istore_n 2, 1) := by decide +kernel
theorem dX10_cheapest_99 : decode cX10_cheapest 99 = .ok (.iinc 4 1, 3) := by decide +kernel
theorem dX10_cheapest_102 : decode cX10_cheapest 102 = .ok (.goto (-84), 3) := by decide +kernel
theorem dX10_cheapest_105 : decode cX10_cheapest 105 = .ok (.iload_n 2, 1) := by decide +kernel
theorem dX10_cheapest_106 : decode cX10_cheapest 106 = .ok (.ireturn, 1) := by decide +kernel
theorem dX10_pared_0 : decode cX10_pared 0 = .ok (.iload_n 1, 1) := by decide +kernel
theorem dX10_pared_1 : decode cX10_pared 1 = .ok (.invokestatic 95, 3) := by decide +kernel
theorem dX10_pared_4 : decode cX10_pared 4 = .ok (.ifCond .ne 6, 3) := by decide +kernel
theorem dX10_pared_7 : decode cX10_pared 7 = .ok (.bipush (-2), 2) := by decide +kernel
theorem dX10_pared_9 : decode cX10_pared 9 = .ok (.ireturn, 1) := by decide +kernel
theorem dX10_pared_10 : decode cX10_pared 10 = .ok (.aload_n 0, 1) := by decide +kernel
theorem dX10_pared_11 : decode cX10_pared 11 = .ok (.invokevirtual 87, 3) := by decide +kernel
theorem dX10_pared_14 : decode cX10_pared 14 = .ok (.istore_n 2, 1) := by decide +kernel
theorem dX10_pared_15 : decode cX10_pared 15 = .ok (.aload_n 0, 1) := by decide +kernel
theorem dX10_pared_16 : decode cX10_pared 16 = .ok (.getfield 48, 3) := by decide +kernel
theorem dX10_pared_19 : decode cX10_pared 19 = .ok (.iconst 1, 1) := by decide +kernel
theorem dX10_pared_20 : decode cX10_pared 20 = .ok (.isub, 1) := by decide +kernel
theorem dX10_pared_21 : decode cX10_pared 21 = .ok (.istore_n 3, 1) := by decide +kernel
theorem dX10_pared_22 : decode cX10_pared 22 = .ok (.iload_n 3, 1) := by decide +kernel
theorem dX10_pared_23 : decode cX10_pared 23 = .ok (.ifCond .lt 32, 3) := by decide +kernel
theorem dX10_pared_26 : decode cX10_pared 26 = .ok (.aload_n 0, 1) := by decide +kernel
theorem dX10_pared_27 : decode cX10_pared 27 = .ok (.iload_n 1, 1) := by decide +kernel
theorem dX10_pared_28 : decode cX10_pared 28 = .ok (.iload_n 2, 1) := by decide +kernel
theorem dX10_pared_29 : decode cX10_pared 29 = .ok (.iconst 1, 1) := by decide +kernel
theorem dX10_pared_30 : decode cX10_pared 30 = .ok (.iload_n 3, 1) := by decide +kernel
theorem dX10_pared_31 : decode cX10_pared 31 = .ok (.ishl, 1) := by decide +kernel
theorem dX10_pared_32 : decode cX10_pared 32 = .ok (.iconst (-1), 1) := by decide +kernel
theorem dX10_pared_33 : decode cX10_pared 33 = .ok (.ixor, 1) := by decide +kernel
theorem dX10_pared_34 : decode cX10_pared 34 = .ok (.iand, 1) := by decide +kernel
theorem dX10_pared_35 : decode cX10_pared 35 = .ok (.invokevirtual 117, 3) := by decide +kernel
theorem dX10_pared_38 : decode cX10_pared 38 = .ok (.ifCond .eq 11, 3) := by decide +kernel
theorem dX10_pared_41 : decode cX10_pared 41 = .ok (.iload_n 2, 1) := by decide +kernel
theorem dX10_pared_42 : decode cX10_pared 42 = .ok (.iconst 1, 1) := by decide +kernel
theorem dX10_pared_43 : decode cX10_pared 43 = .ok (.iload_n 3, 1) := by decide +kernel
theorem dX10_pared_44 : decode cX10_pared 44 = .ok (.ishl, 1) := by decide +kernel
theorem dX10_pared_45 : decode cX10_pared 45 = .ok (.iconst (-1), 1) := by decide +kernel
theorem dX10_pared_46 : decode cX10_pared 46 = .ok (.ixor, 1) := by decide +kernel
theorem dX10_pared_47 : decode cX10_pared 47 = .ok (.iand, 1) := by decide +kernel
theorem dX10_pared_48 : decode cX10_pared 48 = .ok (.istore_n 2, 1) := by decide +kernel
theorem dX10_pared_49 : decode cX10_pared 49 = .ok (.iinc 3 (-1), 3) := by decide +kernel
theorem dX10_pared_52 : decode cX10_pared 52 = .ok (.goto (-30), 3) := by decide +kernel
theorem dX10_pared_55 : decode cX10_pared 55 = .ok (.iload_n 2, 1) := by decide +kernel
theorem dX10_pared_56 : decode cX10_pared 56 = .ok (.ireturn, 1) := by decide +kernel
theorem dX10_burns_0 : decode cX10_burns 0 = .ok (.aload_n 0, 1) := by decide +kernel
theorem dX10_burns_1 : decode cX10_burns 1 = .ok (.bipush 8, 2) := by decide +kernel
theorem dX10_burns_3 : decode cX10_burns 3 = .ok (.invokevirtual 84, 3) := by decide +kernel
theorem dX10_burns_6 : decode cX10_burns 6 = .ok (.ifCond .eq 4, 3) := by decide +kernel
theorem dX10_burns_9 : decode cX10_burns 9 = .ok (.return_, 1) := by decide +kernel
theorem dX10_burns_10 : decode cX10_burns 10 = .ok (.aload_n 0, 1) := by decide +kernel
theorem dX10_burns_11 : decode cX10_burns 11 = .ok (.invokevirtual 87, 3) := by decide +kernel
theorem dX10_burns_14 : decode cX10_burns 14 = .ok (.istore_n 1, 1) := by decide +kernel
theorem dX10_burns_15 : decode cX10_burns 15 = .ok (.iload_n 1, 1) := by decide +kernel
theorem dX10_burns_16 : decode cX10_burns 16 = .ok (.ifCond .lt 124, 3) := by decide +kernel
theorem dX10_burns_19 : decode cX10_burns 19 = .ok (.iload_n 1, 1) := by decide +kernel
theorem dX10_burns_20 : decode cX10_burns 20 = .ok (.aload_n 0, 1) := by decide +kernel
theorem dX10_burns_21 : decode cX10_burns 21 = .ok (.iload_n 1, 1) := by decide +kernel
theorem dX10_burns_22 : decode cX10_burns 22 = .ok (.invokevirtual 74, 3) := by decide +kernel
theorem dX10_burns_25 : decode cX10_burns 25 = .ok (.ior, 1) := by decide +kernel
theorem dX10_burns_26 : decode cX10_burns 26 = .ok (.istore_n 2, 1) := by decide +kernel
theorem dX10_burns_27 : decode cX10_burns 27 = .ok (.iload_n 1, 1) := by decide +kernel
theorem dX10_burns_28 : decode cX10_burns 28 = .ok (.aload_n 0, 1) := by decide +kernel
theorem dX10_burns_29 : decode cX10_burns 29 = .ok (.invokevirtual 87, 3) := by decide +kernel
theorem dX10_burns_32 : decode cX10_burns 32 = .ok (.if_icmp .ne 13, 3) := by decide +kernel
theorem dX10_burns_35 : decode cX10_burns 35 = .ok (.aload_n 0, 1) := by decide +kernel
theorem dX10_burns_36 : decode cX10_burns 36 = .ok (.getfield 35, 3) := by decide +kernel
theorem dX10_burns_39 : decode cX10_burns 39 = .ok (.iload_n 1, 1) := by decide +kernel
theorem dX10_burns_40 : decode cX10_burns 40 = .ok (.iconst 0, 1) := by decide +kernel
theorem dX10_burns_41 : decode cX10_burns 41 = .ok (.iastore, 1) := by decide +kernel
theorem dX10_burns_42 : decode cX10_burns 42 = .ok (.goto 92, 3) := by decide +kernel
theorem dX10_burns_45 : decode cX10_burns 45 = .ok (.iload_n 2, 1) := by decide +kernel
theorem dX10_burns_46 : decode cX10_burns 46 = .ok (.aload_n 0, 1) := by decide +kernel
theorem dX10_burns_47 : decode cX10_burns 47 = .ok (.invokevirtual 87, 3) := by decide +kernel
theorem dX10_burns_50 : decode cX10_burns 50 = .ok (.if_icmp .ne 13, 3) := by decide +kernel
theorem dX10_burns_53 : decode cX10_burns 53 = .ok (.aload_n 0, 1) := by decide +kernel
theorem dX10_burns_54 : decode cX10_burns 54 = .ok (.getfield 35, 3) := by decide +kernel
theorem dX10_burns_57 : decode cX10_burns 57 = .ok (.iload_n 1, 1) := by decide +kernel
theorem dX10_burns_58 : decode cX10_burns 58 = .ok (.iconst 1, 1) := by decide +kernel
theorem dX10_burns_59 : decode cX10_burns 59 = .ok (.iastore, 1) := by decide +kernel
theorem dX10_burns_60 : decode cX10_burns 60 = .ok (.goto 74, 3) := by decide +kernel
theorem dX10_burns_63 : decode cX10_burns 63 = .ok (.aload_n 0, 1) := by decide +kernel
theorem dX10_burns_64 : decode cX10_burns 64 = .ok (.getfield 35, 3) := by decide +kernel
theorem dX10_burns_67 : decode cX10_burns 67 = .ok (.iload_n 1, 1) := by decide +kernel
theorem dX10_burns_68 : decode cX10_burns 68 = .ok (.ldc 123, 2) := by decide +kernel
theorem dX10_burns_70 : decode cX10_burns 70 = .ok (.iastore, 1) := by decide +kernel
theorem dX10_burns_71 : decode cX10_burns 71 = .ok (.iconst 0, 1) := by decide +kernel
theorem dX10_burns_72 : decode cX10_burns 72 = .ok (.istore_n 3, 1) := by decide +kernel
theorem dX10_burns_73 : decode cX10_burns 73 = .ok (.iload_n 3, 1) := by decide +kernel
theorem dX10_burns_74 : decode cX10_burns 74 = .ok (.aload_n 0, 1) := by decide +kernel
theorem dX10_burns_75 : decode cX10_burns 75 = .ok (.getfield 48, 3) := by decide +kernel
theorem dX10_burns_78 : decode cX10_burns 78 = .ok (.if_icmp .ge 56, 3) := by decide +kernel
theorem dX10_burns_81 : decode cX10_burns 81 = .ok (.iload_n 2, 1) := by decide +kernel
theorem dX10_burns_82 : decode cX10_burns 82 = .ok (.iload_n 3, 1) := by decide +kernel
theorem dX10_burns_83 : decode cX10_burns 83 = .ok (.invokestatic 70, 3) := by decide +kernel
theorem dX10_burns_86 : decode cX10_burns 86 = .ok (.ifCond .ne 42, 3) := by decide +kernel
theorem dX10_burns_89 : decode cX10_burns 89 = .ok (.iconst 1, 1) := by decide +kernel
theorem dX10_burns_90 : decode cX10_burns 90 = .ok (.aload_n 0, 1) := by decide +kernel
theorem dX10_burns_91 : decode cX10_burns 91 = .ok (.getfield 35, 3) := by decide +kernel
theorem dX10_burns_94 : decode cX10_burns 94 = .ok (.iload_n 2, 1) := by decide +kernel
theorem dX10_burns_95 : decode cX10_burns 95 = .ok (.iconst 1, 1) := by decide +kernel
theorem dX10_burns_96 : decode cX10_burns 96 = .ok (.iload_n 3, 1) := by decide +kernel
theorem dX10_burns_97 : decode cX10_burns 97 = .ok (.ishl, 1) := by decide +kernel
theorem dX10_burns_98 : decode cX10_burns 98 = .ok (.ior, 1) := by decide +kernel
theorem dX10_burns_99 : decode cX10_burns 99 = .ok (.iaload, 1) := by decide +kernel
theorem dX10_burns_100 : decode cX10_burns 100 = .ok (.iadd, 1) := by decide +kernel
theorem dX10_burns_101 : decode cX10_burns 101 = .ok (.aload_n 0, 1) := by decide +kernel
theorem dX10_burns_102 : decode cX10_burns 102 = .ok (.getfield 35, 3) := by decide +kernel
theorem dX10_burns_105 : decode cX10_burns 105 = .ok (.iload_n 1, 1) := by decide +kernel
theorem dX10_burns_106 : decode cX10_burns 106 = .ok (.iaload, 1) := by decide +kernel
theorem dX10_burns_107 : decode cX10_burns 107 = .ok (.if_icmp .ge 21, 3) := by decide +kernel
theorem dX10_burns_110 : decode cX10_burns 110 = .ok (.aload_n 0, 1) := by decide +kernel
theorem dX10_burns_111 : decode cX10_burns 111 = .ok (.getfield 35, 3) := by decide +kernel
theorem dX10_burns_114 : decode cX10_burns 114 = .ok (.iload_n 1, 1) := by decide +kernel
theorem dX10_burns_115 : decode cX10_burns 115 = .ok (.iconst 1, 1) := by decide +kernel
theorem dX10_burns_116 : decode cX10_burns 116 = .ok (.aload_n 0, 1) := by decide +kernel
theorem dX10_burns_117 : decode cX10_burns 117 = .ok (.getfield 35, 3) := by decide +kernel
theorem dX10_burns_120 : decode cX10_burns 120 = .ok (.iload_n 2, 1) := by decide +kernel
theorem dX10_burns_121 : decode cX10_burns 121 = .ok (.iconst 1, 1) := by decide +kernel
theorem dX10_burns_122 : decode cX10_burns 122 = .ok (.iload_n 3, 1) := by decide +kernel
theorem dX10_burns_123 : decode cX10_burns 123 = .ok (.ishl, 1) := by decide +kernel
theorem dX10_burns_124 : decode cX10_burns 124 = .ok (.ior, 1) := by decide +kernel
theorem dX10_burns_125 : decode cX10_burns 125 = .ok (.iaload, 1) := by decide +kernel
theorem dX10_burns_126 : decode cX10_burns 126 = .ok (.iadd, 1) := by decide +kernel
theorem dX10_burns_127 : decode cX10_burns 127 = .ok (.iastore, 1) := by decide +kernel
theorem dX10_burns_128 : decode cX10_burns 128 = .ok (.iinc 3 1, 3) := by decide +kernel
theorem dX10_burns_131 : decode cX10_burns 131 = .ok (.goto (-58), 3) := by decide +kernel
theorem dX10_burns_134 : decode cX10_burns 134 = .ok (.iinc 1 (-1), 3) := by decide +kernel
theorem dX10_burns_137 : decode cX10_burns 137 = .ok (.goto (-122), 3) := by decide +kernel
theorem dX10_burns_140 : decode cX10_burns 140 = .ok (.return_, 1) := by decide +kernel
theorem dX10_burn_0 : decode cX10_burn 0 = .ok (.aload_n 0, 1) := by decide +kernel
end
section
theorem dX10_burn_1 : decode cX10_burn 1 = .ok (.invokevirtual 124, 3) := by decide +kernel
theorem dX10_burn_4 : decode cX10_burn 4 = .ok (.aload_n 0, 1) := by decide +kernel
theorem dX10_burn_5 : decode cX10_burn 5 = .ok (.getfield 35, 3) := by decide +kernel
theorem dX10_burn_8 : decode cX10_burn 8 = .ok (.iconst 0, 1) := by decide +kernel
theorem dX10_burn_9 : decode cX10_burn 9 = .ok (.iaload, 1) := by decide +kernel
theorem dX10_burn_10 : decode cX10_burn 10 = .ok (.ireturn, 1) := by decide +kernel
theorem dX10_hand_0 : decode cX10_hand 0 = .ok (.aload_n 0, 1) := by decide +kernel
theorem dX10_hand_1 : decode cX10_hand 1 = .ok (.invokevirtual 124, 3) := by decide +kernel
theorem dX10_hand_4 : decode cX10_hand 4 = .ok (.iconst 0, 1) := by decide +kernel
theorem dX10_hand_5 : decode cX10_hand 5 = .ok (.istore_n 2, 1) := by decide +kernel
theorem dX10_hand_6 : decode cX10_hand 6 = .ok (.iconst 0, 1) := by decide +kernel
theorem dX10_hand_7 : decode cX10_hand 7 = .ok (.istore_n 3, 1) := by decide +kernel
theorem dX10_hand_8 : decode cX10_hand 8 = .ok (.iload_n 2, 1) := by decide +kernel
theorem dX10_hand_9 : decode cX10_hand 9 = .ok (.aload_n 0, 1) := by decide +kernel
theorem dX10_hand_10 : decode cX10_hand 10 = .ok (.invokevirtual 87, 3) := by decide +kernel
theorem dX10_hand_13 : decode cX10_hand 13 = .ok (.if_icmp .eq 87, 3) := by decide +kernel
theorem dX10_hand_16 : decode cX10_hand 16 = .ok (.iload_n 2, 1) := by decide +kernel
theorem dX10_hand_17 : decode cX10_hand 17 = .ok (.aload_n 0, 1) := by decide +kernel
theorem dX10_hand_18 : decode cX10_hand 18 = .ok (.iload_n 2, 1) := by decide +kernel
theorem dX10_hand_19 : decode cX10_hand 19 = .ok (.invokevirtual 74, 3) := by decide +kernel
theorem dX10_hand_22 : decode cX10_hand 22 = .ok (.ior, 1) := by decide +kernel
theorem dX10_hand_23 : decode cX10_hand 23 = .ok (.istore 4, 2) := by decide +kernel
theorem dX10_hand_25 : decode cX10_hand 25 = .ok (.iload 4, 2) := by decide +kernel
theorem dX10_hand_27 : decode cX10_hand 27 = .ok (.aload_n 0, 1) := by decide +kernel
theorem dX10_hand_28 : decode cX10_hand 28 = .ok (.invokevirtual 87, 3) := by decide +kernel
theorem dX10_hand_31 : decode cX10_hand 31 = .ok (.if_icmp .ne 5, 3) := by decide +kernel
theorem dX10_hand_34 : decode cX10_hand 34 = .ok (.iconst (-1), 1) := by decide +kernel
theorem dX10_hand_35 : decode cX10_hand 35 = .ok (.ireturn, 1) := by decide +kernel
theorem dX10_hand_36 : decode cX10_hand 36 = .ok (.iconst 0, 1) := by decide +kernel
theorem dX10_hand_37 : decode cX10_hand 37 = .ok (.istore 5, 2) := by decide +kernel
theorem dX10_hand_39 : decode cX10_hand 39 = .ok (.iload 4, 2) := by decide +kernel
theorem dX10_hand_41 : decode cX10_hand 41 = .ok (.iload 5, 2) := by decide +kernel
theorem dX10_hand_43 : decode cX10_hand 43 = .ok (.invokestatic 70, 3) := by decide +kernel
theorem dX10_hand_46 : decode cX10_hand 46 = .ok (.ifCond .ne 26, 3) := by decide +kernel
theorem dX10_hand_49 : decode cX10_hand 49 = .ok (.iconst 1, 1) := by decide +kernel
theorem dX10_hand_50 : decode cX10_hand 50 = .ok (.aload_n 0, 1) := by decide +kernel
theorem dX10_hand_51 : decode cX10_hand 51 = .ok (.getfield 35, 3) := by decide +kernel
theorem dX10_hand_54 : decode cX10_hand 54 = .ok (.iload 4, 2) := by decide +kernel
theorem dX10_hand_56 : decode cX10_hand 56 = .ok (.iconst 1, 1) := by decide +kernel
theorem dX10_hand_57 : decode cX10_hand 57 = .ok (.iload 5, 2) := by decide +kernel
theorem dX10_hand_59 : decode cX10_hand 59 = .ok (.ishl, 1) := by decide +kernel
theorem dX10_hand_60 : decode cX10_hand 60 = .ok (.ior, 1) := by decide +kernel
theorem dX10_hand_61 : decode cX10_hand 61 = .ok (.iaload, 1) := by decide +kernel
theorem dX10_hand_62 : decode cX10_hand 62 = .ok (.iadd, 1) := by decide +kernel
theorem dX10_hand_63 : decode cX10_hand 63 = .ok (.aload_n 0, 1) := by decide +kernel
theorem dX10_hand_64 : decode cX10_hand 64 = .ok (.getfield 35, 3) := by decide +kernel
theorem dX10_hand_67 : decode cX10_hand 67 = .ok (.iload_n 2, 1) := by decide +kernel
theorem dX10_hand_68 : decode cX10_hand 68 = .ok (.iaload, 1) := by decide +kernel
theorem dX10_hand_69 : decode cX10_hand 69 = .ok (.if_icmp .eq 9, 3) := by decide +kernel
theorem dX10_hand_72 : decode cX10_hand 72 = .ok (.iinc 5 1, 3) := by decide +kernel
theorem dX10_hand_75 : decode cX10_hand 75 = .ok (.goto (-36), 3) := by decide +kernel
theorem dX10_hand_78 : decode cX10_hand 78 = .ok (.iload_n 3, 1) := by decide +kernel
theorem dX10_hand_79 : decode cX10_hand 79 = .ok (.iload_n 1, 1) := by decide +kernel
theorem dX10_hand_80 : decode cX10_hand 80 = .ok (.if_icmp .ne 6, 3) := by decide +kernel
theorem dX10_hand_83 : decode cX10_hand 83 = .ok (.iload 5, 2) := by decide +kernel
theorem dX10_hand_85 : decode cX10_hand 85 = .ok (.ireturn, 1) := by decide +kernel
theorem dX10_hand_86 : decode cX10_hand 86 = .ok (.iinc 3 1, 3) := by decide +kernel
theorem dX10_hand_89 : decode cX10_hand 89 = .ok (.iload 4, 2) := by decide +kernel
theorem dX10_hand_91 : decode cX10_hand 91 = .ok (.iconst 1, 1) := by decide +kernel
theorem dX10_hand_92 : decode cX10_hand 92 = .ok (.iload 5, 2) := by decide +kernel
theorem dX10_hand_94 : decode cX10_hand 94 = .ok (.ishl, 1) := by decide +kernel
theorem dX10_hand_95 : decode cX10_hand 95 = .ok (.ior, 1) := by decide +kernel
theorem dX10_hand_96 : decode cX10_hand 96 = .ok (.istore_n 2, 1) := by decide +kernel
theorem dX10_hand_97 : decode cX10_hand 97 = .ok (.goto (-89), 3) := by decide +kernel
theorem dX10_hand_100 : decode cX10_hand 100 = .ok (.iconst (-1), 1) := by decide +kernel
theorem dX10_hand_101 : decode cX10_hand 101 = .ok (.ireturn, 1) := by decide +kernel
theorem dX10_burnt_0 : decode cX10_burnt 0 = .ok (.lload_n 1, 1) := by decide +kernel
theorem dX10_burnt_1 : decode cX10_burnt 1 = .ok (.lconst 0, 1) := by decide +kernel
theorem dX10_burnt_2 : decode cX10_burnt 2 = .ok (.lcmp, 1) := by decide +kernel
theorem dX10_burnt_3 : decode cX10_burnt 3 = .ok (.ifCond .ge 6, 3) := by decide +kernel
theorem dX10_burnt_6 : decode cX10_burnt 6 = .ok (.bipush (-2), 2) := by decide +kernel
theorem dX10_burnt_8 : decode cX10_burnt 8 = .ok (.ireturn, 1) := by decide +kernel
theorem dX10_burnt_9 : decode cX10_burnt 9 = .ok (.lload_n 1, 1) := by decide +kernel
theorem dX10_burnt_10 : decode cX10_burnt 10 = .ok (.lstore_n 3, 1) := by decide +kernel
theorem dX10_burnt_11 : decode cX10_burnt 11 = .ok (.iconst 0, 1) := by decide +kernel
theorem dX10_burnt_12 : decode cX10_burnt 12 = .ok (.istore 5, 2) := by decide +kernel
theorem dX10_burnt_14 : decode cX10_burnt 14 = .ok (.iconst 0, 1) := by decide +kernel
theorem dX10_burnt_15 : decode cX10_burnt 15 = .ok (.istore 6, 2) := by decide +kernel
theorem dX10_burnt_17 : decode cX10_burnt 17 = .ok (.iload 5, 2) := by decide +kernel
theorem dX10_burnt_19 : decode cX10_burnt 19 = .ok (.aload_n 0, 1) := by decide +kernel
theorem dX10_burnt_20 : decode cX10_burnt 20 = .ok (.invokevirtual 87, 3) := by decide +kernel
theorem dX10_burnt_23 : decode cX10_burnt 23 = .ok (.if_icmp .eq 101, 3) := by decide +kernel
theorem dX10_burnt_26 : decode cX10_burnt 26 = .ok (.iinc 6 1, 3) := by decide +kernel
theorem dX10_burnt_29 : decode cX10_burnt 29 = .ok (.iload 5, 2) := by decide +kernel
theorem dX10_burnt_31 : decode cX10_burnt 31 = .ok (.istore 7, 2) := by decide +kernel
theorem dX10_burnt_33 : decode cX10_burnt 33 = .ok (.iload 5, 2) := by decide +kernel
theorem dX10_burnt_35 : decode cX10_burnt 35 = .ok (.aload_n 0, 1) := by decide +kernel
theorem dX10_burnt_36 : decode cX10_burnt 36 = .ok (.iload 5, 2) := by decide +kernel
theorem dX10_burnt_38 : decode cX10_burnt 38 = .ok (.invokevirtual 74, 3) := by decide +kernel
theorem dX10_burnt_41 : decode cX10_burnt 41 = .ok (.ior, 1) := by decide +kernel
theorem dX10_burnt_42 : decode cX10_burnt 42 = .ok (.istore 5, 2) := by decide +kernel
theorem dX10_burnt_44 : decode cX10_burnt 44 = .ok (.iload 5, 2) := by decide +kernel
theorem dX10_burnt_46 : decode cX10_burnt 46 = .ok (.aload_n 0, 1) := by decide +kernel
theorem dX10_burnt_47 : decode cX10_burnt 47 = .ok (.invokevirtual 87, 3) := by decide +kernel
theorem dX10_burnt_50 : decode cX10_burnt 50 = .ok (.if_icmp .ne 6, 3) := by decide +kernel
theorem dX10_burnt_53 : decode cX10_burnt 53 = .ok (.iload 6, 2) := by decide +kernel
theorem dX10_burnt_55 : decode cX10_burnt 55 = .ok (.ireturn, 1) := by decide +kernel
theorem dX10_burnt_56 : decode cX10_burnt 56 = .ok (.lload_n 3, 1) := by decide +kernel
theorem dX10_burnt_57 : decode cX10_burnt 57 = .ok (.lconst 0, 1) := by decide +kernel
theorem dX10_burnt_58 : decode cX10_burnt 58 = .ok (.lcmp, 1) := by decide +kernel
theorem dX10_burnt_59 : decode cX10_burnt 59 = .ok (.ifCond .le 53, 3) := by decide +kernel
theorem dX10_burnt_62 : decode cX10_burnt 62 = .ok (.lload_n 3, 1) := by decide +kernel
theorem dX10_burnt_63 : decode cX10_burnt 63 = .ok (.ldc2_w 127, 3) := by decide +kernel
theorem dX10_burnt_66 : decode cX10_burnt 66 = .ok (.lrem, 1) := by decide +kernel
theorem dX10_burnt_67 : decode cX10_burnt 67 = .ok (.l2i, 1) := by decide +kernel
theorem dX10_burnt_68 : decode cX10_burnt 68 = .ok (.iconst 1, 1) := by decide +kernel
theorem dX10_burnt_69 : decode cX10_burnt 69 = .ok (.isub, 1) := by decide +kernel
theorem dX10_burnt_70 : decode cX10_burnt 70 = .ok (.istore 8, 2) := by decide +kernel
theorem dX10_burnt_72 : decode cX10_burnt 72 = .ok (.lload_n 3, 1) := by decide +kernel
theorem dX10_burnt_73 : decode cX10_burnt 73 = .ok (.ldc2_w 127, 3) := by decide +kernel
theorem dX10_burnt_76 : decode cX10_burnt 76 = .ok (.ldiv, 1) := by decide +kernel
theorem dX10_burnt_77 : decode cX10_burnt 77 = .ok (.lstore_n 3, 1) := by decide +kernel
theorem dX10_burnt_78 : decode cX10_burnt 78 = .ok (.aload_n 0, 1) := by decide +kernel
theorem dX10_burnt_79 : decode cX10_burnt 79 = .ok (.iload 8, 2) := by decide +kernel
theorem dX10_burnt_81 : decode cX10_burnt 81 = .ok (.invokevirtual 59, 3) := by decide +kernel
theorem dX10_burnt_84 : decode cX10_burnt 84 = .ok (.ifCond .eq 13, 3) := by decide +kernel
theorem dX10_burnt_87 : decode cX10_burnt 87 = .ok (.iload 5, 2) := by decide +kernel
theorem dX10_burnt_89 : decode cX10_burnt 89 = .ok (.iload 8, 2) := by decide +kernel
theorem dX10_burnt_91 : decode cX10_burnt 91 = .ok (.invokestatic 70, 3) := by decide +kernel
theorem dX10_burnt_94 : decode cX10_burnt 94 = .ok (.ifCond .eq 6, 3) := by decide +kernel
theorem dX10_burnt_97 : decode cX10_burnt 97 = .ok (.bipush (-2), 2) := by decide +kernel
theorem dX10_burnt_99 : decode cX10_burnt 99 = .ok (.ireturn, 1) := by decide +kernel
theorem dX10_burnt_100 : decode cX10_burnt 100 = .ok (.iload 5, 2) := by decide +kernel
theorem dX10_burnt_102 : decode cX10_burnt 102 = .ok (.iconst 1, 1) := by decide +kernel
theorem dX10_burnt_103 : decode cX10_burnt 103 = .ok (.iload 8, 2) := by decide +kernel
theorem dX10_burnt_105 : decode cX10_burnt 105 = .ok (.ishl, 1) := by decide +kernel
theorem dX10_burnt_106 : decode cX10_burnt 106 = .ok (.ior, 1) := by decide +kernel
theorem dX10_burnt_107 : decode cX10_burnt 107 = .ok (.istore 5, 2) := by decide +kernel
theorem dX10_burnt_109 : decode cX10_burnt 109 = .ok (.goto 12, 3) := by decide +kernel
theorem dX10_burnt_112 : decode cX10_burnt 112 = .ok (.iload 5, 2) := by decide +kernel
theorem dX10_burnt_114 : decode cX10_burnt 114 = .ok (.iload 7, 2) := by decide +kernel
theorem dX10_burnt_116 : decode cX10_burnt 116 = .ok (.if_icmp .ne 5, 3) := by decide +kernel
theorem dX10_burnt_119 : decode cX10_burnt 119 = .ok (.iconst (-1), 1) := by decide +kernel
theorem dX10_burnt_120 : decode cX10_burnt 120 = .ok (.ireturn, 1) := by decide +kernel
theorem dX10_burnt_121 : decode cX10_burnt 121 = .ok (.goto (-104), 3) := by decide +kernel
theorem dX10_burnt_124 : decode cX10_burnt 124 = .ok (.iload 6, 2) := by decide +kernel
theorem dX10_burnt_126 : decode cX10_burnt 126 = .ok (.ireturn, 1) := by decide +kernel
theorem dX10_next_0 : decode cX10_next 0 = .ok (.iload_n 1, 1) := by decide +kernel
theorem dX10_next_1 : decode cX10_next 1 = .ok (.aload_n 0, 1) := by decide +kernel
theorem dX10_next_2 : decode cX10_next 2 = .ok (.iload_n 1, 1) := by decide +kernel
theorem dX10_next_3 : decode cX10_next 3 = .ok (.invokevirtual 74, 3) := by decide +kernel
theorem dX10_next_6 : decode cX10_next 6 = .ok (.iload_n 2, 1) := by decide +kernel
theorem dX10_next_7 : decode cX10_next 7 = .ok (.iconst (-1), 1) := by decide +kernel
theorem dX10_next_8 : decode cX10_next 8 = .ok (.ixor, 1) := by decide +kernel
theorem dX10_next_9 : decode cX10_next 9 = .ok (.iand, 1) := by decide +kernel
theorem dX10_next_10 : decode cX10_next 10 = .ok (.ior, 1) := by decide +kernel
theorem dX10_next_11 : decode cX10_next 11 = .ok (.ireturn, 1) := by decide +kernel
theorem dX10_behindWall_0 : decode cX10_behindWall 0 = .ok (.aload_n 0, 1) := by decide +kernel
theorem dX10_behindWall_1 : decode cX10_behindWall 1 = .ok (.iload_n 1, 1) := by decide +kernel
theorem dX10_behindWall_2 : decode cX10_behindWall 2 = .ok (.iload_n 2, 1) := by decide +kernel
theorem dX10_behindWall_3 : decode cX10_behindWall 3 = .ok (.invokevirtual 129, 3) := by decide +kernel
theorem dX10_behindWall_6 : decode cX10_behindWall 6 = .ok (.istore_n 3, 1) := by decide +kernel
theorem dX10_behindWall_7 : decode cX10_behindWall 7 = .ok (.iload_n 3, 1) := by decide +kernel
theorem dX10_behindWall_8 : decode cX10_behindWall 8 = .ok (.iload_n 1, 1) := by decide +kernel
theorem dX10_behindWall_9 : decode cX10_behindWall 9 = .ok (.if_icmp .ne 15, 3) := by decide +kernel
theorem dX10_behindWall_12 : decode cX10_behindWall 12 = .ok (.aload_n 0, 1) := by decide +kernel
theorem dX10_behindWall_13 : decode cX10_behindWall 13 = .ok (.getfield 48, 3) := by decide +kernel
theorem dX10_behindWall_16 : decode cX10_behindWall 16 = .ok (.iload_n 1, 1) := by decide +kernel
theorem dX10_behindWall_17 : decode cX10_behindWall 17 = .ok (.invokestatic 111, 3) := by decide +kernel
theorem dX10_behindWall_20 : decode cX10_behindWall 20 = .ok (.isub, 1) := by decide +kernel
theorem dX10_behindWall_21 : decode cX10_behindWall 21 = .ok (.goto 15, 3) := by decide +kernel
theorem dX10_behindWall_24 : decode cX10_behindWall 24 = .ok (.aload_n 0, 1) := by decide +kernel
theorem dX10_behindWall_25 : decode cX10_behindWall 25 = .ok (.getfield 39, 3) := by decide +kernel
theorem dX10_behindWall_28 : decode cX10_behindWall 28 = .ok (.sipush 1024, 3) := by decide +kernel
theorem dX10_behindWall_31 : decode cX10_behindWall 31 = .ok (.iload_n 3, 1) := by decide +kernel
theorem dX10_behindWall_32 : decode cX10_behindWall 32 = .ok (.imul, 1) := by decide +kernel
theorem dX10_behindWall_33 : decode cX10_behindWall 33 = .ok (.iload_n 2, 1) := by decide +kernel
theorem dX10_behindWall_34 : decode cX10_behindWall 34 = .ok (.iadd, 1) := by decide +kernel
theorem dX10_behindWall_35 : decode cX10_behindWall 35 = .ok (.iaload, 1) := by decide +kernel
theorem dX10_behindWall_36 : decode cX10_behindWall 36 = .ok (.ireturn, 1) := by decide +kernel
theorem dX10_saves_0 : decode cX10_saves 0 = .ok (.aload_n 0, 1) := by decide +kernel
theorem dX10_saves_1 : decode cX10_saves 1 = .ok (.bipush 9, 2) := by decide +kernel
theorem dX10_saves_3 : decode cX10_saves 3 = .ok (.invokevirtual 84, 3) := by decide +kernel
theorem dX10_saves_6 : decode cX10_saves 6 = .ok (.ifCond .eq 4, 3) := by decide +kernel
theorem dX10_saves_9 : decode cX10_saves 9 = .ok (.return_, 1) := by decide +kernel
theorem dX10_saves_10 : decode cX10_saves 10 = .ok (.aload_n 0, 1) := by decide +kernel
theorem dX10_saves_11 : decode cX10_saves 11 = .ok (.invokevirtual 87, 3) := by decide +kernel
theorem dX10_saves_14 : decode cX10_saves 14 = .ok (.istore_n 1, 1) := by decide +kernel
theorem dX10_saves_15 : decode cX10_saves 15 = .ok (.iload_n 1, 1) := by decide +kernel
theorem dX10_saves_16 : decode cX10_saves 16 = .ok (.ifCond .lt 123, 3) := by decide +kernel
theorem dX10_saves_19 : decode cX10_saves 19 = .ok (.iconst 0, 1) := by decide +kernel
theorem dX10_saves_20 : decode cX10_saves 20 = .ok (.istore_n 2, 1) := by decide +kernel
theorem dX10_saves_21 : decode cX10_saves 21 = .ok (.iload_n 2, 1) := by decide +kernel
theorem dX10_saves_22 : decode cX10_saves 22 = .ok (.aload_n 0, 1) := by decide +kernel
theorem dX10_saves_23 : decode cX10_saves 23 = .ok (.invokevirtual 87, 3) := by decide +kernel
theorem dX10_saves_26 : decode cX10_saves 26 = .ok (.if_icmp .gt 107, 3) := by decide +kernel
theorem dX10_saves_29 : decode cX10_saves 29 = .ok (.iload_n 2, 1) := by decide +kernel
theorem dX10_saves_30 : decode cX10_saves 30 = .ok (.iload_n 1, 1) := by decide +kernel
theorem dX10_saves_31 : decode cX10_saves 31 = .ok (.iand, 1) := by decide +kernel
theorem dX10_saves_32 : decode cX10_saves 32 = .ok (.ifCond .eq 6, 3) := by decide +kernel
theorem dX10_saves_35 : decode cX10_saves 35 = .ok (.goto 92, 3) := by decide +kernel
theorem dX10_saves_38 : decode cX10_saves 38 = .ok (.iconst (-1), 1) := by decide +kernel
theorem dX10_saves_39 : decode cX10_saves 39 = .ok (.istore_n 3, 1) := by decide +kernel
theorem dX10_saves_40 : decode cX10_saves 40 = .ok (.iconst 0, 1) := by decide +kernel
theorem dX10_saves_41 : decode cX10_saves 41 = .ok (.istore 4, 2) := by decide +kernel
theorem dX10_saves_43 : decode cX10_saves 43 = .ok (.iload 4, 2) := by decide +kernel
theorem dX10_saves_45 : decode cX10_saves 45 = .ok (.aload_n 0, 1) := by decide +kernel
theorem dX10_saves_46 : decode cX10_saves 46 = .ok (.getfield 48, 3) := by decide +kernel
theorem dX10_saves_49 : decode cX10_saves 49 = .ok (.if_icmp .ge 49, 3) := by decide +kernel
theorem dX10_saves_52 : decode cX10_saves 52 = .ok (.iload_n 1, 1) := by decide +kernel
theorem dX10_saves_53 : decode cX10_saves 53 = .ok (.iload_n 2, 1) := by decide +kernel
theorem dX10_saves_54 : decode cX10_saves 54 = .ok (.ior, 1) := by decide +kernel
theorem dX10_saves_55 : decode cX10_saves 55 = .ok (.iload 4, 2) := by decide +kernel
theorem dX10_saves_57 : decode cX10_saves 57 = .ok (.invokestatic 70, 3) := by decide +kernel
theorem dX10_saves_60 : decode cX10_saves 60 = .ok (.ifCond .eq 6, 3) := by decide +kernel
theorem dX10_saves_63 : decode cX10_saves 63 = .ok (.goto 29, 3) := by decide +kernel
theorem dX10_saves_66 : decode cX10_saves 66 = .ok (.aload_n 0, 1) := by decide +kernel
theorem dX10_saves_67 : decode cX10_saves 67 = .ok (.iload_n 1, 1) := by decide +kernel
theorem dX10_saves_68 : decode cX10_saves 68 = .ok (.iload_n 2, 1) := by decide +kernel
theorem dX10_saves_69 : decode cX10_saves 69 = .ok (.iconst 1, 1) := by decide +kernel
theorem dX10_saves_70 : decode cX10_saves 70 = .ok (.iload 4, 2) := by decide +kernel
theorem dX10_saves_72 : decode cX10_saves 72 = .ok (.ishl, 1) := by decide +kernel
theorem dX10_saves_73 : decode cX10_saves 73 = .ok (.ior, 1) := by decide +kernel
theorem dX10_saves_74 : decode cX10_saves 74 = .ok (.invokevirtual 132, 3) := by decide +kernel
theorem dX10_saves_77 : decode cX10_saves 77 = .ok (.istore 5, 2) := by decide +kernel
theorem dX10_saves_79 : decode cX10_saves 79 = .ok (.iload 5, 2) := by decide +kernel
theorem dX10_saves_81 : decode cX10_saves 81 = .ok (.iload_n 3, 1) := by decide +kernel
theorem dX10_saves_82 : decode cX10_saves 82 = .ok (.if_icmp .le 8, 3) := by decide +kernel
theorem dX10_saves_85 : decode cX10_saves 85 = .ok (.iload 5, 2) := by decide +kernel
theorem dX10_saves_87 : decode cX10_saves 87 = .ok (.goto 4, 3) := by decide +kernel
theorem dX10_saves_90 : decode cX10_saves 90 = .ok (.iload_n 3, 1) := by decide +kernel
theorem dX10_saves_91 : decode cX10_saves 91 = .ok (.istore_n 3, 1) := by decide +kernel
theorem dX10_saves_92 : decode cX10_saves 92 = .ok (.iinc 4 1, 3) := by decide +kernel
theorem dX10_saves_95 : decode cX10_saves 95 = .ok (.goto (-52), 3) := by decide +kernel
theorem dX10_saves_98 : decode cX10_saves 98 = .ok (.aload_n 0, 1) := by decide +kernel
theorem dX10_saves_99 : decode cX10_saves 99 = .ok (.getfield 39, 3) := by decide +kernel
theorem dX10_saves_102 : decode cX10_saves 102 = .ok (.sipush 1024, 3) := by decide +kernel
theorem dX10_saves_105 : decode cX10_saves 105 = .ok (.iload_n 1, 1) := by decide +kernel
theorem dX10_saves_106 : decode cX10_saves 106 = .ok (.imul, 1) := by decide +kernel
theorem dX10_saves_107 : decode cX10_saves 107 = .ok (.iload_n 2, 1) := by decide +kernel
theorem dX10_saves_108 : decode cX10_saves 108 = .ok (.iadd, 1) := by decide +kernel
theorem dX10_saves_109 : decode cX10_saves 109 = .ok (.iload_n 3, 1) := by decide +kernel
theorem dX10_saves_110 : decode cX10_saves 110 = .ok (.ifCond .ge 15, 3) := by decide +kernel
theorem dX10_saves_113 : decode cX10_saves 113 = .ok (.aload_n 0, 1) := by decide +kernel
theorem dX10_saves_114 : decode cX10_saves 114 = .ok (.getfield 48, 3) := by decide +kernel
theorem dX10_saves_117 : decode cX10_saves 117 = .ok (.iload_n 1, 1) := by decide +kernel
theorem dX10_saves_118 : decode cX10_saves 118 = .ok (.invokestatic 111, 3) := by decide +kernel
theorem dX10_saves_121 : decode cX10_saves 121 = .ok (.isub, 1) := by decide +kernel
theorem dX10_saves_122 : decode cX10_saves 122 = .ok (.goto 4, 3) := by decide +kernel
theorem dX10_saves_125 : decode cX10_saves 125 = .ok (.iload_n 3, 1) := by decide +kernel
theorem dX10_saves_126 : decode cX10_saves 126 = .ok (.iastore, 1) := by decide +kernel
theorem dX10_saves_127 : decode cX10_saves 127 = .ok (.iinc 2 1, 3) := by decide +kernel
theorem dX10_saves_130 : decode cX10_saves 130 = .ok (.goto (-109), 3) := by decide +kernel
theorem dX10_saves_133 : decode cX10_saves 133 = .ok (.iinc 1 (-1), 3) := by decide +kernel
theorem dX10_saves_136 : decode cX10_saves 136 = .ok (.goto (-121), 3) := by decide +kernel
theorem dX10_saves_139 : decode cX10_saves 139 = .ok (.return_, 1) := by decide +kernel
theorem dX10_save_0 : decode cX10_save 0 = .ok (.aload_n 0, 1) := by decide +kernel
theorem dX10_save_1 : decode cX10_save 1 = .ok (.iload_n 1, 1) := by decide +kernel
theorem dX10_save_2 : decode cX10_save 2 = .ok (.invokevirtual 98, 3) := by decide +kernel
theorem dX10_save_5 : decode cX10_save 5 = .ok (.ifCond .eq 12, 3) := by decide +kernel
theorem dX10_save_8 : decode cX10_save 8 = .ok (.aload_n 0, 1) := by decide +kernel
theorem dX10_save_9 : decode cX10_save 9 = .ok (.getfield 48, 3) := by decide +kernel
theorem dX10_save_12 : decode cX10_save 12 = .ok (.bipush 10, 2) := by decide +kernel
theorem dX10_save_14 : decode cX10_save 14 = .ok (.if_icmp .le 6, 3) := by decide +kernel
theorem dX10_save_17 : decode cX10_save 17 = .ok (.bipush (-2), 2) := by decide +kernel
theorem dX10_save_19 : decode cX10_save 19 = .ok (.ireturn, 1) := by decide +kernel
theorem dX10_save_20 : decode cX10_save 20 = .ok (.aload_n 0, 1) := by decide +kernel
theorem dX10_save_21 : decode cX10_save 21 = .ok (.invokevirtual 135, 3) := by decide +kernel
theorem dX10_save_24 : decode cX10_save 24 = .ok (.aload_n 0, 1) := by decide +kernel
theorem dX10_save_25 : decode cX10_save 25 = .ok (.getfield 39, 3) := by decide +kernel
theorem dX10_save_28 : decode cX10_save 28 = .ok (.sipush 1024, 3) := by decide +kernel
theorem dX10_save_31 : decode cX10_save 31 = .ok (.iload_n 1, 1) := by decide +kernel
theorem dX10_save_32 : decode cX10_save 32 = .ok (.imul, 1) := by decide +kernel
theorem dX10_save_33 : decode cX10_save 33 = .ok (.iaload, 1) := by decide +kernel
theorem dX10_save_34 : decode cX10_save 34 = .ok (.ireturn, 1) := by decide +kernel
theorem dX10_wall_0 : decode cX10_wall 0 = .ok (.aload_n 0, 1) := by decide +kernel
theorem dX10_wall_1 : decode cX10_wall 1 = .ok (.iload_n 1, 1) := by decide +kernel
theorem dX10_wall_2 : decode cX10_wall 2 = .ok (.invokevirtual 98, 3) := by decide +kernel
theorem dX10_wall_5 : decode cX10_wall 5 = .ok (.ifCond .eq 12, 3) := by decide +kernel
theorem dX10_wall_8 : decode cX10_wall 8 = .ok (.aload_n 0, 1) := by decide +kernel
theorem dX10_wall_9 : decode cX10_wall 9 = .ok (.getfield 48, 3) := by decide +kernel
theorem dX10_wall_12 : decode cX10_wall 12 = .ok (.bipush 10, 2) := by decide +kernel
theorem dX10_wall_14 : decode cX10_wall 14 = .ok (.if_icmp .le 6, 3) := by decide +kernel
theorem dX10_wall_17 : decode cX10_wall 17 = .ok (.bipush (-2), 2) := by decide +kernel
theorem dX10_wall_19 : decode cX10_wall 19 = .ok (.ireturn, 1) := by decide +kernel
theorem dX10_wall_20 : decode cX10_wall 20 = .ok (.aload_n 0, 1) := by decide +kernel
theorem dX10_wall_21 : decode cX10_wall 21 = .ok (.invokevirtual 135, 3) := by decide +kernel
theorem dX10_wall_24 : decode cX10_wall 24 = .ok (.iload_n 1, 1) := by decide +kernel
theorem dX10_wall_25 : decode cX10_wall 25 = .ok (.istore_n 3, 1) := by decide +kernel
theorem dX10_wall_26 : decode cX10_wall 26 = .ok (.iconst 0, 1) := by decide +kernel
theorem dX10_wall_27 : decode cX10_wall 27 = .ok (.istore 4, 2) := by decide +kernel
theorem dX10_wall_29 : decode cX10_wall 29 = .ok (.iconst 0, 1) := by decide +kernel
theorem dX10_wall_30 : decode cX10_wall 30 = .ok (.istore 5, 2) := by decide +kernel
theorem dX10_wall_32 : decode cX10_wall 32 = .ok (.iload_n 3, 1) := by decide +kernel
theorem dX10_wall_33 : decode cX10_wall 33 = .ok (.iload 4, 2) := by decide +kernel
theorem dX10_wall_35 : decode cX10_wall 35 = .ok (.ior, 1) := by decide +kernel
theorem dX10_wall_36 : decode cX10_wall 36 = .ok (.aload_n 0, 1) := by decide +kernel
theorem dX10_wall_37 : decode cX10_wall 37 = .ok (.invokevirtual 87, 3) := by decide +kernel
theorem dX10_wall_40 : decode cX10_wall 40 = .ok (.if_icmp .eq 96, 3) := by decide +kernel
theorem dX10_wall_43 : decode cX10_wall 43 = .ok (.iconst 0, 1) := by decide +kernel
theorem dX10_wall_44 : decode cX10_wall 44 = .ok (.istore 6, 2) := by decide +kernel
theorem dX10_wall_46 : decode cX10_wall 46 = .ok (.iload_n 3, 1) := by decide +kernel
theorem dX10_wall_47 : decode cX10_wall 47 = .ok (.iload 4, 2) := by decide +kernel
theorem dX10_wall_49 : decode cX10_wall 49 = .ok (.ior, 1) := by decide +kernel
theorem dX10_wall_50 : decode cX10_wall 50 = .ok (.iload 6, 2) := by decide +kernel
theorem dX10_wall_52 : decode cX10_wall 52 = .ok (.invokestatic 70, 3) := by decide +kernel
theorem dX10_wall_55 : decode cX10_wall 55 = .ok (.ifCond .ne 31, 3) := by decide +kernel
theorem dX10_wall_58 : decode cX10_wall 58 = .ok (.aload_n 0, 1) := by decide +kernel
theorem dX10_wall_59 : decode cX10_wall 59 = .ok (.iload_n 3, 1) := by decide +kernel
theorem dX10_wall_60 : decode cX10_wall 60 = .ok (.iload 4, 2) := by decide +kernel
theorem dX10_wall_62 : decode cX10_wall 62 = .ok (.iconst 1, 1) := by decide +kernel
theorem dX10_wall_63 : decode cX10_wall 63 = .ok (.iload 6, 2) := by decide +kernel
theorem dX10_wall_65 : decode cX10_wall 65 = .ok (.ishl, 1) := by decide +kernel
theorem dX10_wall_66 : decode cX10_wall 66 = .ok (.ior, 1) := by decide +kernel
theorem dX10_wall_67 : decode cX10_wall 67 = .ok (.invokevirtual 132, 3) := by decide +kernel
theorem dX10_wall_70 : decode cX10_wall 70 = .ok (.aload_n 0, 1) := by decide +kernel
theorem dX10_wall_71 : decode cX10_wall 71 = .ok (.getfield 39, 3) := by decide +kernel
theorem dX10_wall_74 : decode cX10_wall 74 = .ok (.sipush 1024, 3) := by decide +kernel
theorem dX10_wall_77 : decode cX10_wall 77 = .ok (.iload_n 3, 1) := by decide +kernel
theorem dX10_wall_78 : decode cX10_wall 78 = .ok (.imul, 1) := by decide +kernel
theorem dX10_wall_79 : decode cX10_wall 79 = .ok (.iload 4, 2) := by decide +kernel
theorem dX10_wall_81 : decode cX10_wall 81 = .ok (.iadd, 1) := by decide +kernel
theorem dX10_wall_82 : decode cX10_wall 82 = .ok (.iaload, 1) := by decide +kernel
theorem dX10_wall_83 : decode cX10_wall 83 = .ok (.if_icmp .eq 9, 3) := by decide +kernel
theorem dX10_wall_86 : decode cX10_wall 86 = .ok (.iinc 6 1, 3) := by decide +kernel
theorem dX10_wall_89 : decode cX10_wall 89 = .ok (.goto (-43), 3) := by decide +kernel
theorem dX10_wall_92 : decode cX10_wall 92 = .ok (.iload 5, 2) := by decide +kernel
theorem dX10_wall_94 : decode cX10_wall 94 = .ok (.iload_n 2, 1) := by decide +kernel
theorem dX10_wall_95 : decode cX10_wall 95 = .ok (.if_icmp .ne 6, 3) := by decide +kernel
theorem dX10_wall_98 : decode cX10_wall 98 = .ok (.iload 6, 2) := by decide +kernel
end
section
theorem dX10_wall_100 : decode cX10_wall 100 = .ok (.ireturn, 1) := by decide +kernel
theorem dX10_wall_101 : decode cX10_wall 101 = .ok (.iinc 5 1, 3) := by decide +kernel
theorem dX10_wall_104 : decode cX10_wall 104 = .ok (.iload 4, 2) := by decide +kernel
theorem dX10_wall_106 : decode cX10_wall 106 = .ok (.iconst 1, 1) := by decide +kernel
theorem dX10_wall_107 : decode cX10_wall 107 = .ok (.iload 6, 2) := by decide +kernel
theorem dX10_wall_109 : decode cX10_wall 109 = .ok (.ishl, 1) := by decide +kernel
theorem dX10_wall_110 : decode cX10_wall 110 = .ok (.ior, 1) := by decide +kernel
theorem dX10_wall_111 : decode cX10_wall 111 = .ok (.istore 4, 2) := by decide +kernel
theorem dX10_wall_113 : decode cX10_wall 113 = .ok (.aload_n 0, 1) := by decide +kernel
theorem dX10_wall_114 : decode cX10_wall 114 = .ok (.iload_n 3, 1) := by decide +kernel
theorem dX10_wall_115 : decode cX10_wall 115 = .ok (.iload 4, 2) := by decide +kernel
theorem dX10_wall_117 : decode cX10_wall 117 = .ok (.invokevirtual 129, 3) := by decide +kernel
theorem dX10_wall_120 : decode cX10_wall 120 = .ok (.istore 7, 2) := by decide +kernel
theorem dX10_wall_122 : decode cX10_wall 122 = .ok (.iload 7, 2) := by decide +kernel
theorem dX10_wall_124 : decode cX10_wall 124 = .ok (.iload_n 3, 1) := by decide +kernel
theorem dX10_wall_125 : decode cX10_wall 125 = .ok (.if_icmp .ne 5, 3) := by decide +kernel
theorem dX10_wall_128 : decode cX10_wall 128 = .ok (.iconst (-1), 1) := by decide +kernel
theorem dX10_wall_129 : decode cX10_wall 129 = .ok (.ireturn, 1) := by decide +kernel
theorem dX10_wall_130 : decode cX10_wall 130 = .ok (.iload 7, 2) := by decide +kernel
theorem dX10_wall_132 : decode cX10_wall 132 = .ok (.istore_n 3, 1) := by decide +kernel
theorem dX10_wall_133 : decode cX10_wall 133 = .ok (.goto (-101), 3) := by decide +kernel
theorem dX10_wall_136 : decode cX10_wall 136 = .ok (.iconst (-1), 1) := by decide +kernel
theorem dX10_wall_137 : decode cX10_wall 137 = .ok (.ireturn, 1) := by decide +kernel
theorem dX10_answers_0 : decode cX10_answers 0 = .ok (.iconst 0, 1) := by decide +kernel
theorem dX10_answers_1 : decode cX10_answers 1 = .ok (.istore_n 3, 1) := by decide +kernel
theorem dX10_answers_2 : decode cX10_answers 2 = .ok (.iload_n 3, 1) := by decide +kernel
theorem dX10_answers_3 : decode cX10_answers 3 = .ok (.aload_n 0, 1) := by decide +kernel
theorem dX10_answers_4 : decode cX10_answers 4 = .ok (.getfield 48, 3) := by decide +kernel
theorem dX10_answers_7 : decode cX10_answers 7 = .ok (.if_icmp .ge 52, 3) := by decide +kernel
theorem dX10_answers_10 : decode cX10_answers 10 = .ok (.iload_n 1, 1) := by decide +kernel
theorem dX10_answers_11 : decode cX10_answers 11 = .ok (.iload_n 3, 1) := by decide +kernel
theorem dX10_answers_12 : decode cX10_answers 12 = .ok (.invokestatic 70, 3) := by decide +kernel
theorem dX10_answers_15 : decode cX10_answers 15 = .ok (.ifCond .eq 38, 3) := by decide +kernel
theorem dX10_answers_18 : decode cX10_answers 18 = .ok (.aload_n 0, 1) := by decide +kernel
theorem dX10_answers_19 : decode cX10_answers 19 = .ok (.getfield 7, 3) := by decide +kernel
theorem dX10_answers_22 : decode cX10_answers 22 = .ok (.bipush 12, 2) := by decide +kernel
theorem dX10_answers_24 : decode cX10_answers 24 = .ok (.iload_n 3, 1) := by decide +kernel
theorem dX10_answers_25 : decode cX10_answers 25 = .ok (.imul, 1) := by decide +kernel
theorem dX10_answers_26 : decode cX10_answers 26 = .ok (.iload_n 2, 1) := by decide +kernel
theorem dX10_answers_27 : decode cX10_answers 27 = .ok (.iadd, 1) := by decide +kernel
theorem dX10_answers_28 : decode cX10_answers 28 = .ok (.iaload, 1) := by decide +kernel
theorem dX10_answers_29 : decode cX10_answers 29 = .ok (.ifCond .le 24, 3) := by decide +kernel
theorem dX10_answers_32 : decode cX10_answers 32 = .ok (.aload_n 0, 1) := by decide +kernel
theorem dX10_answers_33 : decode cX10_answers 33 = .ok (.getfield 42, 3) := by decide +kernel
theorem dX10_answers_36 : decode cX10_answers 36 = .ok (.iload_n 1, 1) := by decide +kernel
theorem dX10_answers_37 : decode cX10_answers 37 = .ok (.iconst 1, 1) := by decide +kernel
theorem dX10_answers_38 : decode cX10_answers 38 = .ok (.iload_n 3, 1) := by decide +kernel
theorem dX10_answers_39 : decode cX10_answers 39 = .ok (.ishl, 1) := by decide +kernel
theorem dX10_answers_40 : decode cX10_answers 40 = .ok (.iconst (-1), 1) := by decide +kernel
theorem dX10_answers_41 : decode cX10_answers 41 = .ok (.ixor, 1) := by decide +kernel
theorem dX10_answers_42 : decode cX10_answers 42 = .ok (.iand, 1) := by decide +kernel
theorem dX10_answers_43 : decode cX10_answers 43 = .ok (.iconst 1, 1) := by decide +kernel
theorem dX10_answers_44 : decode cX10_answers 44 = .ok (.iload_n 2, 1) := by decide +kernel
theorem dX10_answers_45 : decode cX10_answers 45 = .ok (.ishl, 1) := by decide +kernel
theorem dX10_answers_46 : decode cX10_answers 46 = .ok (.ior, 1) := by decide +kernel
theorem dX10_answers_47 : decode cX10_answers 47 = .ok (.baload, 1) := by decide +kernel
theorem dX10_answers_48 : decode cX10_answers 48 = .ok (.ifCond .eq 5, 3) := by decide +kernel
theorem dX10_answers_51 : decode cX10_answers 51 = .ok (.iload_n 3, 1) := by decide +kernel
theorem dX10_answers_52 : decode cX10_answers 52 = .ok (.ireturn, 1) := by decide +kernel
theorem dX10_answers_53 : decode cX10_answers 53 = .ok (.iinc 3 1, 3) := by decide +kernel
theorem dX10_answers_56 : decode cX10_answers 56 = .ok (.goto (-54), 3) := by decide +kernel
theorem dX10_answers_59 : decode cX10_answers 59 = .ok (.iconst (-1), 1) := by decide +kernel
theorem dX10_answers_60 : decode cX10_answers 60 = .ok (.ireturn, 1) := by decide +kernel
theorem dX10_guard_0 : decode cX10_guard 0 = .ok (.aload_n 0, 1) := by decide +kernel
theorem dX10_guard_1 : decode cX10_guard 1 = .ok (.bipush 10, 2) := by decide +kernel
theorem dX10_guard_3 : decode cX10_guard 3 = .ok (.invokevirtual 84, 3) := by decide +kernel
theorem dX10_guard_6 : decode cX10_guard 6 = .ok (.ifCond .eq 4, 3) := by decide +kernel
theorem dX10_guard_9 : decode cX10_guard 9 = .ok (.return_, 1) := by decide +kernel
theorem dX10_guard_10 : decode cX10_guard 10 = .ok (.iconst 0, 1) := by decide +kernel
theorem dX10_guard_11 : decode cX10_guard 11 = .ok (.istore_n 1, 1) := by decide +kernel
theorem dX10_guard_12 : decode cX10_guard 12 = .ok (.iload_n 1, 1) := by decide +kernel
theorem dX10_guard_13 : decode cX10_guard 13 = .ok (.aload_n 0, 1) := by decide +kernel
theorem dX10_guard_14 : decode cX10_guard 14 = .ok (.invokevirtual 87, 3) := by decide +kernel
theorem dX10_guard_17 : decode cX10_guard 17 = .ok (.if_icmp .gt 16, 3) := by decide +kernel
theorem dX10_guard_20 : decode cX10_guard 20 = .ok (.aload_n 0, 1) := by decide +kernel
theorem dX10_guard_21 : decode cX10_guard 21 = .ok (.getfield 42, 3) := by decide +kernel
theorem dX10_guard_24 : decode cX10_guard 24 = .ok (.iload_n 1, 1) := by decide +kernel
theorem dX10_guard_25 : decode cX10_guard 25 = .ok (.iconst 1, 1) := by decide +kernel
theorem dX10_guard_26 : decode cX10_guard 26 = .ok (.bastore, 1) := by decide +kernel
theorem dX10_guard_27 : decode cX10_guard 27 = .ok (.iinc 1 1, 3) := by decide +kernel
theorem dX10_guard_30 : decode cX10_guard 30 = .ok (.goto (-18), 3) := by decide +kernel
theorem dX10_guard_33 : decode cX10_guard 33 = .ok (.iconst 1, 1) := by decide +kernel
theorem dX10_guard_34 : decode cX10_guard 34 = .ok (.istore_n 1, 1) := by decide +kernel
theorem dX10_guard_35 : decode cX10_guard 35 = .ok (.iload_n 1, 1) := by decide +kernel
theorem dX10_guard_36 : decode cX10_guard 36 = .ok (.ifCond .eq 78, 3) := by decide +kernel
theorem dX10_guard_39 : decode cX10_guard 39 = .ok (.iconst 0, 1) := by decide +kernel
theorem dX10_guard_40 : decode cX10_guard 40 = .ok (.istore_n 1, 1) := by decide +kernel
theorem dX10_guard_41 : decode cX10_guard 41 = .ok (.iconst 0, 1) := by decide +kernel
theorem dX10_guard_42 : decode cX10_guard 42 = .ok (.istore_n 2, 1) := by decide +kernel
theorem dX10_guard_43 : decode cX10_guard 43 = .ok (.iload_n 2, 1) := by decide +kernel
theorem dX10_guard_44 : decode cX10_guard 44 = .ok (.aload_n 0, 1) := by decide +kernel
theorem dX10_guard_45 : decode cX10_guard 45 = .ok (.invokevirtual 87, 3) := by decide +kernel
theorem dX10_guard_48 : decode cX10_guard 48 = .ok (.if_icmp .gt 63, 3) := by decide +kernel
theorem dX10_guard_51 : decode cX10_guard 51 = .ok (.iconst 0, 1) := by decide +kernel
theorem dX10_guard_52 : decode cX10_guard 52 = .ok (.istore_n 3, 1) := by decide +kernel
theorem dX10_guard_53 : decode cX10_guard 53 = .ok (.iload_n 3, 1) := by decide +kernel
theorem dX10_guard_54 : decode cX10_guard 54 = .ok (.aload_n 0, 1) := by decide +kernel
theorem dX10_guard_55 : decode cX10_guard 55 = .ok (.getfield 48, 3) := by decide +kernel
theorem dX10_guard_58 : decode cX10_guard 58 = .ok (.if_icmp .ge 47, 3) := by decide +kernel
theorem dX10_guard_61 : decode cX10_guard 61 = .ok (.aload_n 0, 1) := by decide +kernel
theorem dX10_guard_62 : decode cX10_guard 62 = .ok (.getfield 42, 3) := by decide +kernel
theorem dX10_guard_65 : decode cX10_guard 65 = .ok (.iload_n 2, 1) := by decide +kernel
theorem dX10_guard_66 : decode cX10_guard 66 = .ok (.baload, 1) := by decide +kernel
theorem dX10_guard_67 : decode cX10_guard 67 = .ok (.ifCond .eq 38, 3) := by decide +kernel
theorem dX10_guard_70 : decode cX10_guard 70 = .ok (.iload_n 2, 1) := by decide +kernel
theorem dX10_guard_71 : decode cX10_guard 71 = .ok (.iload_n 3, 1) := by decide +kernel
theorem dX10_guard_72 : decode cX10_guard 72 = .ok (.invokestatic 70, 3) := by decide +kernel
theorem dX10_guard_75 : decode cX10_guard 75 = .ok (.ifCond .ne 24, 3) := by decide +kernel
theorem dX10_guard_78 : decode cX10_guard 78 = .ok (.aload_n 0, 1) := by decide +kernel
theorem dX10_guard_79 : decode cX10_guard 79 = .ok (.iload_n 2, 1) := by decide +kernel
theorem dX10_guard_80 : decode cX10_guard 80 = .ok (.iload_n 3, 1) := by decide +kernel
theorem dX10_guard_81 : decode cX10_guard 81 = .ok (.invokevirtual 138, 3) := by decide +kernel
theorem dX10_guard_84 : decode cX10_guard 84 = .ok (.ifCond .lt 6, 3) := by decide +kernel
theorem dX10_guard_87 : decode cX10_guard 87 = .ok (.goto 12, 3) := by decide +kernel
theorem dX10_guard_90 : decode cX10_guard 90 = .ok (.aload_n 0, 1) := by decide +kernel
theorem dX10_guard_91 : decode cX10_guard 91 = .ok (.getfield 42, 3) := by decide +kernel
theorem dX10_guard_94 : decode cX10_guard 94 = .ok (.iload_n 2, 1) := by decide +kernel
theorem dX10_guard_95 : decode cX10_guard 95 = .ok (.iconst 0, 1) := by decide +kernel
theorem dX10_guard_96 : decode cX10_guard 96 = .ok (.bastore, 1) := by decide +kernel
theorem dX10_guard_97 : decode cX10_guard 97 = .ok (.iconst 1, 1) := by decide +kernel
theorem dX10_guard_98 : decode cX10_guard 98 = .ok (.istore_n 1, 1) := by decide +kernel
theorem dX10_guard_99 : decode cX10_guard 99 = .ok (.iinc 3 1, 3) := by decide +kernel
theorem dX10_guard_102 : decode cX10_guard 102 = .ok (.goto (-49), 3) := by decide +kernel
theorem dX10_guard_105 : decode cX10_guard 105 = .ok (.iinc 2 1, 3) := by decide +kernel
theorem dX10_guard_108 : decode cX10_guard 108 = .ok (.goto (-65), 3) := by decide +kernel
theorem dX10_guard_111 : decode cX10_guard 111 = .ok (.goto (-76), 3) := by decide +kernel
theorem dX10_guard_114 : decode cX10_guard 114 = .ok (.return_, 1) := by decide +kernel
theorem dX10_holds_0 : decode cX10_holds 0 = .ok (.aload_n 0, 1) := by decide +kernel
theorem dX10_holds_1 : decode cX10_holds 1 = .ok (.iload_n 1, 1) := by decide +kernel
theorem dX10_holds_2 : decode cX10_holds 2 = .ok (.invokevirtual 98, 3) := by decide +kernel
theorem dX10_holds_5 : decode cX10_holds 5 = .ok (.ifCond .ne 6, 3) := by decide +kernel
theorem dX10_holds_8 : decode cX10_holds 8 = .ok (.bipush (-2), 2) := by decide +kernel
theorem dX10_holds_10 : decode cX10_holds 10 = .ok (.ireturn, 1) := by decide +kernel
theorem dX10_holds_11 : decode cX10_holds 11 = .ok (.aload_n 0, 1) := by decide +kernel
theorem dX10_holds_12 : decode cX10_holds 12 = .ok (.invokevirtual 141, 3) := by decide +kernel
theorem dX10_holds_15 : decode cX10_holds 15 = .ok (.aload_n 0, 1) := by decide +kernel
theorem dX10_holds_16 : decode cX10_holds 16 = .ok (.getfield 42, 3) := by decide +kernel
theorem dX10_holds_19 : decode cX10_holds 19 = .ok (.iload_n 1, 1) := by decide +kernel
theorem dX10_holds_20 : decode cX10_holds 20 = .ok (.baload, 1) := by decide +kernel
theorem dX10_holds_21 : decode cX10_holds 21 = .ok (.ifCond .eq 7, 3) := by decide +kernel
theorem dX10_holds_24 : decode cX10_holds 24 = .ok (.iconst 1, 1) := by decide +kernel
theorem dX10_holds_25 : decode cX10_holds 25 = .ok (.goto 4, 3) := by decide +kernel
theorem dX10_holds_28 : decode cX10_holds 28 = .ok (.iconst 0, 1) := by decide +kernel
theorem dX10_holds_29 : decode cX10_holds 29 = .ok (.ireturn, 1) := by decide +kernel
theorem dX10_guards_0 : decode cX10_guards 0 = .ok (.aload_n 0, 1) := by decide +kernel
theorem dX10_guards_1 : decode cX10_guards 1 = .ok (.invokevirtual 141, 3) := by decide +kernel
theorem dX10_guards_4 : decode cX10_guards 4 = .ok (.aload_n 0, 1) := by decide +kernel
theorem dX10_guards_5 : decode cX10_guards 5 = .ok (.getfield 48, 3) := by decide +kernel
theorem dX10_guards_8 : decode cX10_guards 8 = .ok (.istore_n 1, 1) := by decide +kernel
theorem dX10_guards_9 : decode cX10_guards 9 = .ok (.iconst 0, 1) := by decide +kernel
theorem dX10_guards_10 : decode cX10_guards 10 = .ok (.istore_n 2, 1) := by decide +kernel
theorem dX10_guards_11 : decode cX10_guards 11 = .ok (.iload_n 2, 1) := by decide +kernel
theorem dX10_guards_12 : decode cX10_guards 12 = .ok (.aload_n 0, 1) := by decide +kernel
theorem dX10_guards_13 : decode cX10_guards 13 = .ok (.invokevirtual 87, 3) := by decide +kernel
theorem dX10_guards_16 : decode cX10_guards 16 = .ok (.if_icmp .gt 31, 3) := by decide +kernel
theorem dX10_guards_19 : decode cX10_guards 19 = .ok (.aload_n 0, 1) := by decide +kernel
theorem dX10_guards_20 : decode cX10_guards 20 = .ok (.getfield 42, 3) := by decide +kernel
theorem dX10_guards_23 : decode cX10_guards 23 = .ok (.iload_n 2, 1) := by decide +kernel
theorem dX10_guards_24 : decode cX10_guards 24 = .ok (.baload, 1) := by decide +kernel
theorem dX10_guards_25 : decode cX10_guards 25 = .ok (.ifCond .eq 16, 3) := by decide +kernel
theorem dX10_guards_28 : decode cX10_guards 28 = .ok (.iload_n 2, 1) := by decide +kernel
theorem dX10_guards_29 : decode cX10_guards 29 = .ok (.invokestatic 111, 3) := by decide +kernel
theorem dX10_guards_32 : decode cX10_guards 32 = .ok (.iload_n 1, 1) := by decide +kernel
theorem dX10_guards_33 : decode cX10_guards 33 = .ok (.if_icmp .ge 8, 3) := by decide +kernel
theorem dX10_guards_36 : decode cX10_guards 36 = .ok (.iload_n 2, 1) := by decide +kernel
theorem dX10_guards_37 : decode cX10_guards 37 = .ok (.invokestatic 111, 3) := by decide +kernel
theorem dX10_guards_40 : decode cX10_guards 40 = .ok (.istore_n 1, 1) := by decide +kernel
theorem dX10_guards_41 : decode cX10_guards 41 = .ok (.iinc 2 1, 3) := by decide +kernel
theorem dX10_guards_44 : decode cX10_guards 44 = .ok (.goto (-33), 3) := by decide +kernel
theorem dX10_guards_47 : decode cX10_guards 47 = .ok (.iload_n 1, 1) := by decide +kernel
theorem dX10_guards_48 : decode cX10_guards 48 = .ok (.ireturn, 1) := by decide +kernel
theorem dX10_answer_0 : decode cX10_answer 0 = .ok (.aload_n 0, 1) := by decide +kernel
theorem dX10_answer_1 : decode cX10_answer 1 = .ok (.iload_n 1, 1) := by decide +kernel
theorem dX10_answer_2 : decode cX10_answer 2 = .ok (.invokevirtual 98, 3) := by decide +kernel
theorem dX10_answer_5 : decode cX10_answer 5 = .ok (.ifCond .eq 11, 3) := by decide +kernel
theorem dX10_answer_8 : decode cX10_answer 8 = .ok (.aload_n 0, 1) := by decide +kernel
theorem dX10_answer_9 : decode cX10_answer 9 = .ok (.iload_n 2, 1) := by decide +kernel
theorem dX10_answer_10 : decode cX10_answer 10 = .ok (.invokevirtual 59, 3) := by decide +kernel
theorem dX10_answer_13 : decode cX10_answer 13 = .ok (.ifCond .ne 6, 3) := by decide +kernel
theorem dX10_answer_16 : decode cX10_answer 16 = .ok (.bipush (-2), 2) := by decide +kernel
theorem dX10_answer_18 : decode cX10_answer 18 = .ok (.ireturn, 1) := by decide +kernel
theorem dX10_answer_19 : decode cX10_answer 19 = .ok (.aload_n 0, 1) := by decide +kernel
theorem dX10_answer_20 : decode cX10_answer 20 = .ok (.invokevirtual 141, 3) := by decide +kernel
theorem dX10_answer_23 : decode cX10_answer 23 = .ok (.iload_n 1, 1) := by decide +kernel
theorem dX10_answer_24 : decode cX10_answer 24 = .ok (.iload_n 2, 1) := by decide +kernel
theorem dX10_answer_25 : decode cX10_answer 25 = .ok (.invokestatic 70, 3) := by decide +kernel
theorem dX10_answer_28 : decode cX10_answer 28 = .ok (.ifCond .ne 12, 3) := by decide +kernel
theorem dX10_answer_31 : decode cX10_answer 31 = .ok (.aload_n 0, 1) := by decide +kernel
theorem dX10_answer_32 : decode cX10_answer 32 = .ok (.getfield 42, 3) := by decide +kernel
theorem dX10_answer_35 : decode cX10_answer 35 = .ok (.iload_n 1, 1) := by decide +kernel
theorem dX10_answer_36 : decode cX10_answer 36 = .ok (.baload, 1) := by decide +kernel
theorem dX10_answer_37 : decode cX10_answer 37 = .ok (.ifCond .ne 7, 3) := by decide +kernel
theorem dX10_answer_40 : decode cX10_answer 40 = .ok (.iconst (-1), 1) := by decide +kernel
theorem dX10_answer_41 : decode cX10_answer 41 = .ok (.goto 9, 3) := by decide +kernel
theorem dX10_answer_44 : decode cX10_answer 44 = .ok (.aload_n 0, 1) := by decide +kernel
theorem dX10_answer_45 : decode cX10_answer 45 = .ok (.iload_n 1, 1) := by decide +kernel
theorem dX10_answer_46 : decode cX10_answer 46 = .ok (.iload_n 2, 1) := by decide +kernel
theorem dX10_answer_47 : decode cX10_answer 47 = .ok (.invokevirtual 138, 3) := by decide +kernel
theorem dX10_answer_50 : decode cX10_answer 50 = .ok (.ireturn, 1) := by decide +kernel
theorem dX10_play_0 : decode cX10_play 0 = .ok (.aload_n 0, 1) := by decide +kernel
theorem dX10_play_1 : decode cX10_play 1 = .ok (.iconst 3, 1) := by decide +kernel
theorem dX10_play_2 : decode cX10_play 2 = .ok (.iload_n 1, 1) := by decide +kernel
theorem dX10_play_3 : decode cX10_play 3 = .ok (.iadd, 1) := by decide +kernel
theorem dX10_play_4 : decode cX10_play 4 = .ok (.invokevirtual 84, 3) := by decide +kernel
theorem dX10_play_7 : decode cX10_play 7 = .ok (.ifCond .eq 4, 3) := by decide +kernel
theorem dX10_play_10 : decode cX10_play 10 = .ok (.return_, 1) := by decide +kernel
theorem dX10_play_11 : decode cX10_play 11 = .ok (.aload_n 0, 1) := by decide +kernel
theorem dX10_play_12 : decode cX10_play 12 = .ok (.invokevirtual 87, 3) := by decide +kernel
theorem dX10_play_15 : decode cX10_play 15 = .ok (.istore_n 2, 1) := by decide +kernel
theorem dX10_play_16 : decode cX10_play 16 = .ok (.iload_n 2, 1) := by decide +kernel
theorem dX10_play_17 : decode cX10_play 17 = .ok (.ifCond .lt 35, 3) := by decide +kernel
theorem dX10_play_20 : decode cX10_play 20 = .ok (.aload_n 0, 1) := by decide +kernel
theorem dX10_play_21 : decode cX10_play 21 = .ok (.getfield 45, 3) := by decide +kernel
theorem dX10_play_24 : decode cX10_play 24 = .ok (.sipush 4096, 3) := by decide +kernel
theorem dX10_play_27 : decode cX10_play 27 = .ok (.iload_n 1, 1) := by decide +kernel
theorem dX10_play_28 : decode cX10_play 28 = .ok (.imul, 1) := by decide +kernel
theorem dX10_play_29 : decode cX10_play 29 = .ok (.iload_n 2, 1) := by decide +kernel
theorem dX10_play_30 : decode cX10_play 30 = .ok (.iadd, 1) := by decide +kernel
theorem dX10_play_31 : decode cX10_play 31 = .ok (.aload_n 0, 1) := by decide +kernel
theorem dX10_play_32 : decode cX10_play 32 = .ok (.iload_n 1, 1) := by decide +kernel
theorem dX10_play_33 : decode cX10_play 33 = .ok (.iload_n 2, 1) := by decide +kernel
theorem dX10_play_34 : decode cX10_play 34 = .ok (.invokevirtual 144, 3) := by decide +kernel
theorem dX10_play_37 : decode cX10_play 37 = .ok (.ifCond .lt 7, 3) := by decide +kernel
theorem dX10_play_40 : decode cX10_play 40 = .ok (.iconst 1, 1) := by decide +kernel
theorem dX10_play_41 : decode cX10_play 41 = .ok (.goto 4, 3) := by decide +kernel
theorem dX10_play_44 : decode cX10_play 44 = .ok (.iconst 0, 1) := by decide +kernel
theorem dX10_play_45 : decode cX10_play 45 = .ok (.bastore, 1) := by decide +kernel
theorem dX10_play_46 : decode cX10_play 46 = .ok (.iinc 2 (-1), 3) := by decide +kernel
theorem dX10_play_49 : decode cX10_play 49 = .ok (.goto (-33), 3) := by decide +kernel
theorem dX10_play_52 : decode cX10_play 52 = .ok (.return_, 1) := by decide +kernel
theorem dX10_winsBy_0 : decode cX10_winsBy 0 = .ok (.iconst 0, 1) := by decide +kernel
theorem dX10_winsBy_1 : decode cX10_winsBy 1 = .ok (.istore_n 3, 1) := by decide +kernel
theorem dX10_winsBy_2 : decode cX10_winsBy 2 = .ok (.iload_n 3, 1) := by decide +kernel
theorem dX10_winsBy_3 : decode cX10_winsBy 3 = .ok (.aload_n 0, 1) := by decide +kernel
theorem dX10_winsBy_4 : decode cX10_winsBy 4 = .ok (.getfield 48, 3) := by decide +kernel
theorem dX10_winsBy_7 : decode cX10_winsBy 7 = .ok (.if_icmp .ge 43, 3) := by decide +kernel
theorem dX10_winsBy_10 : decode cX10_winsBy 10 = .ok (.iload_n 2, 1) := by decide +kernel
theorem dX10_winsBy_11 : decode cX10_winsBy 11 = .ok (.iload_n 3, 1) := by decide +kernel
theorem dX10_winsBy_12 : decode cX10_winsBy 12 = .ok (.invokestatic 70, 3) := by decide +kernel
theorem dX10_winsBy_15 : decode cX10_winsBy 15 = .ok (.ifCond .ne 29, 3) := by decide +kernel
theorem dX10_winsBy_18 : decode cX10_winsBy 18 = .ok (.aload_n 0, 1) := by decide +kernel
theorem dX10_winsBy_19 : decode cX10_winsBy 19 = .ok (.getfield 45, 3) := by decide +kernel
theorem dX10_winsBy_22 : decode cX10_winsBy 22 = .ok (.sipush 4096, 3) := by decide +kernel
theorem dX10_winsBy_25 : decode cX10_winsBy 25 = .ok (.iload_n 1, 1) := by decide +kernel
theorem dX10_winsBy_26 : decode cX10_winsBy 26 = .ok (.imul, 1) := by decide +kernel
theorem dX10_winsBy_27 : decode cX10_winsBy 27 = .ok (.aload_n 0, 1) := by decide +kernel
theorem dX10_winsBy_28 : decode cX10_winsBy 28 = .ok (.iload_n 1, 1) := by decide +kernel
theorem dX10_winsBy_29 : decode cX10_winsBy 29 = .ok (.iload_n 2, 1) := by decide +kernel
theorem dX10_winsBy_30 : decode cX10_winsBy 30 = .ok (.iconst 1, 1) := by decide +kernel
theorem dX10_winsBy_31 : decode cX10_winsBy 31 = .ok (.iload_n 3, 1) := by decide +kernel
theorem dX10_winsBy_32 : decode cX10_winsBy 32 = .ok (.ishl, 1) := by decide +kernel
theorem dX10_winsBy_33 : decode cX10_winsBy 33 = .ok (.ior, 1) := by decide +kernel
theorem dX10_winsBy_34 : decode cX10_winsBy 34 = .ok (.invokevirtual 114, 3) := by decide +kernel
theorem dX10_winsBy_37 : decode cX10_winsBy 37 = .ok (.iadd, 1) := by decide +kernel
theorem dX10_winsBy_38 : decode cX10_winsBy 38 = .ok (.baload, 1) := by decide +kernel
theorem dX10_winsBy_39 : decode cX10_winsBy 39 = .ok (.ifCond .ne 5, 3) := by decide +kernel
theorem dX10_winsBy_42 : decode cX10_winsBy 42 = .ok (.iload_n 3, 1) := by decide +kernel
theorem dX10_winsBy_43 : decode cX10_winsBy 43 = .ok (.ireturn, 1) := by decide +kernel
theorem dX10_winsBy_44 : decode cX10_winsBy 44 = .ok (.iinc 3 1, 3) := by decide +kernel
theorem dX10_winsBy_47 : decode cX10_winsBy 47 = .ok (.goto (-45), 3) := by decide +kernel
theorem dX10_winsBy_50 : decode cX10_winsBy 50 = .ok (.iconst (-1), 1) := by decide +kernel
theorem dX10_winsBy_51 : decode cX10_winsBy 51 = .ok (.ireturn, 1) := by decide +kernel
theorem dX10_win_0 : decode cX10_win 0 = .ok (.iload_n 1, 1) := by decide +kernel
theorem dX10_win_1 : decode cX10_win 1 = .ok (.invokestatic 95, 3) := by decide +kernel
theorem dX10_win_4 : decode cX10_win 4 = .ok (.ifCond .eq 11, 3) := by decide +kernel
theorem dX10_win_7 : decode cX10_win 7 = .ok (.aload_n 0, 1) := by decide +kernel
theorem dX10_win_8 : decode cX10_win 8 = .ok (.iload_n 2, 1) := by decide +kernel
theorem dX10_win_9 : decode cX10_win 9 = .ok (.invokevirtual 98, 3) := by decide +kernel
theorem dX10_win_12 : decode cX10_win 12 = .ok (.ifCond .ne 6, 3) := by decide +kernel
theorem dX10_win_15 : decode cX10_win 15 = .ok (.bipush (-2), 2) := by decide +kernel
theorem dX10_win_17 : decode cX10_win 17 = .ok (.ireturn, 1) := by decide +kernel
theorem dX10_win_18 : decode cX10_win 18 = .ok (.aload_n 0, 1) := by decide +kernel
theorem dX10_win_19 : decode cX10_win 19 = .ok (.iload_n 1, 1) := by decide +kernel
theorem dX10_win_20 : decode cX10_win 20 = .ok (.invokevirtual 147, 3) := by decide +kernel
theorem dX10_win_23 : decode cX10_win 23 = .ok (.aload_n 0, 1) := by decide +kernel
theorem dX10_win_24 : decode cX10_win 24 = .ok (.getfield 45, 3) := by decide +kernel
theorem dX10_win_27 : decode cX10_win 27 = .ok (.sipush 4096, 3) := by decide +kernel
theorem dX10_win_30 : decode cX10_win 30 = .ok (.iload_n 1, 1) := by decide +kernel
theorem dX10_win_31 : decode cX10_win 31 = .ok (.imul, 1) := by decide +kernel
theorem dX10_win_32 : decode cX10_win 32 = .ok (.iload_n 2, 1) := by decide +kernel
theorem dX10_win_33 : decode cX10_win 33 = .ok (.iadd, 1) := by decide +kernel
theorem dX10_win_34 : decode cX10_win 34 = .ok (.baload, 1) := by decide +kernel
theorem dX10_win_35 : decode cX10_win 35 = .ok (.ifCond .eq 7, 3) := by decide +kernel
theorem dX10_win_38 : decode cX10_win 38 = .ok (.iconst 1, 1) := by decide +kernel
theorem dX10_win_39 : decode cX10_win 39 = .ok (.goto 4, 3) := by decide +kernel
theorem dX10_win_42 : decode cX10_win 42 = .ok (.iconst 0, 1) := by decide +kernel
theorem dX10_win_43 : decode cX10_win 43 = .ok (.ireturn, 1) := by decide +kernel
theorem dX10_first_0 : decode cX10_first 0 = .ok (.iload_n 1, 1) := by decide +kernel
theorem dX10_first_1 : decode cX10_first 1 = .ok (.invokestatic 95, 3) := by decide +kernel
theorem dX10_first_4 : decode cX10_first 4 = .ok (.ifCond .eq 11, 3) := by decide +kernel
theorem dX10_first_7 : decode cX10_first 7 = .ok (.aload_n 0, 1) := by decide +kernel
theorem dX10_first_8 : decode cX10_first 8 = .ok (.iload_n 2, 1) := by decide +kernel
theorem dX10_first_9 : decode cX10_first 9 = .ok (.invokevirtual 98, 3) := by decide +kernel
theorem dX10_first_12 : decode cX10_first 12 = .ok (.ifCond .ne 6, 3) := by decide +kernel
theorem dX10_first_15 : decode cX10_first 15 = .ok (.bipush (-2), 2) := by decide +kernel
theorem dX10_first_17 : decode cX10_first 17 = .ok (.ireturn, 1) := by decide +kernel
theorem dX10_first_18 : decode cX10_first 18 = .ok (.aload_n 0, 1) := by decide +kernel
theorem dX10_first_19 : decode cX10_first 19 = .ok (.iload_n 1, 1) := by decide +kernel
theorem dX10_first_20 : decode cX10_first 20 = .ok (.invokevirtual 147, 3) := by decide +kernel
theorem dX10_first_23 : decode cX10_first 23 = .ok (.aload_n 0, 1) := by decide +kernel
theorem dX10_first_24 : decode cX10_first 24 = .ok (.iload_n 1, 1) := by decide +kernel
theorem dX10_first_25 : decode cX10_first 25 = .ok (.iload_n 2, 1) := by decide +kernel
theorem dX10_first_26 : decode cX10_first 26 = .ok (.invokevirtual 144, 3) := by decide +kernel
theorem dX10_first_29 : decode cX10_first 29 = .ok (.ireturn, 1) := by decide +kernel
theorem dX10_count_0 : decode cX10_count 0 = .ok (.aload_n 0, 1) := by decide +kernel
theorem dX10_count_1 : decode cX10_count 1 = .ok (.getfield 48, 3) := by decide +kernel
theorem dX10_count_4 : decode cX10_count 4 = .ok (.ireturn, 1) := by decide +kernel
end
section
theorem dL_law_0 : decode cL_law 0 = .ok (.new 7, 3) := by decide +kernel
theorem dL_law_3 : decode cL_law 3 = .ok (.dup, 1) := by decide +kernel
theorem dL_law_4 : decode cL_law 4 = .ok (.invokespecial 9, 3) := by decide +kernel
theorem dL_law_7 : decode cL_law 7 = .ok (.astore_n 1, 1) := by decide +kernel
theorem dL_law_8 : decode cL_law 8 = .ok (.new 10, 3) := by decide +kernel
theorem dL_law_11 : decode cL_law 11 = .ok (.dup, 1) := by decide +kernel
theorem dL_law_12 : decode cL_law 12 = .ok (.invokespecial 12, 3) := by decide +kernel
theorem dL_law_15 : decode cL_law 15 = .ok (.astore_n 2, 1) := by decide +kernel
theorem dL_law_16 : decode cL_law 16 = .ok (.iconst 0, 1) := by decide +kernel
theorem dL_law_17 : decode cL_law 17 = .ok (.istore_n 3, 1) := by decide +kernel
theorem dL_law_18 : decode cL_law 18 = .ok (.iload_n 3, 1) := by decide +kernel
theorem dL_law_19 : decode cL_law 19 = .ok (.aload_n 0, 1) := by decide +kernel
theorem dL_law_20 : decode cL_law 20 = .ok (.arraylength, 1) := by decide +kernel
theorem dL_law_21 : decode cL_law 21 = .ok (.iconst 4, 1) := by decide +kernel
theorem dL_law_22 : decode cL_law 22 = .ok (.isub, 1) := by decide +kernel
theorem dL_law_23 : decode cL_law 23 = .ok (.if_icmp .gt 920, 3) := by decide +kernel
theorem dL_law_26 : decode cL_law 26 = .ok (.aload_n 0, 1) := by decide +kernel
theorem dL_law_27 : decode cL_law 27 = .ok (.iload_n 3, 1) := by decide +kernel
theorem dL_law_28 : decode cL_law 28 = .ok (.iaload, 1) := by decide +kernel
theorem dL_law_29 : decode cL_law 29 = .ok (.bipush 31, 2) := by decide +kernel
theorem dL_law_31 : decode cL_law 31 = .ok (.iand, 1) := by decide +kernel
theorem dL_law_32 : decode cL_law 32 = .ok (.tableswitch 905 0 26 #[124, 137, 180, 213, 246, 279, 312, 345, 388, 431, 464, 497, 520, 543, 566, 589, 612, 625, 648, 701, 724, 757, 780, 793, 826, 859, 892], 124) := by decide +kernel
theorem dL_law_156 : decode cL_law 156 = .ok (.aload_n 1, 1) := by decide +kernel
theorem dL_law_157 : decode cL_law 157 = .ok (.invokevirtual 13, 3) := by decide +kernel
theorem dL_law_160 : decode cL_law 160 = .ok (.aload_n 2, 1) := by decide +kernel
theorem dL_law_161 : decode cL_law 161 = .ok (.invokevirtual 17, 3) := by decide +kernel
theorem dL_law_164 : decode cL_law 164 = .ok (.if_icmp .eq 773, 3) := by decide +kernel
theorem dL_law_167 : decode cL_law 167 = .ok (.iconst 0, 1) := by decide +kernel
theorem dL_law_168 : decode cL_law 168 = .ok (.ireturn, 1) := by decide +kernel
theorem dL_law_169 : decode cL_law 169 = .ok (.aload_n 1, 1) := by decide +kernel
theorem dL_law_170 : decode cL_law 170 = .ok (.aload_n 0, 1) := by decide +kernel
theorem dL_law_171 : decode cL_law 171 = .ok (.iload_n 3, 1) := by decide +kernel
theorem dL_law_172 : decode cL_law 172 = .ok (.iconst 1, 1) := by decide +kernel
theorem dL_law_173 : decode cL_law 173 = .ok (.iadd, 1) := by decide +kernel
theorem dL_law_174 : decode cL_law 174 = .ok (.iaload, 1) := by decide +kernel
theorem dL_law_175 : decode cL_law 175 = .ok (.aload_n 0, 1) := by decide +kernel
theorem dL_law_176 : decode cL_law 176 = .ok (.iload_n 3, 1) := by decide +kernel
theorem dL_law_177 : decode cL_law 177 = .ok (.iconst 2, 1) := by decide +kernel
theorem dL_law_178 : decode cL_law 178 = .ok (.iadd, 1) := by decide +kernel
theorem dL_law_179 : decode cL_law 179 = .ok (.iaload, 1) := by decide +kernel
theorem dL_law_180 : decode cL_law 180 = .ok (.aload_n 0, 1) := by decide +kernel
theorem dL_law_181 : decode cL_law 181 = .ok (.iload_n 3, 1) := by decide +kernel
theorem dL_law_182 : decode cL_law 182 = .ok (.iconst 3, 1) := by decide +kernel
theorem dL_law_183 : decode cL_law 183 = .ok (.iadd, 1) := by decide +kernel
theorem dL_law_184 : decode cL_law 184 = .ok (.iaload, 1) := by decide +kernel
theorem dL_law_185 : decode cL_law 185 = .ok (.invokevirtual 18, 3) := by decide +kernel
theorem dL_law_188 : decode cL_law 188 = .ok (.aload_n 2, 1) := by decide +kernel
theorem dL_law_189 : decode cL_law 189 = .ok (.aload_n 0, 1) := by decide +kernel
theorem dL_law_190 : decode cL_law 190 = .ok (.iload_n 3, 1) := by decide +kernel
theorem dL_law_191 : decode cL_law 191 = .ok (.iconst 1, 1) := by decide +kernel
theorem dL_law_192 : decode cL_law 192 = .ok (.iadd, 1) := by decide +kernel
theorem dL_law_193 : decode cL_law 193 = .ok (.iaload, 1) := by decide +kernel
theorem dL_law_194 : decode cL_law 194 = .ok (.aload_n 0, 1) := by decide +kernel
theorem dL_law_195 : decode cL_law 195 = .ok (.iload_n 3, 1) := by decide +kernel
theorem dL_law_196 : decode cL_law 196 = .ok (.iconst 2, 1) := by decide +kernel
theorem dL_law_197 : decode cL_law 197 = .ok (.iadd, 1) := by decide +kernel
theorem dL_law_198 : decode cL_law 198 = .ok (.iaload, 1) := by decide +kernel
theorem dL_law_199 : decode cL_law 199 = .ok (.aload_n 0, 1) := by decide +kernel
theorem dL_law_200 : decode cL_law 200 = .ok (.iload_n 3, 1) := by decide +kernel
theorem dL_law_201 : decode cL_law 201 = .ok (.iconst 3, 1) := by decide +kernel
theorem dL_law_202 : decode cL_law 202 = .ok (.iadd, 1) := by decide +kernel
theorem dL_law_203 : decode cL_law 203 = .ok (.iaload, 1) := by decide +kernel
theorem dL_law_204 : decode cL_law 204 = .ok (.invokevirtual 22, 3) := by decide +kernel
theorem dL_law_207 : decode cL_law 207 = .ok (.if_icmp .eq 730, 3) := by decide +kernel
theorem dL_law_210 : decode cL_law 210 = .ok (.iconst 0, 1) := by decide +kernel
theorem dL_law_211 : decode cL_law 211 = .ok (.ireturn, 1) := by decide +kernel
theorem dL_law_212 : decode cL_law 212 = .ok (.aload_n 1, 1) := by decide +kernel
theorem dL_law_213 : decode cL_law 213 = .ok (.aload_n 0, 1) := by decide +kernel
theorem dL_law_214 : decode cL_law 214 = .ok (.iload_n 3, 1) := by decide +kernel
theorem dL_law_215 : decode cL_law 215 = .ok (.iconst 1, 1) := by decide +kernel
theorem dL_law_216 : decode cL_law 216 = .ok (.iadd, 1) := by decide +kernel
theorem dL_law_217 : decode cL_law 217 = .ok (.iaload, 1) := by decide +kernel
theorem dL_law_218 : decode cL_law 218 = .ok (.aload_n 0, 1) := by decide +kernel
theorem dL_law_219 : decode cL_law 219 = .ok (.iload_n 3, 1) := by decide +kernel
theorem dL_law_220 : decode cL_law 220 = .ok (.iconst 2, 1) := by decide +kernel
theorem dL_law_221 : decode cL_law 221 = .ok (.iadd, 1) := by decide +kernel
theorem dL_law_222 : decode cL_law 222 = .ok (.iaload, 1) := by decide +kernel
theorem dL_law_223 : decode cL_law 223 = .ok (.invokevirtual 23, 3) := by decide +kernel
theorem dL_law_226 : decode cL_law 226 = .ok (.aload_n 2, 1) := by decide +kernel
theorem dL_law_227 : decode cL_law 227 = .ok (.aload_n 0, 1) := by decide +kernel
theorem dL_law_228 : decode cL_law 228 = .ok (.iload_n 3, 1) := by decide +kernel
theorem dL_law_229 : decode cL_law 229 = .ok (.iconst 1, 1) := by decide +kernel
theorem dL_law_230 : decode cL_law 230 = .ok (.iadd, 1) := by decide +kernel
theorem dL_law_231 : decode cL_law 231 = .ok (.iaload, 1) := by decide +kernel
theorem dL_law_232 : decode cL_law 232 = .ok (.aload_n 0, 1) := by decide +kernel
theorem dL_law_233 : decode cL_law 233 = .ok (.iload_n 3, 1) := by decide +kernel
theorem dL_law_234 : decode cL_law 234 = .ok (.iconst 2, 1) := by decide +kernel
theorem dL_law_235 : decode cL_law 235 = .ok (.iadd, 1) := by decide +kernel
theorem dL_law_236 : decode cL_law 236 = .ok (.iaload, 1) := by decide +kernel
theorem dL_law_237 : decode cL_law 237 = .ok (.invokevirtual 27, 3) := by decide +kernel
theorem dL_law_240 : decode cL_law 240 = .ok (.if_icmp .eq 697, 3) := by decide +kernel
theorem dL_law_243 : decode cL_law 243 = .ok (.iconst 0, 1) := by decide +kernel
theorem dL_law_244 : decode cL_law 244 = .ok (.ireturn, 1) := by decide +kernel
theorem dL_law_245 : decode cL_law 245 = .ok (.aload_n 1, 1) := by decide +kernel
theorem dL_law_246 : decode cL_law 246 = .ok (.aload_n 0, 1) := by decide +kernel
theorem dL_law_247 : decode cL_law 247 = .ok (.iload_n 3, 1) := by decide +kernel
theorem dL_law_248 : decode cL_law 248 = .ok (.iconst 1, 1) := by decide +kernel
theorem dL_law_249 : decode cL_law 249 = .ok (.iadd, 1) := by decide +kernel
theorem dL_law_250 : decode cL_law 250 = .ok (.iaload, 1) := by decide +kernel
theorem dL_law_251 : decode cL_law 251 = .ok (.aload_n 0, 1) := by decide +kernel
theorem dL_law_252 : decode cL_law 252 = .ok (.iload_n 3, 1) := by decide +kernel
theorem dL_law_253 : decode cL_law 253 = .ok (.iconst 2, 1) := by decide +kernel
theorem dL_law_254 : decode cL_law 254 = .ok (.iadd, 1) := by decide +kernel
theorem dL_law_255 : decode cL_law 255 = .ok (.iaload, 1) := by decide +kernel
theorem dL_law_256 : decode cL_law 256 = .ok (.invokevirtual 28, 3) := by decide +kernel
theorem dL_law_259 : decode cL_law 259 = .ok (.aload_n 2, 1) := by decide +kernel
theorem dL_law_260 : decode cL_law 260 = .ok (.aload_n 0, 1) := by decide +kernel
theorem dL_law_261 : decode cL_law 261 = .ok (.iload_n 3, 1) := by decide +kernel
theorem dL_law_262 : decode cL_law 262 = .ok (.iconst 1, 1) := by decide +kernel
theorem dL_law_263 : decode cL_law 263 = .ok (.iadd, 1) := by decide +kernel
theorem dL_law_264 : decode cL_law 264 = .ok (.iaload, 1) := by decide +kernel
theorem dL_law_265 : decode cL_law 265 = .ok (.aload_n 0, 1) := by decide +kernel
theorem dL_law_266 : decode cL_law 266 = .ok (.iload_n 3, 1) := by decide +kernel
theorem dL_law_267 : decode cL_law 267 = .ok (.iconst 2, 1) := by decide +kernel
theorem dL_law_268 : decode cL_law 268 = .ok (.iadd, 1) := by decide +kernel
theorem dL_law_269 : decode cL_law 269 = .ok (.iaload, 1) := by decide +kernel
theorem dL_law_270 : decode cL_law 270 = .ok (.invokevirtual 31, 3) := by decide +kernel
theorem dL_law_273 : decode cL_law 273 = .ok (.if_icmp .eq 664, 3) := by decide +kernel
theorem dL_law_276 : decode cL_law 276 = .ok (.iconst 0, 1) := by decide +kernel
theorem dL_law_277 : decode cL_law 277 = .ok (.ireturn, 1) := by decide +kernel
theorem dL_law_278 : decode cL_law 278 = .ok (.aload_n 1, 1) := by decide +kernel
theorem dL_law_279 : decode cL_law 279 = .ok (.aload_n 0, 1) := by decide +kernel
theorem dL_law_280 : decode cL_law 280 = .ok (.iload_n 3, 1) := by decide +kernel
theorem dL_law_281 : decode cL_law 281 = .ok (.iconst 1, 1) := by decide +kernel
theorem dL_law_282 : decode cL_law 282 = .ok (.iadd, 1) := by decide +kernel
theorem dL_law_283 : decode cL_law 283 = .ok (.iaload, 1) := by decide +kernel
theorem dL_law_284 : decode cL_law 284 = .ok (.aload_n 0, 1) := by decide +kernel
theorem dL_law_285 : decode cL_law 285 = .ok (.iload_n 3, 1) := by decide +kernel
theorem dL_law_286 : decode cL_law 286 = .ok (.iconst 2, 1) := by decide +kernel
theorem dL_law_287 : decode cL_law 287 = .ok (.iadd, 1) := by decide +kernel
theorem dL_law_288 : decode cL_law 288 = .ok (.iaload, 1) := by decide +kernel
theorem dL_law_289 : decode cL_law 289 = .ok (.invokevirtual 32, 3) := by decide +kernel
theorem dL_law_292 : decode cL_law 292 = .ok (.aload_n 2, 1) := by decide +kernel
theorem dL_law_293 : decode cL_law 293 = .ok (.aload_n 0, 1) := by decide +kernel
theorem dL_law_294 : decode cL_law 294 = .ok (.iload_n 3, 1) := by decide +kernel
theorem dL_law_295 : decode cL_law 295 = .ok (.iconst 1, 1) := by decide +kernel
theorem dL_law_296 : decode cL_law 296 = .ok (.iadd, 1) := by decide +kernel
theorem dL_law_297 : decode cL_law 297 = .ok (.iaload, 1) := by decide +kernel
theorem dL_law_298 : decode cL_law 298 = .ok (.aload_n 0, 1) := by decide +kernel
theorem dL_law_299 : decode cL_law 299 = .ok (.iload_n 3, 1) := by decide +kernel
theorem dL_law_300 : decode cL_law 300 = .ok (.iconst 2, 1) := by decide +kernel
theorem dL_law_301 : decode cL_law 301 = .ok (.iadd, 1) := by decide +kernel
theorem dL_law_302 : decode cL_law 302 = .ok (.iaload, 1) := by decide +kernel
theorem dL_law_303 : decode cL_law 303 = .ok (.invokevirtual 35, 3) := by decide +kernel
theorem dL_law_306 : decode cL_law 306 = .ok (.if_icmp .eq 631, 3) := by decide +kernel
theorem dL_law_309 : decode cL_law 309 = .ok (.iconst 0, 1) := by decide +kernel
theorem dL_law_310 : decode cL_law 310 = .ok (.ireturn, 1) := by decide +kernel
theorem dL_law_311 : decode cL_law 311 = .ok (.aload_n 1, 1) := by decide +kernel
theorem dL_law_312 : decode cL_law 312 = .ok (.aload_n 0, 1) := by decide +kernel
theorem dL_law_313 : decode cL_law 313 = .ok (.iload_n 3, 1) := by decide +kernel
end
section
theorem dL_law_314 : decode cL_law 314 = .ok (.iconst 1, 1) := by decide +kernel
theorem dL_law_315 : decode cL_law 315 = .ok (.iadd, 1) := by decide +kernel
theorem dL_law_316 : decode cL_law 316 = .ok (.iaload, 1) := by decide +kernel
theorem dL_law_317 : decode cL_law 317 = .ok (.aload_n 0, 1) := by decide +kernel
theorem dL_law_318 : decode cL_law 318 = .ok (.iload_n 3, 1) := by decide +kernel
theorem dL_law_319 : decode cL_law 319 = .ok (.iconst 2, 1) := by decide +kernel
theorem dL_law_320 : decode cL_law 320 = .ok (.iadd, 1) := by decide +kernel
theorem dL_law_321 : decode cL_law 321 = .ok (.iaload, 1) := by decide +kernel
theorem dL_law_322 : decode cL_law 322 = .ok (.invokevirtual 36, 3) := by decide +kernel
theorem dL_law_325 : decode cL_law 325 = .ok (.aload_n 2, 1) := by decide +kernel
theorem dL_law_326 : decode cL_law 326 = .ok (.aload_n 0, 1) := by decide +kernel
theorem dL_law_327 : decode cL_law 327 = .ok (.iload_n 3, 1) := by decide +kernel
theorem dL_law_328 : decode cL_law 328 = .ok (.iconst 1, 1) := by decide +kernel
theorem dL_law_329 : decode cL_law 329 = .ok (.iadd, 1) := by decide +kernel
theorem dL_law_330 : decode cL_law 330 = .ok (.iaload, 1) := by decide +kernel
theorem dL_law_331 : decode cL_law 331 = .ok (.aload_n 0, 1) := by decide +kernel
theorem dL_law_332 : decode cL_law 332 = .ok (.iload_n 3, 1) := by decide +kernel
theorem dL_law_333 : decode cL_law 333 = .ok (.iconst 2, 1) := by decide +kernel
theorem dL_law_334 : decode cL_law 334 = .ok (.iadd, 1) := by decide +kernel
theorem dL_law_335 : decode cL_law 335 = .ok (.iaload, 1) := by decide +kernel
theorem dL_law_336 : decode cL_law 336 = .ok (.invokevirtual 39, 3) := by decide +kernel
theorem dL_law_339 : decode cL_law 339 = .ok (.if_icmp .eq 598, 3) := by decide +kernel
theorem dL_law_342 : decode cL_law 342 = .ok (.iconst 0, 1) := by decide +kernel
theorem dL_law_343 : decode cL_law 343 = .ok (.ireturn, 1) := by decide +kernel
theorem dL_law_344 : decode cL_law 344 = .ok (.aload_n 1, 1) := by decide +kernel
theorem dL_law_345 : decode cL_law 345 = .ok (.aload_n 0, 1) := by decide +kernel
theorem dL_law_346 : decode cL_law 346 = .ok (.iload_n 3, 1) := by decide +kernel
theorem dL_law_347 : decode cL_law 347 = .ok (.iconst 1, 1) := by decide +kernel
theorem dL_law_348 : decode cL_law 348 = .ok (.iadd, 1) := by decide +kernel
theorem dL_law_349 : decode cL_law 349 = .ok (.iaload, 1) := by decide +kernel
theorem dL_law_350 : decode cL_law 350 = .ok (.aload_n 0, 1) := by decide +kernel
theorem dL_law_351 : decode cL_law 351 = .ok (.iload_n 3, 1) := by decide +kernel
theorem dL_law_352 : decode cL_law 352 = .ok (.iconst 2, 1) := by decide +kernel
theorem dL_law_353 : decode cL_law 353 = .ok (.iadd, 1) := by decide +kernel
theorem dL_law_354 : decode cL_law 354 = .ok (.iaload, 1) := by decide +kernel
theorem dL_law_355 : decode cL_law 355 = .ok (.invokevirtual 40, 3) := by decide +kernel
theorem dL_law_358 : decode cL_law 358 = .ok (.aload_n 2, 1) := by decide +kernel
theorem dL_law_359 : decode cL_law 359 = .ok (.aload_n 0, 1) := by decide +kernel
theorem dL_law_360 : decode cL_law 360 = .ok (.iload_n 3, 1) := by decide +kernel
theorem dL_law_361 : decode cL_law 361 = .ok (.iconst 1, 1) := by decide +kernel
theorem dL_law_362 : decode cL_law 362 = .ok (.iadd, 1) := by decide +kernel
theorem dL_law_363 : decode cL_law 363 = .ok (.iaload, 1) := by decide +kernel
theorem dL_law_364 : decode cL_law 364 = .ok (.aload_n 0, 1) := by decide +kernel
theorem dL_law_365 : decode cL_law 365 = .ok (.iload_n 3, 1) := by decide +kernel
theorem dL_law_366 : decode cL_law 366 = .ok (.iconst 2, 1) := by decide +kernel
theorem dL_law_367 : decode cL_law 367 = .ok (.iadd, 1) := by decide +kernel
theorem dL_law_368 : decode cL_law 368 = .ok (.iaload, 1) := by decide +kernel
theorem dL_law_369 : decode cL_law 369 = .ok (.invokevirtual 43, 3) := by decide +kernel
theorem dL_law_372 : decode cL_law 372 = .ok (.if_icmp .eq 565, 3) := by decide +kernel
theorem dL_law_375 : decode cL_law 375 = .ok (.iconst 0, 1) := by decide +kernel
theorem dL_law_376 : decode cL_law 376 = .ok (.ireturn, 1) := by decide +kernel
theorem dL_law_377 : decode cL_law 377 = .ok (.aload_n 1, 1) := by decide +kernel
theorem dL_law_378 : decode cL_law 378 = .ok (.aload_n 0, 1) := by decide +kernel
theorem dL_law_379 : decode cL_law 379 = .ok (.iload_n 3, 1) := by decide +kernel
theorem dL_law_380 : decode cL_law 380 = .ok (.iconst 1, 1) := by decide +kernel
theorem dL_law_381 : decode cL_law 381 = .ok (.iadd, 1) := by decide +kernel
theorem dL_law_382 : decode cL_law 382 = .ok (.iaload, 1) := by decide +kernel
theorem dL_law_383 : decode cL_law 383 = .ok (.aload_n 0, 1) := by decide +kernel
theorem dL_law_384 : decode cL_law 384 = .ok (.iload_n 3, 1) := by decide +kernel
theorem dL_law_385 : decode cL_law 385 = .ok (.iconst 2, 1) := by decide +kernel
theorem dL_law_386 : decode cL_law 386 = .ok (.iadd, 1) := by decide +kernel
theorem dL_law_387 : decode cL_law 387 = .ok (.iaload, 1) := by decide +kernel
theorem dL_law_388 : decode cL_law 388 = .ok (.aload_n 0, 1) := by decide +kernel
theorem dL_law_389 : decode cL_law 389 = .ok (.iload_n 3, 1) := by decide +kernel
theorem dL_law_390 : decode cL_law 390 = .ok (.iconst 3, 1) := by decide +kernel
theorem dL_law_391 : decode cL_law 391 = .ok (.iadd, 1) := by decide +kernel
theorem dL_law_392 : decode cL_law 392 = .ok (.iaload, 1) := by decide +kernel
theorem dL_law_393 : decode cL_law 393 = .ok (.invokevirtual 44, 3) := by decide +kernel
theorem dL_law_396 : decode cL_law 396 = .ok (.aload_n 2, 1) := by decide +kernel
theorem dL_law_397 : decode cL_law 397 = .ok (.aload_n 0, 1) := by decide +kernel
theorem dL_law_398 : decode cL_law 398 = .ok (.iload_n 3, 1) := by decide +kernel
theorem dL_law_399 : decode cL_law 399 = .ok (.iconst 1, 1) := by decide +kernel
theorem dL_law_400 : decode cL_law 400 = .ok (.iadd, 1) := by decide +kernel
theorem dL_law_401 : decode cL_law 401 = .ok (.iaload, 1) := by decide +kernel
theorem dL_law_402 : decode cL_law 402 = .ok (.aload_n 0, 1) := by decide +kernel
theorem dL_law_403 : decode cL_law 403 = .ok (.iload_n 3, 1) := by decide +kernel
theorem dL_law_404 : decode cL_law 404 = .ok (.iconst 2, 1) := by decide +kernel
theorem dL_law_405 : decode cL_law 405 = .ok (.iadd, 1) := by decide +kernel
theorem dL_law_406 : decode cL_law 406 = .ok (.iaload, 1) := by decide +kernel
theorem dL_law_407 : decode cL_law 407 = .ok (.aload_n 0, 1) := by decide +kernel
theorem dL_law_408 : decode cL_law 408 = .ok (.iload_n 3, 1) := by decide +kernel
theorem dL_law_409 : decode cL_law 409 = .ok (.iconst 3, 1) := by decide +kernel
theorem dL_law_410 : decode cL_law 410 = .ok (.iadd, 1) := by decide +kernel
theorem dL_law_411 : decode cL_law 411 = .ok (.iaload, 1) := by decide +kernel
theorem dL_law_412 : decode cL_law 412 = .ok (.invokevirtual 47, 3) := by decide +kernel
theorem dL_law_415 : decode cL_law 415 = .ok (.if_icmp .eq 522, 3) := by decide +kernel
theorem dL_law_418 : decode cL_law 418 = .ok (.iconst 0, 1) := by decide +kernel
theorem dL_law_419 : decode cL_law 419 = .ok (.ireturn, 1) := by decide +kernel
theorem dL_law_420 : decode cL_law 420 = .ok (.aload_n 1, 1) := by decide +kernel
theorem dL_law_421 : decode cL_law 421 = .ok (.aload_n 0, 1) := by decide +kernel
theorem dL_law_422 : decode cL_law 422 = .ok (.iload_n 3, 1) := by decide +kernel
theorem dL_law_423 : decode cL_law 423 = .ok (.iconst 1, 1) := by decide +kernel
theorem dL_law_424 : decode cL_law 424 = .ok (.iadd, 1) := by decide +kernel
theorem dL_law_425 : decode cL_law 425 = .ok (.iaload, 1) := by decide +kernel
theorem dL_law_426 : decode cL_law 426 = .ok (.aload_n 0, 1) := by decide +kernel
theorem dL_law_427 : decode cL_law 427 = .ok (.iload_n 3, 1) := by decide +kernel
theorem dL_law_428 : decode cL_law 428 = .ok (.iconst 2, 1) := by decide +kernel
theorem dL_law_429 : decode cL_law 429 = .ok (.iadd, 1) := by decide +kernel
theorem dL_law_430 : decode cL_law 430 = .ok (.iaload, 1) := by decide +kernel
theorem dL_law_431 : decode cL_law 431 = .ok (.aload_n 0, 1) := by decide +kernel
theorem dL_law_432 : decode cL_law 432 = .ok (.iload_n 3, 1) := by decide +kernel
theorem dL_law_433 : decode cL_law 433 = .ok (.iconst 3, 1) := by decide +kernel
theorem dL_law_434 : decode cL_law 434 = .ok (.iadd, 1) := by decide +kernel
theorem dL_law_435 : decode cL_law 435 = .ok (.iaload, 1) := by decide +kernel
theorem dL_law_436 : decode cL_law 436 = .ok (.invokevirtual 48, 3) := by decide +kernel
theorem dL_law_439 : decode cL_law 439 = .ok (.aload_n 2, 1) := by decide +kernel
theorem dL_law_440 : decode cL_law 440 = .ok (.aload_n 0, 1) := by decide +kernel
theorem dL_law_441 : decode cL_law 441 = .ok (.iload_n 3, 1) := by decide +kernel
theorem dL_law_442 : decode cL_law 442 = .ok (.iconst 1, 1) := by decide +kernel
theorem dL_law_443 : decode cL_law 443 = .ok (.iadd, 1) := by decide +kernel
theorem dL_law_444 : decode cL_law 444 = .ok (.iaload, 1) := by decide +kernel
theorem dL_law_445 : decode cL_law 445 = .ok (.aload_n 0, 1) := by decide +kernel
theorem dL_law_446 : decode cL_law 446 = .ok (.iload_n 3, 1) := by decide +kernel
theorem dL_law_447 : decode cL_law 447 = .ok (.iconst 2, 1) := by decide +kernel
theorem dL_law_448 : decode cL_law 448 = .ok (.iadd, 1) := by decide +kernel
theorem dL_law_449 : decode cL_law 449 = .ok (.iaload, 1) := by decide +kernel
theorem dL_law_450 : decode cL_law 450 = .ok (.aload_n 0, 1) := by decide +kernel
theorem dL_law_451 : decode cL_law 451 = .ok (.iload_n 3, 1) := by decide +kernel
theorem dL_law_452 : decode cL_law 452 = .ok (.iconst 3, 1) := by decide +kernel
theorem dL_law_453 : decode cL_law 453 = .ok (.iadd, 1) := by decide +kernel
theorem dL_law_454 : decode cL_law 454 = .ok (.iaload, 1) := by decide +kernel
theorem dL_law_455 : decode cL_law 455 = .ok (.invokevirtual 51, 3) := by decide +kernel
theorem dL_law_458 : decode cL_law 458 = .ok (.if_icmp .eq 479, 3) := by decide +kernel
theorem dL_law_461 : decode cL_law 461 = .ok (.iconst 0, 1) := by decide +kernel
theorem dL_law_462 : decode cL_law 462 = .ok (.ireturn, 1) := by decide +kernel
theorem dL_law_463 : decode cL_law 463 = .ok (.aload_n 1, 1) := by decide +kernel
theorem dL_law_464 : decode cL_law 464 = .ok (.aload_n 0, 1) := by decide +kernel
theorem dL_law_465 : decode cL_law 465 = .ok (.iload_n 3, 1) := by decide +kernel
theorem dL_law_466 : decode cL_law 466 = .ok (.iconst 1, 1) := by decide +kernel
theorem dL_law_467 : decode cL_law 467 = .ok (.iadd, 1) := by decide +kernel
theorem dL_law_468 : decode cL_law 468 = .ok (.iaload, 1) := by decide +kernel
theorem dL_law_469 : decode cL_law 469 = .ok (.aload_n 0, 1) := by decide +kernel
theorem dL_law_470 : decode cL_law 470 = .ok (.iload_n 3, 1) := by decide +kernel
theorem dL_law_471 : decode cL_law 471 = .ok (.iconst 2, 1) := by decide +kernel
theorem dL_law_472 : decode cL_law 472 = .ok (.iadd, 1) := by decide +kernel
theorem dL_law_473 : decode cL_law 473 = .ok (.iaload, 1) := by decide +kernel
theorem dL_law_474 : decode cL_law 474 = .ok (.invokevirtual 52, 3) := by decide +kernel
theorem dL_law_477 : decode cL_law 477 = .ok (.aload_n 2, 1) := by decide +kernel
theorem dL_law_478 : decode cL_law 478 = .ok (.aload_n 0, 1) := by decide +kernel
theorem dL_law_479 : decode cL_law 479 = .ok (.iload_n 3, 1) := by decide +kernel
theorem dL_law_480 : decode cL_law 480 = .ok (.iconst 1, 1) := by decide +kernel
theorem dL_law_481 : decode cL_law 481 = .ok (.iadd, 1) := by decide +kernel
theorem dL_law_482 : decode cL_law 482 = .ok (.iaload, 1) := by decide +kernel
theorem dL_law_483 : decode cL_law 483 = .ok (.aload_n 0, 1) := by decide +kernel
theorem dL_law_484 : decode cL_law 484 = .ok (.iload_n 3, 1) := by decide +kernel
theorem dL_law_485 : decode cL_law 485 = .ok (.iconst 2, 1) := by decide +kernel
theorem dL_law_486 : decode cL_law 486 = .ok (.iadd, 1) := by decide +kernel
theorem dL_law_487 : decode cL_law 487 = .ok (.iaload, 1) := by decide +kernel
theorem dL_law_488 : decode cL_law 488 = .ok (.invokevirtual 55, 3) := by decide +kernel
theorem dL_law_491 : decode cL_law 491 = .ok (.if_icmp .eq 446, 3) := by decide +kernel
end
section
theorem dL_law_494 : decode cL_law 494 = .ok (.iconst 0, 1) := by decide +kernel
theorem dL_law_495 : decode cL_law 495 = .ok (.ireturn, 1) := by decide +kernel
theorem dL_law_496 : decode cL_law 496 = .ok (.aload_n 1, 1) := by decide +kernel
theorem dL_law_497 : decode cL_law 497 = .ok (.aload_n 0, 1) := by decide +kernel
theorem dL_law_498 : decode cL_law 498 = .ok (.iload_n 3, 1) := by decide +kernel
theorem dL_law_499 : decode cL_law 499 = .ok (.iconst 1, 1) := by decide +kernel
theorem dL_law_500 : decode cL_law 500 = .ok (.iadd, 1) := by decide +kernel
theorem dL_law_501 : decode cL_law 501 = .ok (.iaload, 1) := by decide +kernel
theorem dL_law_502 : decode cL_law 502 = .ok (.aload_n 0, 1) := by decide +kernel
theorem dL_law_503 : decode cL_law 503 = .ok (.iload_n 3, 1) := by decide +kernel
theorem dL_law_504 : decode cL_law 504 = .ok (.iconst 2, 1) := by decide +kernel
theorem dL_law_505 : decode cL_law 505 = .ok (.iadd, 1) := by decide +kernel
theorem dL_law_506 : decode cL_law 506 = .ok (.iaload, 1) := by decide +kernel
theorem dL_law_507 : decode cL_law 507 = .ok (.invokevirtual 56, 3) := by decide +kernel
theorem dL_law_510 : decode cL_law 510 = .ok (.aload_n 2, 1) := by decide +kernel
theorem dL_law_511 : decode cL_law 511 = .ok (.aload_n 0, 1) := by decide +kernel
theorem dL_law_512 : decode cL_law 512 = .ok (.iload_n 3, 1) := by decide +kernel
theorem dL_law_513 : decode cL_law 513 = .ok (.iconst 1, 1) := by decide +kernel
theorem dL_law_514 : decode cL_law 514 = .ok (.iadd, 1) := by decide +kernel
theorem dL_law_515 : decode cL_law 515 = .ok (.iaload, 1) := by decide +kernel
theorem dL_law_516 : decode cL_law 516 = .ok (.aload_n 0, 1) := by decide +kernel
theorem dL_law_517 : decode cL_law 517 = .ok (.iload_n 3, 1) := by decide +kernel
theorem dL_law_518 : decode cL_law 518 = .ok (.iconst 2, 1) := by decide +kernel
theorem dL_law_519 : decode cL_law 519 = .ok (.iadd, 1) := by decide +kernel
theorem dL_law_520 : decode cL_law 520 = .ok (.iaload, 1) := by decide +kernel
theorem dL_law_521 : decode cL_law 521 = .ok (.invokevirtual 59, 3) := by decide +kernel
theorem dL_law_524 : decode cL_law 524 = .ok (.if_icmp .eq 413, 3) := by decide +kernel
theorem dL_law_527 : decode cL_law 527 = .ok (.iconst 0, 1) := by decide +kernel
theorem dL_law_528 : decode cL_law 528 = .ok (.ireturn, 1) := by decide +kernel
theorem dL_law_529 : decode cL_law 529 = .ok (.aload_n 1, 1) := by decide +kernel
theorem dL_law_530 : decode cL_law 530 = .ok (.aload_n 0, 1) := by decide +kernel
theorem dL_law_531 : decode cL_law 531 = .ok (.iload_n 3, 1) := by decide +kernel
theorem dL_law_532 : decode cL_law 532 = .ok (.iconst 1, 1) := by decide +kernel
theorem dL_law_533 : decode cL_law 533 = .ok (.iadd, 1) := by decide +kernel
theorem dL_law_534 : decode cL_law 534 = .ok (.iaload, 1) := by decide +kernel
theorem dL_law_535 : decode cL_law 535 = .ok (.invokevirtual 60, 3) := by decide +kernel
theorem dL_law_538 : decode cL_law 538 = .ok (.aload_n 2, 1) := by decide +kernel
theorem dL_law_539 : decode cL_law 539 = .ok (.aload_n 0, 1) := by decide +kernel
theorem dL_law_540 : decode cL_law 540 = .ok (.iload_n 3, 1) := by decide +kernel
theorem dL_law_541 : decode cL_law 541 = .ok (.iconst 1, 1) := by decide +kernel
theorem dL_law_542 : decode cL_law 542 = .ok (.iadd, 1) := by decide +kernel
theorem dL_law_543 : decode cL_law 543 = .ok (.iaload, 1) := by decide +kernel
theorem dL_law_544 : decode cL_law 544 = .ok (.invokevirtual 64, 3) := by decide +kernel
theorem dL_law_547 : decode cL_law 547 = .ok (.if_icmp .eq 390, 3) := by decide +kernel
theorem dL_law_550 : decode cL_law 550 = .ok (.iconst 0, 1) := by decide +kernel
theorem dL_law_551 : decode cL_law 551 = .ok (.ireturn, 1) := by decide +kernel
theorem dL_law_552 : decode cL_law 552 = .ok (.aload_n 1, 1) := by decide +kernel
theorem dL_law_553 : decode cL_law 553 = .ok (.aload_n 0, 1) := by decide +kernel
theorem dL_law_554 : decode cL_law 554 = .ok (.iload_n 3, 1) := by decide +kernel
theorem dL_law_555 : decode cL_law 555 = .ok (.iconst 1, 1) := by decide +kernel
theorem dL_law_556 : decode cL_law 556 = .ok (.iadd, 1) := by decide +kernel
theorem dL_law_557 : decode cL_law 557 = .ok (.iaload, 1) := by decide +kernel
theorem dL_law_558 : decode cL_law 558 = .ok (.invokevirtual 65, 3) := by decide +kernel
theorem dL_law_561 : decode cL_law 561 = .ok (.aload_n 2, 1) := by decide +kernel
theorem dL_law_562 : decode cL_law 562 = .ok (.aload_n 0, 1) := by decide +kernel
theorem dL_law_563 : decode cL_law 563 = .ok (.iload_n 3, 1) := by decide +kernel
theorem dL_law_564 : decode cL_law 564 = .ok (.iconst 1, 1) := by decide +kernel
theorem dL_law_565 : decode cL_law 565 = .ok (.iadd, 1) := by decide +kernel
theorem dL_law_566 : decode cL_law 566 = .ok (.iaload, 1) := by decide +kernel
theorem dL_law_567 : decode cL_law 567 = .ok (.invokevirtual 68, 3) := by decide +kernel
theorem dL_law_570 : decode cL_law 570 = .ok (.if_icmp .eq 367, 3) := by decide +kernel
theorem dL_law_573 : decode cL_law 573 = .ok (.iconst 0, 1) := by decide +kernel
theorem dL_law_574 : decode cL_law 574 = .ok (.ireturn, 1) := by decide +kernel
theorem dL_law_575 : decode cL_law 575 = .ok (.aload_n 1, 1) := by decide +kernel
theorem dL_law_576 : decode cL_law 576 = .ok (.aload_n 0, 1) := by decide +kernel
theorem dL_law_577 : decode cL_law 577 = .ok (.iload_n 3, 1) := by decide +kernel
theorem dL_law_578 : decode cL_law 578 = .ok (.iconst 1, 1) := by decide +kernel
theorem dL_law_579 : decode cL_law 579 = .ok (.iadd, 1) := by decide +kernel
theorem dL_law_580 : decode cL_law 580 = .ok (.iaload, 1) := by decide +kernel
theorem dL_law_581 : decode cL_law 581 = .ok (.invokevirtual 69, 3) := by decide +kernel
theorem dL_law_584 : decode cL_law 584 = .ok (.aload_n 2, 1) := by decide +kernel
theorem dL_law_585 : decode cL_law 585 = .ok (.aload_n 0, 1) := by decide +kernel
theorem dL_law_586 : decode cL_law 586 = .ok (.iload_n 3, 1) := by decide +kernel
theorem dL_law_587 : decode cL_law 587 = .ok (.iconst 1, 1) := by decide +kernel
theorem dL_law_588 : decode cL_law 588 = .ok (.iadd, 1) := by decide +kernel
theorem dL_law_589 : decode cL_law 589 = .ok (.iaload, 1) := by decide +kernel
theorem dL_law_590 : decode cL_law 590 = .ok (.invokevirtual 72, 3) := by decide +kernel
theorem dL_law_593 : decode cL_law 593 = .ok (.if_icmp .eq 344, 3) := by decide +kernel
theorem dL_law_596 : decode cL_law 596 = .ok (.iconst 0, 1) := by decide +kernel
theorem dL_law_597 : decode cL_law 597 = .ok (.ireturn, 1) := by decide +kernel
theorem dL_law_598 : decode cL_law 598 = .ok (.aload_n 1, 1) := by decide +kernel
theorem dL_law_599 : decode cL_law 599 = .ok (.aload_n 0, 1) := by decide +kernel
theorem dL_law_600 : decode cL_law 600 = .ok (.iload_n 3, 1) := by decide +kernel
theorem dL_law_601 : decode cL_law 601 = .ok (.iconst 1, 1) := by decide +kernel
theorem dL_law_602 : decode cL_law 602 = .ok (.iadd, 1) := by decide +kernel
theorem dL_law_603 : decode cL_law 603 = .ok (.iaload, 1) := by decide +kernel
theorem dL_law_604 : decode cL_law 604 = .ok (.invokevirtual 73, 3) := by decide +kernel
theorem dL_law_607 : decode cL_law 607 = .ok (.aload_n 2, 1) := by decide +kernel
theorem dL_law_608 : decode cL_law 608 = .ok (.aload_n 0, 1) := by decide +kernel
theorem dL_law_609 : decode cL_law 609 = .ok (.iload_n 3, 1) := by decide +kernel
theorem dL_law_610 : decode cL_law 610 = .ok (.iconst 1, 1) := by decide +kernel
theorem dL_law_611 : decode cL_law 611 = .ok (.iadd, 1) := by decide +kernel
theorem dL_law_612 : decode cL_law 612 = .ok (.iaload, 1) := by decide +kernel
theorem dL_law_613 : decode cL_law 613 = .ok (.invokevirtual 76, 3) := by decide +kernel
theorem dL_law_616 : decode cL_law 616 = .ok (.if_icmp .eq 321, 3) := by decide +kernel
theorem dL_law_619 : decode cL_law 619 = .ok (.iconst 0, 1) := by decide +kernel
theorem dL_law_620 : decode cL_law 620 = .ok (.ireturn, 1) := by decide +kernel
theorem dL_law_621 : decode cL_law 621 = .ok (.aload_n 1, 1) := by decide +kernel
theorem dL_law_622 : decode cL_law 622 = .ok (.aload_n 0, 1) := by decide +kernel
theorem dL_law_623 : decode cL_law 623 = .ok (.iload_n 3, 1) := by decide +kernel
theorem dL_law_624 : decode cL_law 624 = .ok (.iconst 1, 1) := by decide +kernel
theorem dL_law_625 : decode cL_law 625 = .ok (.iadd, 1) := by decide +kernel
theorem dL_law_626 : decode cL_law 626 = .ok (.iaload, 1) := by decide +kernel
theorem dL_law_627 : decode cL_law 627 = .ok (.invokevirtual 77, 3) := by decide +kernel
theorem dL_law_630 : decode cL_law 630 = .ok (.aload_n 2, 1) := by decide +kernel
theorem dL_law_631 : decode cL_law 631 = .ok (.aload_n 0, 1) := by decide +kernel
theorem dL_law_632 : decode cL_law 632 = .ok (.iload_n 3, 1) := by decide +kernel
theorem dL_law_633 : decode cL_law 633 = .ok (.iconst 1, 1) := by decide +kernel
theorem dL_law_634 : decode cL_law 634 = .ok (.iadd, 1) := by decide +kernel
theorem dL_law_635 : decode cL_law 635 = .ok (.iaload, 1) := by decide +kernel
theorem dL_law_636 : decode cL_law 636 = .ok (.invokevirtual 80, 3) := by decide +kernel
theorem dL_law_639 : decode cL_law 639 = .ok (.if_icmp .eq 298, 3) := by decide +kernel
theorem dL_law_642 : decode cL_law 642 = .ok (.iconst 0, 1) := by decide +kernel
theorem dL_law_643 : decode cL_law 643 = .ok (.ireturn, 1) := by decide +kernel
theorem dL_law_644 : decode cL_law 644 = .ok (.aload_n 1, 1) := by decide +kernel
theorem dL_law_645 : decode cL_law 645 = .ok (.invokevirtual 81, 3) := by decide +kernel
theorem dL_law_648 : decode cL_law 648 = .ok (.aload_n 2, 1) := by decide +kernel
theorem dL_law_649 : decode cL_law 649 = .ok (.invokevirtual 84, 3) := by decide +kernel
theorem dL_law_652 : decode cL_law 652 = .ok (.if_icmp .eq 285, 3) := by decide +kernel
theorem dL_law_655 : decode cL_law 655 = .ok (.iconst 0, 1) := by decide +kernel
theorem dL_law_656 : decode cL_law 656 = .ok (.ireturn, 1) := by decide +kernel
theorem dL_law_657 : decode cL_law 657 = .ok (.aload_n 1, 1) := by decide +kernel
theorem dL_law_658 : decode cL_law 658 = .ok (.aload_n 0, 1) := by decide +kernel
theorem dL_law_659 : decode cL_law 659 = .ok (.iload_n 3, 1) := by decide +kernel
theorem dL_law_660 : decode cL_law 660 = .ok (.iconst 1, 1) := by decide +kernel
theorem dL_law_661 : decode cL_law 661 = .ok (.iadd, 1) := by decide +kernel
theorem dL_law_662 : decode cL_law 662 = .ok (.iaload, 1) := by decide +kernel
theorem dL_law_663 : decode cL_law 663 = .ok (.invokevirtual 85, 3) := by decide +kernel
theorem dL_law_666 : decode cL_law 666 = .ok (.aload_n 2, 1) := by decide +kernel
theorem dL_law_667 : decode cL_law 667 = .ok (.aload_n 0, 1) := by decide +kernel
theorem dL_law_668 : decode cL_law 668 = .ok (.iload_n 3, 1) := by decide +kernel
theorem dL_law_669 : decode cL_law 669 = .ok (.iconst 1, 1) := by decide +kernel
theorem dL_law_670 : decode cL_law 670 = .ok (.iadd, 1) := by decide +kernel
theorem dL_law_671 : decode cL_law 671 = .ok (.iaload, 1) := by decide +kernel
theorem dL_law_672 : decode cL_law 672 = .ok (.invokevirtual 88, 3) := by decide +kernel
theorem dL_law_675 : decode cL_law 675 = .ok (.if_icmp .eq 262, 3) := by decide +kernel
theorem dL_law_678 : decode cL_law 678 = .ok (.iconst 0, 1) := by decide +kernel
theorem dL_law_679 : decode cL_law 679 = .ok (.ireturn, 1) := by decide +kernel
theorem dL_law_680 : decode cL_law 680 = .ok (.aload_n 1, 1) := by decide +kernel
theorem dL_law_681 : decode cL_law 681 = .ok (.aload_n 0, 1) := by decide +kernel
theorem dL_law_682 : decode cL_law 682 = .ok (.iload_n 3, 1) := by decide +kernel
theorem dL_law_683 : decode cL_law 683 = .ok (.iconst 1, 1) := by decide +kernel
theorem dL_law_684 : decode cL_law 684 = .ok (.iadd, 1) := by decide +kernel
theorem dL_law_685 : decode cL_law 685 = .ok (.iaload, 1) := by decide +kernel
theorem dL_law_686 : decode cL_law 686 = .ok (.i2l, 1) := by decide +kernel
theorem dL_law_687 : decode cL_law 687 = .ok (.bipush 32, 2) := by decide +kernel
theorem dL_law_689 : decode cL_law 689 = .ok (.lshl, 1) := by decide +kernel
theorem dL_law_690 : decode cL_law 690 = .ok (.aload_n 0, 1) := by decide +kernel
theorem dL_law_691 : decode cL_law 691 = .ok (.iload_n 3, 1) := by decide +kernel
theorem dL_law_692 : decode cL_law 692 = .ok (.iconst 2, 1) := by decide +kernel
end
section
theorem dL_law_693 : decode cL_law 693 = .ok (.iadd, 1) := by decide +kernel
theorem dL_law_694 : decode cL_law 694 = .ok (.iaload, 1) := by decide +kernel
theorem dL_law_695 : decode cL_law 695 = .ok (.i2l, 1) := by decide +kernel
theorem dL_law_696 : decode cL_law 696 = .ok (.ldc2_w 89, 3) := by decide +kernel
theorem dL_law_699 : decode cL_law 699 = .ok (.land, 1) := by decide +kernel
theorem dL_law_700 : decode cL_law 700 = .ok (.lor, 1) := by decide +kernel
theorem dL_law_701 : decode cL_law 701 = .ok (.invokevirtual 91, 3) := by decide +kernel
theorem dL_law_704 : decode cL_law 704 = .ok (.aload_n 2, 1) := by decide +kernel
theorem dL_law_705 : decode cL_law 705 = .ok (.aload_n 0, 1) := by decide +kernel
theorem dL_law_706 : decode cL_law 706 = .ok (.iload_n 3, 1) := by decide +kernel
theorem dL_law_707 : decode cL_law 707 = .ok (.iconst 1, 1) := by decide +kernel
theorem dL_law_708 : decode cL_law 708 = .ok (.iadd, 1) := by decide +kernel
theorem dL_law_709 : decode cL_law 709 = .ok (.iaload, 1) := by decide +kernel
theorem dL_law_710 : decode cL_law 710 = .ok (.i2l, 1) := by decide +kernel
theorem dL_law_711 : decode cL_law 711 = .ok (.bipush 32, 2) := by decide +kernel
theorem dL_law_713 : decode cL_law 713 = .ok (.lshl, 1) := by decide +kernel
theorem dL_law_714 : decode cL_law 714 = .ok (.aload_n 0, 1) := by decide +kernel
theorem dL_law_715 : decode cL_law 715 = .ok (.iload_n 3, 1) := by decide +kernel
theorem dL_law_716 : decode cL_law 716 = .ok (.iconst 2, 1) := by decide +kernel
theorem dL_law_717 : decode cL_law 717 = .ok (.iadd, 1) := by decide +kernel
theorem dL_law_718 : decode cL_law 718 = .ok (.iaload, 1) := by decide +kernel
theorem dL_law_719 : decode cL_law 719 = .ok (.i2l, 1) := by decide +kernel
theorem dL_law_720 : decode cL_law 720 = .ok (.ldc2_w 89, 3) := by decide +kernel
theorem dL_law_723 : decode cL_law 723 = .ok (.land, 1) := by decide +kernel
theorem dL_law_724 : decode cL_law 724 = .ok (.lor, 1) := by decide +kernel
theorem dL_law_725 : decode cL_law 725 = .ok (.invokevirtual 95, 3) := by decide +kernel
theorem dL_law_728 : decode cL_law 728 = .ok (.if_icmp .eq 209, 3) := by decide +kernel
theorem dL_law_731 : decode cL_law 731 = .ok (.iconst 0, 1) := by decide +kernel
theorem dL_law_732 : decode cL_law 732 = .ok (.ireturn, 1) := by decide +kernel
theorem dL_law_733 : decode cL_law 733 = .ok (.aload_n 1, 1) := by decide +kernel
theorem dL_law_734 : decode cL_law 734 = .ok (.aload_n 0, 1) := by decide +kernel
theorem dL_law_735 : decode cL_law 735 = .ok (.iload_n 3, 1) := by decide +kernel
theorem dL_law_736 : decode cL_law 736 = .ok (.iconst 1, 1) := by decide +kernel
theorem dL_law_737 : decode cL_law 737 = .ok (.iadd, 1) := by decide +kernel
theorem dL_law_738 : decode cL_law 738 = .ok (.iaload, 1) := by decide +kernel
theorem dL_law_739 : decode cL_law 739 = .ok (.invokevirtual 96, 3) := by decide +kernel
theorem dL_law_742 : decode cL_law 742 = .ok (.aload_n 2, 1) := by decide +kernel
theorem dL_law_743 : decode cL_law 743 = .ok (.aload_n 0, 1) := by decide +kernel
theorem dL_law_744 : decode cL_law 744 = .ok (.iload_n 3, 1) := by decide +kernel
theorem dL_law_745 : decode cL_law 745 = .ok (.iconst 1, 1) := by decide +kernel
theorem dL_law_746 : decode cL_law 746 = .ok (.iadd, 1) := by decide +kernel
theorem dL_law_747 : decode cL_law 747 = .ok (.iaload, 1) := by decide +kernel
theorem dL_law_748 : decode cL_law 748 = .ok (.invokevirtual 99, 3) := by decide +kernel
theorem dL_law_751 : decode cL_law 751 = .ok (.if_icmp .eq 186, 3) := by decide +kernel
theorem dL_law_754 : decode cL_law 754 = .ok (.iconst 0, 1) := by decide +kernel
theorem dL_law_755 : decode cL_law 755 = .ok (.ireturn, 1) := by decide +kernel
theorem dL_law_756 : decode cL_law 756 = .ok (.aload_n 1, 1) := by decide +kernel
theorem dL_law_757 : decode cL_law 757 = .ok (.aload_n 0, 1) := by decide +kernel
theorem dL_law_758 : decode cL_law 758 = .ok (.iload_n 3, 1) := by decide +kernel
theorem dL_law_759 : decode cL_law 759 = .ok (.iconst 1, 1) := by decide +kernel
theorem dL_law_760 : decode cL_law 760 = .ok (.iadd, 1) := by decide +kernel
theorem dL_law_761 : decode cL_law 761 = .ok (.iaload, 1) := by decide +kernel
theorem dL_law_762 : decode cL_law 762 = .ok (.aload_n 0, 1) := by decide +kernel
theorem dL_law_763 : decode cL_law 763 = .ok (.iload_n 3, 1) := by decide +kernel
theorem dL_law_764 : decode cL_law 764 = .ok (.iconst 2, 1) := by decide +kernel
theorem dL_law_765 : decode cL_law 765 = .ok (.iadd, 1) := by decide +kernel
theorem dL_law_766 : decode cL_law 766 = .ok (.iaload, 1) := by decide +kernel
theorem dL_law_767 : decode cL_law 767 = .ok (.invokevirtual 100, 3) := by decide +kernel
theorem dL_law_770 : decode cL_law 770 = .ok (.aload_n 2, 1) := by decide +kernel
theorem dL_law_771 : decode cL_law 771 = .ok (.aload_n 0, 1) := by decide +kernel
theorem dL_law_772 : decode cL_law 772 = .ok (.iload_n 3, 1) := by decide +kernel
theorem dL_law_773 : decode cL_law 773 = .ok (.iconst 1, 1) := by decide +kernel
theorem dL_law_774 : decode cL_law 774 = .ok (.iadd, 1) := by decide +kernel
theorem dL_law_775 : decode cL_law 775 = .ok (.iaload, 1) := by decide +kernel
theorem dL_law_776 : decode cL_law 776 = .ok (.aload_n 0, 1) := by decide +kernel
theorem dL_law_777 : decode cL_law 777 = .ok (.iload_n 3, 1) := by decide +kernel
theorem dL_law_778 : decode cL_law 778 = .ok (.iconst 2, 1) := by decide +kernel
theorem dL_law_779 : decode cL_law 779 = .ok (.iadd, 1) := by decide +kernel
theorem dL_law_780 : decode cL_law 780 = .ok (.iaload, 1) := by decide +kernel
theorem dL_law_781 : decode cL_law 781 = .ok (.invokevirtual 103, 3) := by decide +kernel
theorem dL_law_784 : decode cL_law 784 = .ok (.if_icmp .eq 153, 3) := by decide +kernel
theorem dL_law_787 : decode cL_law 787 = .ok (.iconst 0, 1) := by decide +kernel
theorem dL_law_788 : decode cL_law 788 = .ok (.ireturn, 1) := by decide +kernel
theorem dL_law_789 : decode cL_law 789 = .ok (.aload_n 1, 1) := by decide +kernel
theorem dL_law_790 : decode cL_law 790 = .ok (.aload_n 0, 1) := by decide +kernel
theorem dL_law_791 : decode cL_law 791 = .ok (.iload_n 3, 1) := by decide +kernel
theorem dL_law_792 : decode cL_law 792 = .ok (.iconst 1, 1) := by decide +kernel
theorem dL_law_793 : decode cL_law 793 = .ok (.iadd, 1) := by decide +kernel
theorem dL_law_794 : decode cL_law 794 = .ok (.iaload, 1) := by decide +kernel
theorem dL_law_795 : decode cL_law 795 = .ok (.invokevirtual 104, 3) := by decide +kernel
theorem dL_law_798 : decode cL_law 798 = .ok (.aload_n 2, 1) := by decide +kernel
theorem dL_law_799 : decode cL_law 799 = .ok (.aload_n 0, 1) := by decide +kernel
theorem dL_law_800 : decode cL_law 800 = .ok (.iload_n 3, 1) := by decide +kernel
theorem dL_law_801 : decode cL_law 801 = .ok (.iconst 1, 1) := by decide +kernel
theorem dL_law_802 : decode cL_law 802 = .ok (.iadd, 1) := by decide +kernel
theorem dL_law_803 : decode cL_law 803 = .ok (.iaload, 1) := by decide +kernel
theorem dL_law_804 : decode cL_law 804 = .ok (.invokevirtual 107, 3) := by decide +kernel
theorem dL_law_807 : decode cL_law 807 = .ok (.if_icmp .eq 130, 3) := by decide +kernel
theorem dL_law_810 : decode cL_law 810 = .ok (.iconst 0, 1) := by decide +kernel
theorem dL_law_811 : decode cL_law 811 = .ok (.ireturn, 1) := by decide +kernel
theorem dL_law_812 : decode cL_law 812 = .ok (.aload_n 1, 1) := by decide +kernel
theorem dL_law_813 : decode cL_law 813 = .ok (.invokevirtual 108, 3) := by decide +kernel
theorem dL_law_816 : decode cL_law 816 = .ok (.aload_n 2, 1) := by decide +kernel
theorem dL_law_817 : decode cL_law 817 = .ok (.invokevirtual 111, 3) := by decide +kernel
theorem dL_law_820 : decode cL_law 820 = .ok (.if_icmp .eq 117, 3) := by decide +kernel
theorem dL_law_823 : decode cL_law 823 = .ok (.iconst 0, 1) := by decide +kernel
theorem dL_law_824 : decode cL_law 824 = .ok (.ireturn, 1) := by decide +kernel
theorem dL_law_825 : decode cL_law 825 = .ok (.aload_n 1, 1) := by decide +kernel
theorem dL_law_826 : decode cL_law 826 = .ok (.aload_n 0, 1) := by decide +kernel
theorem dL_law_827 : decode cL_law 827 = .ok (.iload_n 3, 1) := by decide +kernel
theorem dL_law_828 : decode cL_law 828 = .ok (.iconst 1, 1) := by decide +kernel
theorem dL_law_829 : decode cL_law 829 = .ok (.iadd, 1) := by decide +kernel
theorem dL_law_830 : decode cL_law 830 = .ok (.iaload, 1) := by decide +kernel
theorem dL_law_831 : decode cL_law 831 = .ok (.aload_n 0, 1) := by decide +kernel
theorem dL_law_832 : decode cL_law 832 = .ok (.iload_n 3, 1) := by decide +kernel
theorem dL_law_833 : decode cL_law 833 = .ok (.iconst 2, 1) := by decide +kernel
theorem dL_law_834 : decode cL_law 834 = .ok (.iadd, 1) := by decide +kernel
theorem dL_law_835 : decode cL_law 835 = .ok (.iaload, 1) := by decide +kernel
theorem dL_law_836 : decode cL_law 836 = .ok (.invokevirtual 112, 3) := by decide +kernel
theorem dL_law_839 : decode cL_law 839 = .ok (.aload_n 2, 1) := by decide +kernel
theorem dL_law_840 : decode cL_law 840 = .ok (.aload_n 0, 1) := by decide +kernel
theorem dL_law_841 : decode cL_law 841 = .ok (.iload_n 3, 1) := by decide +kernel
theorem dL_law_842 : decode cL_law 842 = .ok (.iconst 1, 1) := by decide +kernel
theorem dL_law_843 : decode cL_law 843 = .ok (.iadd, 1) := by decide +kernel
theorem dL_law_844 : decode cL_law 844 = .ok (.iaload, 1) := by decide +kernel
theorem dL_law_845 : decode cL_law 845 = .ok (.aload_n 0, 1) := by decide +kernel
theorem dL_law_846 : decode cL_law 846 = .ok (.iload_n 3, 1) := by decide +kernel
theorem dL_law_847 : decode cL_law 847 = .ok (.iconst 2, 1) := by decide +kernel
theorem dL_law_848 : decode cL_law 848 = .ok (.iadd, 1) := by decide +kernel
theorem dL_law_849 : decode cL_law 849 = .ok (.iaload, 1) := by decide +kernel
theorem dL_law_850 : decode cL_law 850 = .ok (.invokevirtual 115, 3) := by decide +kernel
theorem dL_law_853 : decode cL_law 853 = .ok (.if_icmp .eq 84, 3) := by decide +kernel
theorem dL_law_856 : decode cL_law 856 = .ok (.iconst 0, 1) := by decide +kernel
theorem dL_law_857 : decode cL_law 857 = .ok (.ireturn, 1) := by decide +kernel
theorem dL_law_858 : decode cL_law 858 = .ok (.aload_n 1, 1) := by decide +kernel
theorem dL_law_859 : decode cL_law 859 = .ok (.aload_n 0, 1) := by decide +kernel
theorem dL_law_860 : decode cL_law 860 = .ok (.iload_n 3, 1) := by decide +kernel
theorem dL_law_861 : decode cL_law 861 = .ok (.iconst 1, 1) := by decide +kernel
theorem dL_law_862 : decode cL_law 862 = .ok (.iadd, 1) := by decide +kernel
theorem dL_law_863 : decode cL_law 863 = .ok (.iaload, 1) := by decide +kernel
theorem dL_law_864 : decode cL_law 864 = .ok (.aload_n 0, 1) := by decide +kernel
theorem dL_law_865 : decode cL_law 865 = .ok (.iload_n 3, 1) := by decide +kernel
theorem dL_law_866 : decode cL_law 866 = .ok (.iconst 2, 1) := by decide +kernel
theorem dL_law_867 : decode cL_law 867 = .ok (.iadd, 1) := by decide +kernel
theorem dL_law_868 : decode cL_law 868 = .ok (.iaload, 1) := by decide +kernel
theorem dL_law_869 : decode cL_law 869 = .ok (.invokevirtual 116, 3) := by decide +kernel
theorem dL_law_872 : decode cL_law 872 = .ok (.aload_n 2, 1) := by decide +kernel
theorem dL_law_873 : decode cL_law 873 = .ok (.aload_n 0, 1) := by decide +kernel
theorem dL_law_874 : decode cL_law 874 = .ok (.iload_n 3, 1) := by decide +kernel
theorem dL_law_875 : decode cL_law 875 = .ok (.iconst 1, 1) := by decide +kernel
theorem dL_law_876 : decode cL_law 876 = .ok (.iadd, 1) := by decide +kernel
theorem dL_law_877 : decode cL_law 877 = .ok (.iaload, 1) := by decide +kernel
theorem dL_law_878 : decode cL_law 878 = .ok (.aload_n 0, 1) := by decide +kernel
theorem dL_law_879 : decode cL_law 879 = .ok (.iload_n 3, 1) := by decide +kernel
theorem dL_law_880 : decode cL_law 880 = .ok (.iconst 2, 1) := by decide +kernel
theorem dL_law_881 : decode cL_law 881 = .ok (.iadd, 1) := by decide +kernel
theorem dL_law_882 : decode cL_law 882 = .ok (.iaload, 1) := by decide +kernel
theorem dL_law_883 : decode cL_law 883 = .ok (.invokevirtual 119, 3) := by decide +kernel
theorem dL_law_886 : decode cL_law 886 = .ok (.if_icmp .eq 51, 3) := by decide +kernel
theorem dL_law_889 : decode cL_law 889 = .ok (.iconst 0, 1) := by decide +kernel
end
section
theorem dL_law_890 : decode cL_law 890 = .ok (.ireturn, 1) := by decide +kernel
theorem dL_law_891 : decode cL_law 891 = .ok (.aload_n 1, 1) := by decide +kernel
theorem dL_law_892 : decode cL_law 892 = .ok (.aload_n 0, 1) := by decide +kernel
theorem dL_law_893 : decode cL_law 893 = .ok (.iload_n 3, 1) := by decide +kernel
theorem dL_law_894 : decode cL_law 894 = .ok (.iconst 1, 1) := by decide +kernel
theorem dL_law_895 : decode cL_law 895 = .ok (.iadd, 1) := by decide +kernel
theorem dL_law_896 : decode cL_law 896 = .ok (.iaload, 1) := by decide +kernel
theorem dL_law_897 : decode cL_law 897 = .ok (.aload_n 0, 1) := by decide +kernel
theorem dL_law_898 : decode cL_law 898 = .ok (.iload_n 3, 1) := by decide +kernel
theorem dL_law_899 : decode cL_law 899 = .ok (.iconst 2, 1) := by decide +kernel
theorem dL_law_900 : decode cL_law 900 = .ok (.iadd, 1) := by decide +kernel
theorem dL_law_901 : decode cL_law 901 = .ok (.iaload, 1) := by decide +kernel
theorem dL_law_902 : decode cL_law 902 = .ok (.invokevirtual 120, 3) := by decide +kernel
theorem dL_law_905 : decode cL_law 905 = .ok (.aload_n 2, 1) := by decide +kernel
theorem dL_law_906 : decode cL_law 906 = .ok (.aload_n 0, 1) := by decide +kernel
theorem dL_law_907 : decode cL_law 907 = .ok (.iload_n 3, 1) := by decide +kernel
theorem dL_law_908 : decode cL_law 908 = .ok (.iconst 1, 1) := by decide +kernel
theorem dL_law_909 : decode cL_law 909 = .ok (.iadd, 1) := by decide +kernel
theorem dL_law_910 : decode cL_law 910 = .ok (.iaload, 1) := by decide +kernel
theorem dL_law_911 : decode cL_law 911 = .ok (.aload_n 0, 1) := by decide +kernel
theorem dL_law_912 : decode cL_law 912 = .ok (.iload_n 3, 1) := by decide +kernel
theorem dL_law_913 : decode cL_law 913 = .ok (.iconst 2, 1) := by decide +kernel
theorem dL_law_914 : decode cL_law 914 = .ok (.iadd, 1) := by decide +kernel
theorem dL_law_915 : decode cL_law 915 = .ok (.iaload, 1) := by decide +kernel
theorem dL_law_916 : decode cL_law 916 = .ok (.invokevirtual 123, 3) := by decide +kernel
theorem dL_law_919 : decode cL_law 919 = .ok (.if_icmp .eq 18, 3) := by decide +kernel
theorem dL_law_922 : decode cL_law 922 = .ok (.iconst 0, 1) := by decide +kernel
theorem dL_law_923 : decode cL_law 923 = .ok (.ireturn, 1) := by decide +kernel
theorem dL_law_924 : decode cL_law 924 = .ok (.aload_n 1, 1) := by decide +kernel
theorem dL_law_925 : decode cL_law 925 = .ok (.invokevirtual 124, 3) := by decide +kernel
theorem dL_law_928 : decode cL_law 928 = .ok (.aload_n 2, 1) := by decide +kernel
theorem dL_law_929 : decode cL_law 929 = .ok (.invokevirtual 127, 3) := by decide +kernel
theorem dL_law_932 : decode cL_law 932 = .ok (.if_icmp .eq 5, 3) := by decide +kernel
theorem dL_law_935 : decode cL_law 935 = .ok (.iconst 0, 1) := by decide +kernel
theorem dL_law_936 : decode cL_law 936 = .ok (.ireturn, 1) := by decide +kernel
theorem dL_law_937 : decode cL_law 937 = .ok (.iinc 3 4, 3) := by decide +kernel
theorem dL_law_940 : decode cL_law 940 = .ok (.goto (-922), 3) := by decide +kernel
theorem dL_law_943 : decode cL_law 943 = .ok (.iconst 1, 1) := by decide +kernel
theorem dL_law_944 : decode cL_law 944 = .ok (.ireturn, 1) := by decide +kernel
end
section
/-! nets, as numbers: N 0 0 posts, N 1 bars, N 2 prices, N 3 those behind, N 4 those ahead, N (5 + p) q the weight from p to q -/
abbrev ln_N : Type := Nat → Nat → Nat
def ln_wf (N : ln_N) : Prop := N 0 0 ≤ 12 ∧ ∀ p : Nat, N 1 p ≤ 99 ∧ N 2 p ≤ 1000 ∧ ∀ q : Nat, N (5 + p) q ≤ 9 ∧ (N 3 p).testBit q = decide (0 < N (5 + p) q) ∧ (N 4 q).testBit p = decide (0 < N (5 + p) q) ∧ (0 < N (5 + p) q → p < N 0 0 ∧ q < N 0 0)
theorem ln_bits {a n : Nat} (h : ∀ i, n ≤ i → a.testBit i = false) : a < 2 ^ n := Nat.lt_pow_two_of_testBit a h
theorem ln_wf.n12 {N : ln_N} (h : ln_wf N) : N 0 0 ≤ 12 := h.1
theorem ln_wf.bhn {N : ln_N} (h : ln_wf N) (p : Nat) : N 3 p < 2 ^ N 0 0 := by
  apply ln_bits
  intro i hi
  have h1 := (h.2 p).2.2 i
  rw [h1.2.1]
  apply decide_eq_false
  intro h2
  have := (h1.2.2.2 h2).2
  omega
theorem ln_wf.ahn {N : ln_N} (h : ln_wf N) (p : Nat) : N 4 p < 2 ^ N 0 0 := by
  apply ln_bits
  intro i hi
  have h1 := (h.2 i).2.2 p
  rw [h1.2.2.1]
  apply decide_eq_false
  intro h2
  have := (h1.2.2.2 h2).1
  omega
theorem ln_pn {n : Nat} (h : n ≤ 12) : 2 ^ n ≤ 4096 := Nat.pow_le_pow_right (n := 2) (by decide) h
theorem ln_p12 {n : Nat} (h : n < 12) : 2 ^ n < 4096 := Nat.pow_lt_pow_right (a := 2) (by decide) h
theorem ln_wf.p12 {N : ln_N} (h : ln_wf N) : 2 ^ N 0 0 ≤ 4096 := ln_pn h.1
theorem ln_wf.bh12 {N : ln_N} (h : ln_wf N) (p : Nat) : N 3 p < 4096 := Nat.lt_of_lt_of_le (h.bhn p) h.p12
theorem ln_wf.ah12 {N : ln_N} (h : ln_wf N) (p : Nat) : N 4 p < 4096 := Nat.lt_of_lt_of_le (h.ahn p) h.p12
theorem ln_wf.b12 {N : ln_N} (h : ln_wf N) (p : Nat) : N 1 p < 4096 := by have := (h.2 p).1; omega
theorem ln_wf.pr12 {N : ln_N} (h : ln_wf N) (p : Nat) : N 2 p < 4096 := by have := (h.2 p).2.1; omega
theorem ln_wf.w12 {N : ln_N} (h : ln_wf N) (p q : Nat) : N (5 + p) q < 4096 := by have := ((h.2 p).2.2 q).1; omega
theorem ln_31 {a : Nat} (h : a < 4096) : a < 2 ^ 31 := Nat.lt_of_lt_of_le h (by decide)
theorem ln_and_ltr {a b N : Nat} (hb : b < N) : a &&& b < N := Nat.lt_of_le_of_lt Nat.and_le_right hb
theorem ln_or12 {a b : Nat} (ha : a < 4096) (hb : b < 4096) : a ||| b < 4096 := Nat.or_lt_two_pow (n := 12) ha hb
theorem ln_shr_lt {a b N : Nat} (ha : a < N) : a >>> b < N := Nat.lt_of_le_of_lt (Nat.shiftRight_le a b) ha
def ln_nC (N : ln_N) (σ : ln_S) : Prop := σ 1 0 = nI (N 0 0) ∧ ∀ p, p < 12 → (σ 2 p = nI (N 1 p) ∧ σ 3 p = nI (N 2 p) ∧ σ 5 p = nI (N 3 p) ∧ σ 6 p = nI (N 4 p) ∧ ∀ q, q < 12 → σ (25 + p) q = nI (N (5 + p) q))
theorem ln_nC.n {N : ln_N} {σ : ln_S} (h : ln_nC N σ) : σ 1 0 = nI (N 0 0) := h.1
theorem ln_nC.b {N : ln_N} {σ : ln_S} (h : ln_nC N σ) {p : Nat} (hp : p < 12) : σ 2 p = nI (N 1 p) := (h.2 p hp).1
theorem ln_nC.pr {N : ln_N} {σ : ln_S} (h : ln_nC N σ) {p : Nat} (hp : p < 12) : σ 3 p = nI (N 2 p) := (h.2 p hp).2.1
theorem ln_nC.bh {N : ln_N} {σ : ln_S} (h : ln_nC N σ) {p : Nat} (hp : p < 12) : σ 5 p = nI (N 3 p) := (h.2 p hp).2.2.1
theorem ln_nC.ah {N : ln_N} {σ : ln_S} (h : ln_nC N σ) {p : Nat} (hp : p < 12) : σ 6 p = nI (N 4 p) := (h.2 p hp).2.2.2.1
theorem ln_nC.w {N : ln_N} {σ : ln_S} (h : ln_nC N σ) {p q : Nat} (hp : p < 12) (hq : q < 12) : σ (25 + p) q = nI (N (5 + p) q) := (h.2 p hp).2.2.2.2 q hq
/-- what isn't of the net may change -/
theorem ln_nC.up {N : ln_N} {σ : ln_S} (h : ln_nC N σ) {k : Nat} (hk : 7 ≤ k ∧ k < 25 ∨ 37 ≤ k) (f : Nat → Int32) : ln_nC N (ln_up σ k f) := by
  refine ⟨by rw [ln_up_n _ _ (by omega)]; exact h.1, fun p hp => ?_⟩
  rw [ln_up_n _ _ (by omega), ln_up_n _ _ (by omega), ln_up_n _ _ (by omega), ln_up_n _ _ (by omega), ln_up_n _ _ (by omega)]
  exact h.2 p hp
def ln_nM (N : ln_N) (σ : ln_S) : Prop := σ 0 0 = nI (N 0 0) ∧ ∀ p, p < 12 → (σ 2 p = nI (N 1 p) ∧ σ 3 p = nI (N 2 p) ∧ σ 4 p = nI (N 3 p) ∧ ∀ q, q < 12 → σ 1 (12 * p + q) = nI (N (5 + p) q))
theorem ln_nM.n {N : ln_N} {σ : ln_S} (h : ln_nM N σ) : σ 0 0 = nI (N 0 0) := h.1
theorem ln_nM.b {N : ln_N} {σ : ln_S} (h : ln_nM N σ) {p : Nat} (hp : p < 12) : σ 2 p = nI (N 1 p) := (h.2 p hp).1
theorem ln_nM.pr {N : ln_N} {σ : ln_S} (h : ln_nM N σ) {p : Nat} (hp : p < 12) : σ 3 p = nI (N 2 p) := (h.2 p hp).2.1
theorem ln_nM.bh {N : ln_N} {σ : ln_S} (h : ln_nM N σ) {p : Nat} (hp : p < 12) : σ 4 p = nI (N 3 p) := (h.2 p hp).2.2.1
theorem ln_nM.w {N : ln_N} {σ : ln_S} (h : ln_nM N σ) {p q : Nat} (hp : p < 12) (hq : q < 12) : σ 1 (12 * p + q) = nI (N (5 + p) q) := (h.2 p hp).2.2.2 q hq
theorem ln_nM.up {N : ln_N} {σ : ln_S} (h : ln_nM N σ) {k : Nat} (hk : 5 ≤ k) (f : Nat → Int32) : ln_nM N (ln_up σ k f) := by
  refine ⟨by rw [ln_up_n _ _ (by omega)]; exact h.1, fun p hp => ?_⟩
  rw [ln_up_n _ _ (by omega), ln_up_n _ _ (by omega), ln_up_n _ _ (by omega), ln_up_n _ _ (by omega)]
  exact h.2 p hp
theorem ln_nM.up0 {N : ln_N} {σ : ln_S} (h : ln_nM N σ) {k : Nat} (hk : k ≠ 0) (x : Int32) : ln_nM N (ln_up σ 0 (upd (σ 0) k x)) := by
  refine ⟨by rw [ln_up_s]; unfold upd; rw [if_neg (Ne.symm hk)]; exact h.1, fun p hp => ?_⟩
  rw [ln_up_n _ _ (by omega), ln_up_n _ _ (by omega), ln_up_n _ _ (by omega), ln_up_n _ _ (by omega)]
  exact h.2 p hp
/-- an int in a range from 0 on -/
def ln_inr (x : Int32) (n : Nat) : Bool := decide (0 ≤ x.toInt ∧ x.toInt < n)
theorem ln_inr_t {x : Int32} {n : Nat} (hn : n ≤ 2 ^ 30) (h : ln_inr x n = true) : ∃ p : Nat, p < n ∧ x = nI p := by
  have h1 := of_decide_eq_true h
  refine ⟨x.toInt.toNat, by omega, ?_⟩
  apply Int32.toInt_inj.mp
  rw [nI_toInt (by omega)]
  omega
theorem ln_inr_nI {p n : Nat} (hp : p < 2 ^ 31) : ln_inr (nI p) n = decide (p < n) := by
  unfold ln_inr
  rw [nI_toInt hp]
  apply decide_eq_decide.mpr
  omega
theorem ln_inr_lt {x : Int32} {n : Nat} (h : x < 0) : ln_inr x n = false := by
  apply decide_eq_false
  have h1 := Int32.lt_iff_toInt_lt.mp h
  have h2 : (0 : Int32).toInt = 0 := rfl
  omega
theorem ln_inr_ge {x : Int32} {n : Nat} (hn : n < 2 ^ 31) (h : nI n ≤ x) : ln_inr x n = false := by
  apply decide_eq_false
  have h1 := Int32.le_iff_toInt_le.mp h
  rw [nI_toInt hn] at h1
  omega
theorem ln_inr_in {x : Int32} {n : Nat} (hn : n < 2 ^ 31) (h : ¬ x < 0) (h2 : ¬ nI n ≤ x) : ln_inr x n = true := by
  apply decide_eq_true
  have h1 : ¬ x.toInt < (0 : Int32).toInt := fun q => h (Int32.lt_iff_toInt_lt.mpr q)
  have h3 : (0 : Int32).toInt = 0 := rfl
  have h4 : ¬ (nI n).toInt ≤ x.toInt := fun q => h2 (Int32.le_iff_toInt_le.mpr q)
  rw [nI_toInt hn] at h4
  omega
theorem ln_inr_gt {x : Int32} {n : Nat} (hn : n + 1 < 2 ^ 31) (h : nI n < x) : ln_inr x (n + 1) = false := by
  apply decide_eq_false
  have h1 := Int32.lt_iff_toInt_lt.mp h
  rw [nI_toInt (by omega)] at h1
  omega
theorem ln_inr_in2 {x : Int32} {n : Nat} (hn : n + 1 < 2 ^ 31) (h : ¬ x < 0) (h2 : ¬ nI n < x) : ln_inr x (n + 1) = true := by
  apply decide_eq_true
  have h1 : ¬ x.toInt < (0 : Int32).toInt := fun q => h (Int32.lt_iff_toInt_lt.mpr q)
  have h3 : (0 : Int32).toInt = 0 := rfl
  have h4 : ¬ (nI n).toInt < x.toInt := fun q => h2 (Int32.lt_iff_toInt_lt.mpr q)
  rw [nI_toInt (by omega)] at h4
  omega
theorem ln_pos2 (n : Nat) : 0 < 2 ^ n := Nat.pow_pos (by decide)
theorem ln_sub1 (n : Nat) : 2 ^ n - 1 + 1 = 2 ^ n := Nat.sub_add_cancel (ln_pos2 n)
/-! sums, unions, counts up to a bound -/
def ln_oru (f : Nat → Nat) : Nat → Nat
  | 0 => 0
  | k + 1 => ln_oru f k ||| f k
def ln_sum (f : Nat → Nat) : Nat → Nat
  | 0 => 0
  | k + 1 => ln_sum f k + f k
def ln_ct (f : Nat → Bool) : Nat → Nat
  | 0 => 0
  | k + 1 => ln_ct f k + (if f k then 1 else 0)
def ln_pc (S : Nat) : Nat := ln_ct S.testBit 12
def ln_bhs (N : ln_N) (S k : Nat) : Nat := ln_oru (fun p => if S.testBit p then N 3 p else 0) k
def ln_wb (N : ln_N) (S : Nat) : Nat := S ||| ln_bhs N S (N 0 0)
theorem ln_bhs_t {N : ln_N} {S k : Nat} (h : S.testBit k = true) : ln_bhs N S (k + 1) = ln_bhs N S k ||| N 3 k := by
  show ln_oru _ k ||| (if S.testBit k then N 3 k else 0) = _
  rw [if_pos h]; rfl
theorem ln_bhs_f {N : ln_N} {S k : Nat} (h : S.testBit k = false) : ln_bhs N S (k + 1) = ln_bhs N S k := by
  show ln_oru _ k ||| (if S.testBit k then N 3 k else 0) = _
  rw [if_neg (by rw [h]; decide), Nat.or_zero]; rfl
theorem ln_oru_lt {f : Nat → Nat} {n : Nat} (h : ∀ k, f k < 2 ^ n) : ∀ k, ln_oru f k < 2 ^ n
  | 0 => ln_pos2 n
  | k + 1 => Nat.or_lt_two_pow (ln_oru_lt h k) (h k)
theorem ln_bhs_lt {N : ln_N} (hW : ln_wf N) (S k : Nat) : ln_bhs N S k < 2 ^ N 0 0 := by
  apply ln_oru_lt
  intro p
  show (if S.testBit p then N 3 p else 0) < _
  split
  · exact hW.bhn p
  · exact ln_pos2 _
theorem ln_bhs12 {N : ln_N} (hW : ln_wf N) (S k : Nat) : ln_bhs N S k < 4096 := Nat.lt_of_lt_of_le (ln_bhs_lt hW S k) hW.p12
theorem ln_wb_lt {N : ln_N} (hW : ln_wf N) {S : Nat} (hS : S < 2 ^ N 0 0) : ln_wb N S < 2 ^ N 0 0 := Nat.or_lt_two_pow hS (ln_bhs_lt hW S _)
theorem ln_wb12 {N : ln_N} (hW : ln_wf N) {S : Nat} (hS : S < 4096) : ln_wb N S < 4096 := ln_or12 hS (ln_bhs12 hW S _)
/-- the weights onto p of those that are on, up to k -/
def ln_wt (N : ln_N) (S p k : Nat) : Nat := ln_sum (fun q => if S.testBit q then N (5 + q) p else 0) k
theorem ln_wt_t {N : ln_N} {S p k : Nat} (h : S.testBit k = true) : ln_wt N S p (k + 1) = ln_wt N S p k + N (5 + k) p := by
  show ln_sum _ k + (if S.testBit k then N (5 + k) p else 0) = _
  rw [if_pos h]; rfl
theorem ln_wt_f {N : ln_N} {S p k : Nat} (h : S.testBit k = false) : ln_wt N S p (k + 1) = ln_wt N S p k := by
  show ln_sum _ k + (if S.testBit k then N (5 + k) p else 0) = _
  rw [if_neg (by rw [h]; decide), Nat.add_zero]; rfl
theorem ln_sum_le {f : Nat → Nat} {b : Nat} (h : ∀ k, f k ≤ b) : ∀ k, ln_sum f k ≤ b * k
  | 0 => Nat.zero_le _
  | k + 1 => by
    have h1 := ln_sum_le h k
    have h2 := h k
    show ln_sum f k + f k ≤ b * (k + 1)
    rw [Nat.mul_succ]
    omega
theorem ln_wt_le {N : ln_N} (hW : ln_wf N) (S p k : Nat) : ln_wt N S p k ≤ 9 * k := by
  apply ln_sum_le
  intro q
  show (if S.testBit q then N (5 + q) p else 0) ≤ 9
  have := ((hW.2 q).2.2 p).1
  split <;> omega
def ln_pri (N : ln_N) (S k : Nat) : Nat := ln_sum (fun q => if S.testBit q then N 2 q else 0) k
theorem ln_pri_t {N : ln_N} {S k : Nat} (h : S.testBit k = true) : ln_pri N S (k + 1) = ln_pri N S k + N 2 k := by
  show ln_sum _ k + (if S.testBit k then N 2 k else 0) = _
  rw [if_pos h]; rfl
theorem ln_pri_f {N : ln_N} {S k : Nat} (h : S.testBit k = false) : ln_pri N S (k + 1) = ln_pri N S k := by
  show ln_sum _ k + (if S.testBit k then N 2 k else 0) = _
  rw [if_neg (by rw [h]; decide), Nat.add_zero]; rfl
theorem ln_pri_le {N : ln_N} (hW : ln_wf N) (S k : Nat) : ln_pri N S k ≤ 1000 * k := by
  apply ln_sum_le
  intro q
  show (if S.testBit q then N 2 q else 0) ≤ 1000
  have := (hW.2 q).2.1
  split <;> omega
def ln_bc (x : Int32) : Int32 :=
  let a := x - ((x.toUInt32 >>> ((nI 1).toUInt32 &&& Int32.toUInt32 31)).toInt32 &&& 1431655765)
  let b := (a &&& 858993459) + ((a.toUInt32 >>> ((nI 2).toUInt32 &&& Int32.toUInt32 31)).toInt32 &&& 858993459)
  let c := (b + (b.toUInt32 >>> ((nI 4).toUInt32 &&& Int32.toUInt32 31)).toInt32) &&& 252645135
  let d := c + (c.toUInt32 >>> ((nI 8).toUInt32 &&& Int32.toUInt32 31)).toInt32
  let e := d + (d.toUInt32 >>> ((nI 16).toUInt32 &&& Int32.toUInt32 31)).toInt32
  e &&& nI 63
set_option maxRecDepth 100000 in
theorem ln_bc_all : (List.range 4096).all (fun S => decide (ln_bc (nI S) = nI (ln_pc S))) = true := by decide +kernel
theorem ln_bc_ok {S : Nat} (h : S < 4096) : ln_bc (nI S) = nI (ln_pc S) := of_decide_eq_true (List.all_eq_true.mp ln_bc_all S (List.mem_range.mpr h))
theorem ln_ct_le (f : Nat → Bool) : ∀ k, ln_ct f k ≤ k
  | 0 => Nat.le_refl 0
  | k + 1 => by
    have h := ln_ct_le f k
    show ln_ct f k + (if f k then 1 else 0) ≤ k + 1
    split <;> omega
theorem ln_pc_le (S : Nat) : ln_pc S ≤ 12 := ln_ct_le _ 12
/-- a raw 'in' is the same -/
theorem ln_in_inr {x : Int32} {n : Nat} (hn : n < 2 ^ 30) : decide (0 ≤ x ∧ x ≤ nI n - nI 1) = ln_inr x n := by
  have e : (nI n - nI 1).toInt = (n : Int) - 1 := pk_sub_toInt (by omega) (by decide)
  unfold ln_inr
  apply decide_eq_decide.mpr
  rw [Int32.le_iff_toInt_le, Int32.le_iff_toInt_le, e]
  have h3 : (0 : Int32).toInt = 0 := rfl
  omega
theorem ln_in_inr2 {x : Int32} {n : Nat} (hn : n + 1 < 2 ^ 31) : decide (0 ≤ x ∧ x ≤ nI n) = ln_inr x (n + 1) := by
  unfold ln_inr
  apply decide_eq_decide.mpr
  rw [Int32.le_iff_toInt_le, Int32.le_iff_toInt_le, nI_toInt (by omega)]
  have h3 : (0 : Int32).toInt = 0 := rfl
  omega
end
section
theorem Y_X0_fewestTicks : ln_Y yX0_fewestTicks cX0_fewestTicks 1 0 (some .int) RX0 := ⟨mV_X0_fewestTicks, mE_X0_fewestTicks, mI_X0, mC_X0_fewestTicks, ⟨by decide +kernel, by decide +kernel, by decide +kernel⟩, by decide⟩
theorem Y_X0_bestHand : ln_Y yX0_bestHand cX0_bestHand 7 1 (some .int) RX0 := ⟨mV_X0_bestHand, mE_X0_bestHand, mI_X0, mC_X0_bestHand, ⟨by decide +kernel, by decide +kernel, by decide +kernel⟩, by decide⟩
theorem Y_X0_bestPost : ln_Y yX0_bestPost cX0_bestPost 5 1 (some .int) RX0 := ⟨mV_X0_bestPost, mE_X0_bestPost, mI_X0, mC_X0_bestPost, ⟨by decide +kernel, by decide +kernel, by decide +kernel⟩, by decide⟩
theorem Y_X0_renewTicks : ln_Y yX0_renewTicks cX0_renewTicks 4 0 none RX0 := ⟨mV_X0_renewTicks, mE_X0_renewTicks, mI_X0, mC_X0_renewTicks, ⟨by decide +kernel, by decide +kernel, by decide +kernel⟩, by decide⟩
theorem Y_X0_ticksByHands : ln_Y yX0_ticksByHands cX0_ticksByHands 10 1 (some .int) RX0 := ⟨mV_X0_ticksByHands, mE_X0_ticksByHands, mI_X0, mC_X0_ticksByHands, ⟨by decide +kernel, by decide +kernel, by decide +kernel⟩, by decide⟩
theorem Y_X1_follow : ln_Y yX1_follow cX1_follow 6 2 none RX1 := ⟨mV_X1_follow, mE_X1_follow, mI_X1, mC_X1_follow, ⟨by decide +kernel, by decide +kernel, by decide +kernel⟩, by decide⟩
theorem Y_X1_onAtEnd : ln_Y yX1_onAtEnd cX1_onAtEnd 1 0 (some .int) RX1 := ⟨mV_X1_onAtEnd, mE_X1_onAtEnd, mI_X1, mC_X1_onAtEnd, ⟨by decide +kernel, by decide +kernel, by decide +kernel⟩, by decide⟩
theorem Y_X1_tickOf : ln_Y yX1_tickOf cX1_tickOf 3 1 (some .int) RX1 := ⟨mV_X1_tickOf, mE_X1_tickOf, mI_X1, mC_X1_tickOf, ⟨by decide +kernel, by decide +kernel, by decide +kernel⟩, by decide⟩
theorem Y_X1_bringersOf : ln_Y yX1_bringersOf cX1_bringersOf 6 2 (some .int) RX1 := ⟨mV_X1_bringersOf, mE_X1_bringersOf, mI_X1, mC_X1_bringersOf, ⟨by decide +kernel, by decide +kernel, by decide +kernel⟩, by decide⟩
theorem Y_X1_leastForcing : ln_Y yX1_leastForcing cX1_leastForcing 4 2 (some .int) RX1 := ⟨mV_X1_leastForcing, mE_X1_leastForcing, mI_X1, mC_X1_leastForcing, ⟨by decide +kernel, by decide +kernel, by decide +kernel⟩, by decide⟩
theorem Y_X2_saved : ln_Y yX2_saved cX2_saved 2 1 (some .int) RX2 := ⟨mV_X2_saved, mE_X2_saved, mI_X2, mC_X2_saved, ⟨by decide +kernel, by decide +kernel, by decide +kernel⟩, by decide⟩
theorem Y_X2_mostSaved : ln_Y yX2_mostSaved cX2_mostSaved 7 3 (some .int) RX2 := ⟨mV_X2_mostSaved, mE_X2_mostSaved, mI_X2, mC_X2_mostSaved, ⟨by decide +kernel, by decide +kernel, by decide +kernel⟩, by decide⟩
theorem Y_X2_savedBehind : ln_Y yX2_savedBehind cX2_savedBehind 5 3 (some .int) RX2 := ⟨mV_X2_savedBehind, mE_X2_savedBehind, mI_X2, mC_X2_savedBehind, ⟨by decide +kernel, by decide +kernel, by decide +kernel⟩, by decide⟩
theorem Y_X2_afterTick : ln_Y yX2_afterTick cX2_afterTick 3 2 (some .int) RX2 := ⟨mV_X2_afterTick, mE_X2_afterTick, mI_X2, mC_X2_afterTick, ⟨by decide +kernel, by decide +kernel, by decide +kernel⟩, by decide⟩
theorem Y_X2_bestWall : ln_Y yX2_bestWall cX2_bestWall 8 2 (some .int) RX2 := ⟨mV_X2_bestWall, mE_X2_bestWall, mI_X2, mC_X2_bestWall, ⟨by decide +kernel, by decide +kernel, by decide +kernel⟩, by decide⟩
theorem Y_X2_bestPost : ln_Y yX2_bestPost cX2_bestPost 7 2 (some .int) RX2 := ⟨mV_X2_bestPost, mE_X2_bestPost, mI_X2, mC_X2_bestPost, ⟨by decide +kernel, by decide +kernel, by decide +kernel⟩, by decide⟩
theorem Y_X3_winsOf : ln_Y yX3_winsOf cX3_winsOf 5 1 (some (.array .byte)) RX3 := ⟨mV_X3_winsOf, mE_X3_winsOf, mI_X3, mC_X3_winsOf, ⟨by decide +kernel, by decide +kernel, by decide +kernel⟩, by decide⟩
theorem Y_X3_winningPost : ln_Y yX3_winningPost cX3_winningPost 5 3 (some .int) RX3 := ⟨mV_X3_winningPost, mE_X3_winningPost, mI_X3, mC_X3_winningPost, ⟨by decide +kernel, by decide +kernel, by decide +kernel⟩, by decide⟩
theorem Y_X4_isPost : ln_Y yX4_isPost cX4_isPost 2 1 (some .boolean) RX4 := ⟨mV_X4_isPost, mE_X4_isPost, mI_X4, mC_X4_isPost, ⟨by decide +kernel, by decide +kernel, by decide +kernel⟩, by decide⟩
theorem Y_X4_isSet : ln_Y yX4_isSet cX4_isSet 2 1 (some .boolean) RX4 := ⟨mV_X4_isSet, mE_X4_isSet, mI_X4, mC_X4_isSet, ⟨by decide +kernel, by decide +kernel, by decide +kernel⟩, by decide⟩
theorem Y_X4_allPosts : ln_Y yX4_allPosts cX4_allPosts 1 0 (some .int) RX4 := ⟨mV_X4_allPosts, mE_X4_allPosts, mI_X4, mC_X4_allPosts, ⟨by decide +kernel, by decide +kernel, by decide +kernel⟩, by decide⟩
theorem Y_X4_versionOf : ln_Y yX4_versionOf cX4_versionOf 2 1 (some .int) RX4 := ⟨mV_X4_versionOf, mE_X4_versionOf, mI_X4, mC_X4_versionOf, ⟨by decide +kernel, by decide +kernel, by decide +kernel⟩, by decide⟩
theorem Y_X4_addPost : ln_Y yX4_addPost cX4_addPost 2 0 (some .int) RX4 := ⟨mV_X4_addPost, mE_X4_addPost, mI_X4, mC_X4_addPost, ⟨by decide +kernel, by decide +kernel, by decide +kernel⟩, by decide⟩
theorem Y_X4_setWeight : ln_Y yX4_setWeight cX4_setWeight 5 3 (some .int) RX4 := ⟨mV_X4_setWeight, mE_X4_setWeight, mI_X4, mC_X4_setWeight, ⟨by decide +kernel, by decide +kernel, by decide +kernel⟩, by decide⟩
theorem Y_X4_setBar : ln_Y yX4_setBar cX4_setBar 4 2 (some .int) RX4 := ⟨mV_X4_setBar, mE_X4_setBar, mI_X4, mC_X4_setBar, ⟨by decide +kernel, by decide +kernel, by decide +kernel⟩, by decide⟩
theorem Y_X4_setPrice : ln_Y yX4_setPrice cX4_setPrice 4 2 (some .int) RX4 := ⟨mV_X4_setPrice, mE_X4_setPrice, mI_X4, mC_X4_setPrice, ⟨by decide +kernel, by decide +kernel, by decide +kernel⟩, by decide⟩
theorem Y_X4_priceOf : ln_Y yX4_priceOf cX4_priceOf 4 1 (some .int) RX4 := ⟨mV_X4_priceOf, mE_X4_priceOf, mI_X4, mC_X4_priceOf, ⟨by decide +kernel, by decide +kernel, by decide +kernel⟩, by decide⟩
theorem Y_X4_weightOnto : ln_Y yX4_weightOnto cX4_weightOnto 6 2 (some .int) RX4 := ⟨mV_X4_weightOnto, mE_X4_weightOnto, mI_X4, mC_X4_weightOnto, ⟨by decide +kernel, by decide +kernel, by decide +kernel⟩, by decide⟩
theorem Y_X4_withBehind : ln_Y yX4_withBehind cX4_withBehind 4 1 (some .int) RX4 := ⟨mV_X4_withBehind, mE_X4_withBehind, mI_X4, mC_X4_withBehind, ⟨by decide +kernel, by decide +kernel, by decide +kernel⟩, by decide⟩
theorem Y_X5_smallest : ln_Y yX5_smallest cX5_smallest 5 1 (some .int) RX5 := ⟨mV_X5_smallest, mE_X5_smallest, mI_X5, mC_X5_smallest, ⟨by decide +kernel, by decide +kernel, by decide +kernel⟩, by decide⟩
theorem Y_X5_howManySmallest : ln_Y yX5_howManySmallest cX5_howManySmallest 6 1 (some .int) RX5 := ⟨mV_X5_howManySmallest, mE_X5_howManySmallest, mI_X5, mC_X5_howManySmallest, ⟨by decide +kernel, by decide +kernel, by decide +kernel⟩, by decide⟩
theorem Y_X5_leastPriced : ln_Y yX5_leastPriced cX5_leastPriced 6 1 (some .int) RX5 := ⟨mV_X5_leastPriced, mE_X5_leastPriced, mI_X5, mC_X5_leastPriced, ⟨by decide +kernel, by decide +kernel, by decide +kernel⟩, by decide⟩
theorem Y_X5_paredDown : ln_Y yX5_paredDown cX5_paredDown 6 1 (some .int) RX5 := ⟨mV_X5_paredDown, mE_X5_paredDown, mI_X5, mC_X5_paredDown, ⟨by decide +kernel, by decide +kernel, by decide +kernel⟩, by decide⟩
theorem Y_X6_afterTick : ln_Y yX6_afterTick cX6_afterTick 3 2 (some .int) RX6 := ⟨mV_X6_afterTick, mE_X6_afterTick, mI_X6, mC_X6_afterTick, ⟨by decide +kernel, by decide +kernel, by decide +kernel⟩, by decide⟩
theorem Y_X6_afterTickOfBars : ln_Y yX6_afterTickOfBars cX6_afterTickOfBars 4 1 (some .int) RX6 := ⟨mV_X6_afterTickOfBars, mE_X6_afterTickOfBars, mI_X6, mC_X6_afterTickOfBars, ⟨by decide +kernel, by decide +kernel, by decide +kernel⟩, by decide⟩
theorem Y_X6_afterTickOfForced : ln_Y yX6_afterTickOfForced cX6_afterTickOfForced 6 1 (some .int) RX6 := ⟨mV_X6_afterTickOfForced, mE_X6_afterTickOfForced, mI_X6, mC_X6_afterTickOfForced, ⟨by decide +kernel, by decide +kernel, by decide +kernel⟩, by decide⟩
theorem Y_X6_endsOf : ln_Y yX6_endsOf cX6_endsOf 2 1 (some (.array .int)) RX6 := ⟨mV_X6_endsOf, mE_X6_endsOf, mI_X6, mC_X6_endsOf, ⟨by decide +kernel, by decide +kernel, by decide +kernel⟩, by decide⟩
theorem Y_X6_fillPlain : ln_Y yX6_fillPlain cX6_fillPlain 5 1 none RX6 := ⟨mV_X6_fillPlain, mE_X6_fillPlain, mI_X6, mC_X6_fillPlain, ⟨by decide +kernel, by decide +kernel, by decide +kernel⟩, by decide⟩
theorem Y_X6_fillSeen : ln_Y yX6_fillSeen cX6_fillSeen 3 0 none RX6 := ⟨mV_X6_fillSeen, mE_X6_fillSeen, mI_X6, mC_X6_fillSeen, ⟨by decide +kernel, by decide +kernel, by decide +kernel⟩, by decide⟩
theorem Y_X7_isFort : ln_Y yX7_isFort cX7_isFort 3 2 (some .boolean) RX7 := ⟨mV_X7_isFort, mE_X7_isFort, mI_X7, mC_X7_isFort, ⟨by decide +kernel, by decide +kernel, by decide +kernel⟩, by decide⟩
theorem Y_X7_fortsWithin : ln_Y yX7_fortsWithin cX7_fortsWithin 4 2 (some .int) RX7 := ⟨mV_X7_fortsWithin, mE_X7_fortsWithin, mI_X7, mC_X7_fortsWithin, ⟨by decide +kernel, by decide +kernel, by decide +kernel⟩, by decide⟩
theorem Y_X7_leastFort : ln_Y yX7_leastFort cX7_leastFort 8 2 (some .int) RX7 := ⟨mV_X7_leastFort, mE_X7_leastFort, mI_X7, mC_X7_leastFort, ⟨by decide +kernel, by decide +kernel, by decide +kernel⟩, by decide⟩
theorem Y_X7_isLeast : ln_Y yX7_isLeast cX7_isLeast 4 2 (some .boolean) RX7 := ⟨mV_X7_isLeast, mE_X7_isLeast, mI_X7, mC_X7_isLeast, ⟨by decide +kernel, by decide +kernel, by decide +kernel⟩, by decide⟩
theorem Y_X7_mostApart : ln_Y yX7_mostApart cX7_mostApart 5 1 (some .int) RX7 := ⟨mV_X7_mostApart, mE_X7_mostApart, mI_X7, mC_X7_mostApart, ⟨by decide +kernel, by decide +kernel, by decide +kernel⟩, by decide⟩
theorem Y_X7_mostWithin : ln_Y yX7_mostWithin cX7_mostWithin 4 2 (some .int) RX7 := ⟨mV_X7_mostWithin, mE_X7_mostWithin, mI_X7, mC_X7_mostWithin, ⟨by decide +kernel, by decide +kernel, by decide +kernel⟩, by decide⟩
theorem Y_X7_mostByLowest : ln_Y yX7_mostByLowest cX7_mostByLowest 8 2 (some .int) RX7 := ⟨mV_X7_mostByLowest, mE_X7_mostByLowest, mI_X7, mC_X7_mostByLowest, ⟨by decide +kernel, by decide +kernel, by decide +kernel⟩, by decide⟩
theorem Y_X8_freshHolding : ln_Y yX8_freshHolding cX8_freshHolding 1 0 (some (.array .boolean)) RX8 := ⟨mV_X8_freshHolding, mE_X8_freshHolding, mI_X8, mC_X8_freshHolding, ⟨by decide +kernel, by decide +kernel, by decide +kernel⟩, by decide⟩
theorem Y_X8_fillHolding : ln_Y yX8_fillHolding cX8_fillHolding 4 0 none RX8 := ⟨mV_X8_fillHolding, mE_X8_fillHolding, mI_X8, mC_X8_fillHolding, ⟨by decide +kernel, by decide +kernel, by decide +kernel⟩, by decide⟩
theorem Y_X8_fewestHolding : ln_Y yX8_fewestHolding cX8_fewestHolding 5 0 (some .int) RX8 := ⟨mV_X8_fewestHolding, mE_X8_fewestHolding, mI_X8, mC_X8_fewestHolding, ⟨by decide +kernel, by decide +kernel, by decide +kernel⟩, by decide⟩
theorem Y_X8_answerFrom : ln_Y yX8_answerFrom cX8_answerFrom 4 2 (some .int) RX8 := ⟨mV_X8_answerFrom, mE_X8_answerFrom, mI_X8, mC_X8_answerFrom, ⟨by decide +kernel, by decide +kernel, by decide +kernel⟩, by decide⟩
theorem Y_X8_leastAnswer : ln_Y yX8_leastAnswer cX8_leastAnswer 5 2 (some .int) RX8 := ⟨mV_X8_leastAnswer, mE_X8_leastAnswer, mI_X8, mC_X8_leastAnswer, ⟨by decide +kernel, by decide +kernel, by decide +kernel⟩, by decide⟩
theorem Y_X8_takeFailingAway : ln_Y yX8_takeFailingAway cX8_takeFailingAway 4 1 (some .boolean) RX8 := ⟨mV_X8_takeFailingAway, mE_X8_takeFailingAway, mI_X8, mC_X8_takeFailingAway, ⟨by decide +kernel, by decide +kernel, by decide +kernel⟩, by decide⟩
theorem Y_X8_answersAll : ln_Y yX8_answersAll cX8_answersAll 3 1 (some .boolean) RX8 := ⟨mV_X8_answersAll, mE_X8_answersAll, mI_X8, mC_X8_answersAll, ⟨by decide +kernel, by decide +kernel, by decide +kernel⟩, by decide⟩
theorem Y_X9_post : ln_Y yX9_post cX9_post 1 0 (some .int) RX9 := ⟨mV_X9_post, mE_X9_post, mI_X9, mC_X9_post, ⟨by decide +kernel, by decide +kernel, by decide +kernel⟩, by decide⟩
theorem Y_X9_road : ln_Y yX9_road cX9_road 4 3 (some .int) RX9 := ⟨mV_X9_road, mE_X9_road, mI_X9, mC_X9_road, ⟨by decide +kernel, by decide +kernel, by decide +kernel⟩, by decide⟩
theorem Y_X9_bar : ln_Y yX9_bar cX9_bar 3 2 (some .int) RX9 := ⟨mV_X9_bar, mE_X9_bar, mI_X9, mC_X9_bar, ⟨by decide +kernel, by decide +kernel, by decide +kernel⟩, by decide⟩
theorem Y_X9_price : ln_Y yX9_price cX9_price 3 2 (some .int) RX9 := ⟨mV_X9_price, mE_X9_price, mI_X9, mC_X9_price, ⟨by decide +kernel, by decide +kernel, by decide +kernel⟩, by decide⟩
theorem Y_X9_of : ln_Y yX9_of cX9_of 3 2 (some .int) RX9 := ⟨mV_X9_of, mE_X9_of, mI_X9, mC_X9_of, ⟨by decide +kernel, by decide +kernel, by decide +kernel⟩, by decide⟩
theorem Y_X9_go : ln_Y yX9_go cX9_go 3 2 (some .int) RX9 := ⟨mV_X9_go, mE_X9_go, mI_X9, mC_X9_go, ⟨by decide +kernel, by decide +kernel, by decide +kernel⟩, by decide⟩
theorem Y_X9_ticks : ln_Y yX9_ticks cX9_ticks 3 2 (some .int) RX9 := ⟨mV_X9_ticks, mE_X9_ticks, mI_X9, mC_X9_ticks, ⟨by decide +kernel, by decide +kernel, by decide +kernel⟩, by decide⟩
theorem Y_X9_when : ln_Y yX9_when cX9_when 4 3 (some .int) RX9 := ⟨mV_X9_when, mE_X9_when, mI_X9, mC_X9_when, ⟨by decide +kernel, by decide +kernel, by decide +kernel⟩, by decide⟩
theorem Y_X9_brought : ln_Y yX9_brought cX9_brought 4 3 (some .int) RX9 := ⟨mV_X9_brought, mE_X9_brought, mI_X9, mC_X9_brought, ⟨by decide +kernel, by decide +kernel, by decide +kernel⟩, by decide⟩
theorem Y_X9_fort : ln_Y yX9_fort cX9_fort 3 2 (some .int) RX9 := ⟨mV_X9_fort, mE_X9_fort, mI_X9, mC_X9_fort, ⟨by decide +kernel, by decide +kernel, by decide +kernel⟩, by decide⟩
theorem Y_X9_forts : ln_Y yX9_forts cX9_forts 3 2 (some .int) RX9 := ⟨mV_X9_forts, mE_X9_forts, mI_X9, mC_X9_forts, ⟨by decide +kernel, by decide +kernel, by decide +kernel⟩, by decide⟩
theorem Y_X9_apart : ln_Y yX9_apart cX9_apart 2 1 (some .int) RX9 := ⟨mV_X9_apart, mE_X9_apart, mI_X9, mC_X9_apart, ⟨by decide +kernel, by decide +kernel, by decide +kernel⟩, by decide⟩
theorem Y_X9_least : ln_Y yX9_least cX9_least 2 1 (some .int) RX9 := ⟨mV_X9_least, mE_X9_least, mI_X9, mC_X9_least, ⟨by decide +kernel, by decide +kernel, by decide +kernel⟩, by decide⟩
theorem Y_X9_many : ln_Y yX9_many cX9_many 2 1 (some .int) RX9 := ⟨mV_X9_many, mE_X9_many, mI_X9, mC_X9_many, ⟨by decide +kernel, by decide +kernel, by decide +kernel⟩, by decide⟩
theorem Y_X9_cheapest : ln_Y yX9_cheapest cX9_cheapest 2 1 (some .int) RX9 := ⟨mV_X9_cheapest, mE_X9_cheapest, mI_X9, mC_X9_cheapest, ⟨by decide +kernel, by decide +kernel, by decide +kernel⟩, by decide⟩
theorem Y_X9_pared : ln_Y yX9_pared cX9_pared 2 1 (some .int) RX9 := ⟨mV_X9_pared, mE_X9_pared, mI_X9, mC_X9_pared, ⟨by decide +kernel, by decide +kernel, by decide +kernel⟩, by decide⟩
theorem Y_X9_burn : ln_Y yX9_burn cX9_burn 1 0 (some .int) RX9 := ⟨mV_X9_burn, mE_X9_burn, mI_X9, mC_X9_burn, ⟨by decide +kernel, by decide +kernel, by decide +kernel⟩, by decide⟩
theorem Y_X9_hand : ln_Y yX9_hand cX9_hand 2 1 (some .int) RX9 := ⟨mV_X9_hand, mE_X9_hand, mI_X9, mC_X9_hand, ⟨by decide +kernel, by decide +kernel, by decide +kernel⟩, by decide⟩
theorem Y_X9_burnt : ln_Y yX9_burnt cX9_burnt 3 1 (some .int) RX9 := ⟨mV_X9_burnt, mE_X9_burnt, mI_X9, mC_X9_burnt, ⟨by decide +kernel, by decide +kernel, by decide +kernel⟩, by decide⟩
theorem Y_X9_save : ln_Y yX9_save cX9_save 2 1 (some .int) RX9 := ⟨mV_X9_save, mE_X9_save, mI_X9, mC_X9_save, ⟨by decide +kernel, by decide +kernel, by decide +kernel⟩, by decide⟩
theorem Y_X9_wall : ln_Y yX9_wall cX9_wall 3 2 (some .int) RX9 := ⟨mV_X9_wall, mE_X9_wall, mI_X9, mC_X9_wall, ⟨by decide +kernel, by decide +kernel, by decide +kernel⟩, by decide⟩
theorem Y_X9_holds : ln_Y yX9_holds cX9_holds 2 1 (some .int) RX9 := ⟨mV_X9_holds, mE_X9_holds, mI_X9, mC_X9_holds, ⟨by decide +kernel, by decide +kernel, by decide +kernel⟩, by decide⟩
theorem Y_X9_guards : ln_Y yX9_guards cX9_guards 1 0 (some .int) RX9 := ⟨mV_X9_guards, mE_X9_guards, mI_X9, mC_X9_guards, ⟨by decide +kernel, by decide +kernel, by decide +kernel⟩, by decide⟩
theorem Y_X9_answer : ln_Y yX9_answer cX9_answer 3 2 (some .int) RX9 := ⟨mV_X9_answer, mE_X9_answer, mI_X9, mC_X9_answer, ⟨by decide +kernel, by decide +kernel, by decide +kernel⟩, by decide⟩
theorem Y_X9_win : ln_Y yX9_win cX9_win 3 2 (some .int) RX9 := ⟨mV_X9_win, mE_X9_win, mI_X9, mC_X9_win, ⟨by decide +kernel, by decide +kernel, by decide +kernel⟩, by decide⟩
theorem Y_X9_first : ln_Y yX9_first cX9_first 3 2 (some .int) RX9 := ⟨mV_X9_first, mE_X9_first, mI_X9, mC_X9_first, ⟨by decide +kernel, by decide +kernel, by decide +kernel⟩, by decide⟩
theorem Y_X9_count : ln_Y yX9_count cX9_count 1 0 (some .int) RX9 := ⟨mV_X9_count, mE_X9_count, mI_X9, mC_X9_count, ⟨by decide +kernel, by decide +kernel, by decide +kernel⟩, by decide⟩
theorem Y_X9_isRule : ln_Z yX9_isRule cX9_isRule 1 1 (some .boolean) := ⟨mS_X9_isRule, mI_X9, mC_X9_isRule, ⟨by decide +kernel, by decide +kernel, by decide +kernel⟩, by decide⟩
theorem Y_X9_isPlainRule : ln_Z yX9_isPlainRule cX9_isPlainRule 1 1 (some .boolean) := ⟨mS_X9_isPlainRule, mI_X9, mC_X9_isPlainRule, ⟨by decide +kernel, by decide +kernel, by decide +kernel⟩, by decide⟩
theorem Y_X9_hasPost : ln_Z yX9_hasPost cX9_hasPost 2 2 (some .boolean) := ⟨mS_X9_hasPost, mI_X9, mC_X9_hasPost, ⟨by decide +kernel, by decide +kernel, by decide +kernel⟩, by decide⟩
theorem Y_X10_in : ln_Z yX10_in cX10_in 3 3 (some .boolean) := ⟨mS_X10_in, mI_X10, mC_X10_in, ⟨by decide +kernel, by decide +kernel, by decide +kernel⟩, by decide⟩
theorem Y_X10_isPost : ln_Y yX10_isPost cX10_isPost 2 1 (some .boolean) RX10 := ⟨mV_X10_isPost, mE_X10_isPost, mI_X10, mC_X10_isPost, ⟨by decide +kernel, by decide +kernel, by decide +kernel⟩, by decide⟩
theorem Y_X10_isSet : ln_Y yX10_isSet cX10_isSet 2 1 (some .boolean) RX10 := ⟨mV_X10_isSet, mE_X10_isSet, mI_X10, mC_X10_isSet, ⟨by decide +kernel, by decide +kernel, by decide +kernel⟩, by decide⟩
theorem Y_X10_all : ln_Y yX10_all cX10_all 1 0 (some .int) RX10 := ⟨mV_X10_all, mE_X10_all, mI_X10, mC_X10_all, ⟨by decide +kernel, by decide +kernel, by decide +kernel⟩, by decide⟩
theorem Y_X10_has : ln_Z yX10_has cX10_has 2 2 (some .boolean) := ⟨mS_X10_has, mI_X10, mC_X10_has, ⟨by decide +kernel, by decide +kernel, by decide +kernel⟩, by decide⟩
theorem Y_X10_ones : ln_Z yX10_ones cX10_ones 3 1 (some .int) := ⟨mS_X10_ones, mI_X10, mC_X10_ones, ⟨by decide +kernel, by decide +kernel, by decide +kernel⟩, by decide⟩
theorem Y_X10_post : ln_Y yX10_post cX10_post 1 0 (some .int) RX10 := ⟨mV_X10_post, mE_X10_post, mI_X10, mC_X10_post, ⟨by decide +kernel, by decide +kernel, by decide +kernel⟩, by decide⟩
theorem Y_X10_road : ln_Y yX10_road cX10_road 5 3 (some .int) RX10 := ⟨mV_X10_road, mE_X10_road, mI_X10, mC_X10_road, ⟨by decide +kernel, by decide +kernel, by decide +kernel⟩, by decide⟩
theorem Y_X10_bar : ln_Y yX10_bar cX10_bar 4 2 (some .int) RX10 := ⟨mV_X10_bar, mE_X10_bar, mI_X10, mC_X10_bar, ⟨by decide +kernel, by decide +kernel, by decide +kernel⟩, by decide⟩
theorem Y_X10_price : ln_Y yX10_price cX10_price 4 2 (some .int) RX10 := ⟨mV_X10_price, mE_X10_price, mI_X10, mC_X10_price, ⟨by decide +kernel, by decide +kernel, by decide +kernel⟩, by decide⟩
theorem Y_X10_isKnown : ln_Y yX10_isKnown cX10_isKnown 3 1 (some .boolean) RX10 := ⟨mV_X10_isKnown, mE_X10_isKnown, mI_X10, mC_X10_isKnown, ⟨by decide +kernel, by decide +kernel, by decide +kernel⟩, by decide⟩
theorem Y_X10_behind : ln_Y yX10_behind cX10_behind 2 1 (some .int) RX10 := ⟨mV_X10_behind, mE_X10_behind, mI_X10, mC_X10_behind, ⟨by decide +kernel, by decide +kernel, by decide +kernel⟩, by decide⟩
theorem Y_X10_ahead : ln_Y yX10_ahead cX10_ahead 4 1 (some .int) RX10 := ⟨mV_X10_ahead, mE_X10_ahead, mI_X10, mC_X10_ahead, ⟨by decide +kernel, by decide +kernel, by decide +kernel⟩, by decide⟩
theorem Y_X10_of : ln_Y yX10_of cX10_of 3 2 (some .int) RX10 := ⟨mV_X10_of, mE_X10_of, mI_X10, mC_X10_of, ⟨by decide +kernel, by decide +kernel, by decide +kernel⟩, by decide⟩
theorem Y_X10_allBehind : ln_Y yX10_allBehind cX10_allBehind 4 1 (some .int) RX10 := ⟨mV_X10_allBehind, mE_X10_allBehind, mI_X10, mC_X10_allBehind, ⟨by decide +kernel, by decide +kernel, by decide +kernel⟩, by decide⟩
theorem Y_X10_tick : ln_Y yX10_tick cX10_tick 8 3 (some .int) RX10 := ⟨mV_X10_tick, mE_X10_tick, mI_X10, mC_X10_tick, ⟨by decide +kernel, by decide +kernel, by decide +kernel⟩, by decide⟩
theorem Y_X10_runs : ln_Y yX10_runs cX10_runs 6 2 (some .int) RX10 := ⟨mV_X10_runs, mE_X10_runs, mI_X10, mC_X10_runs, ⟨by decide +kernel, by decide +kernel, by decide +kernel⟩, by decide⟩
theorem Y_X10_endOf : ln_Y yX10_endOf cX10_endOf 4 2 (some .int) RX10 := ⟨mV_X10_endOf, mE_X10_endOf, mI_X10, mC_X10_endOf, ⟨by decide +kernel, by decide +kernel, by decide +kernel⟩, by decide⟩
theorem Y_X10_isRule : ln_Z yX10_isRule cX10_isRule 1 1 (some .boolean) := ⟨mS_X10_isRule, mI_X10, mC_X10_isRule, ⟨by decide +kernel, by decide +kernel, by decide +kernel⟩, by decide⟩
theorem Y_X10_go : ln_Y yX10_go cX10_go 3 2 (some .int) RX10 := ⟨mV_X10_go, mE_X10_go, mI_X10, mC_X10_go, ⟨by decide +kernel, by decide +kernel, by decide +kernel⟩, by decide⟩
theorem Y_X10_ticks : ln_Y yX10_ticks cX10_ticks 4 2 (some .int) RX10 := ⟨mV_X10_ticks, mE_X10_ticks, mI_X10, mC_X10_ticks, ⟨by decide +kernel, by decide +kernel, by decide +kernel⟩, by decide⟩
theorem Y_X10_comes : ln_Y yX10_comes cX10_comes 3 1 (some .int) RX10 := ⟨mV_X10_comes, mE_X10_comes, mI_X10, mC_X10_comes, ⟨by decide +kernel, by decide +kernel, by decide +kernel⟩, by decide⟩
theorem Y_X10_when : ln_Y yX10_when cX10_when 5 3 (some .int) RX10 := ⟨mV_X10_when, mE_X10_when, mI_X10, mC_X10_when, ⟨by decide +kernel, by decide +kernel, by decide +kernel⟩, by decide⟩
theorem Y_X10_brought : ln_Y yX10_brought cX10_brought 8 3 (some .int) RX10 := ⟨mV_X10_brought, mE_X10_brought, mI_X10, mC_X10_brought, ⟨by decide +kernel, by decide +kernel, by decide +kernel⟩, by decide⟩
theorem Y_X10_isFort : ln_Y yX10_isFort cX10_isFort 4 2 (some .boolean) RX10 := ⟨mV_X10_isFort, mE_X10_isFort, mI_X10, mC_X10_isFort, ⟨by decide +kernel, by decide +kernel, by decide +kernel⟩, by decide⟩
theorem Y_X10_fort : ln_Y yX10_fort cX10_fort 3 2 (some .int) RX10 := ⟨mV_X10_fort, mE_X10_fort, mI_X10, mC_X10_fort, ⟨by decide +kernel, by decide +kernel, by decide +kernel⟩, by decide⟩
theorem Y_X10_findForts : ln_Y yX10_findForts cX10_findForts 6 1 none RX10 := ⟨mV_X10_findForts, mE_X10_findForts, mI_X10, mC_X10_findForts, ⟨by decide +kernel, by decide +kernel, by decide +kernel⟩, by decide⟩
theorem Y_X10_forts : ln_Y yX10_forts cX10_forts 6 2 (some .int) RX10 := ⟨mV_X10_forts, mE_X10_forts, mI_X10, mC_X10_forts, ⟨by decide +kernel, by decide +kernel, by decide +kernel⟩, by decide⟩
theorem Y_X10_apart : ln_Y yX10_apart cX10_apart 6 1 (some .int) RX10 := ⟨mV_X10_apart, mE_X10_apart, mI_X10, mC_X10_apart, ⟨by decide +kernel, by decide +kernel, by decide +kernel⟩, by decide⟩
theorem Y_X10_setsGoing : ln_Y yX10_setsGoing cX10_setsGoing 3 2 (some .boolean) RX10 := ⟨mV_X10_setsGoing, mE_X10_setsGoing, mI_X10, mC_X10_setsGoing, ⟨by decide +kernel, by decide +kernel, by decide +kernel⟩, by decide⟩
theorem Y_X10_least : ln_Y yX10_least cX10_least 4 1 (some .int) RX10 := ⟨mV_X10_least, mE_X10_least, mI_X10, mC_X10_least, ⟨by decide +kernel, by decide +kernel, by decide +kernel⟩, by decide⟩
theorem Y_X10_many : ln_Y yX10_many cX10_many 5 1 (some .int) RX10 := ⟨mV_X10_many, mE_X10_many, mI_X10, mC_X10_many, ⟨by decide +kernel, by decide +kernel, by decide +kernel⟩, by decide⟩
theorem Y_X10_cheapest : ln_Y yX10_cheapest cX10_cheapest 7 1 (some .int) RX10 := ⟨mV_X10_cheapest, mE_X10_cheapest, mI_X10, mC_X10_cheapest, ⟨by decide +kernel, by decide +kernel, by decide +kernel⟩, by decide⟩
theorem Y_X10_pared : ln_Y yX10_pared cX10_pared 4 1 (some .int) RX10 := ⟨mV_X10_pared, mE_X10_pared, mI_X10, mC_X10_pared, ⟨by decide +kernel, by decide +kernel, by decide +kernel⟩, by decide⟩
theorem Y_X10_burns : ln_Y yX10_burns cX10_burns 4 0 none RX10 := ⟨mV_X10_burns, mE_X10_burns, mI_X10, mC_X10_burns, ⟨by decide +kernel, by decide +kernel, by decide +kernel⟩, by decide⟩
theorem Y_X10_burn : ln_Y yX10_burn cX10_burn 1 0 (some .int) RX10 := ⟨mV_X10_burn, mE_X10_burn, mI_X10, mC_X10_burn, ⟨by decide +kernel, by decide +kernel, by decide +kernel⟩, by decide⟩
theorem Y_X10_hand : ln_Y yX10_hand cX10_hand 6 1 (some .int) RX10 := ⟨mV_X10_hand, mE_X10_hand, mI_X10, mC_X10_hand, ⟨by decide +kernel, by decide +kernel, by decide +kernel⟩, by decide⟩
theorem Y_X10_burnt : ln_Y yX10_burnt cX10_burnt 9 1 (some .int) RX10 := ⟨mV_X10_burnt, mE_X10_burnt, mI_X10, mC_X10_burnt, ⟨by decide +kernel, by decide +kernel, by decide +kernel⟩, by decide⟩
theorem Y_X10_next : ln_Y yX10_next cX10_next 3 2 (some .int) RX10 := ⟨mV_X10_next, mE_X10_next, mI_X10, mC_X10_next, ⟨by decide +kernel, by decide +kernel, by decide +kernel⟩, by decide⟩
theorem Y_X10_behindWall : ln_Y yX10_behindWall cX10_behindWall 4 2 (some .int) RX10 := ⟨mV_X10_behindWall, mE_X10_behindWall, mI_X10, mC_X10_behindWall, ⟨by decide +kernel, by decide +kernel, by decide +kernel⟩, by decide⟩
theorem Y_X10_saves : ln_Y yX10_saves cX10_saves 6 0 none RX10 := ⟨mV_X10_saves, mE_X10_saves, mI_X10, mC_X10_saves, ⟨by decide +kernel, by decide +kernel, by decide +kernel⟩, by decide⟩
theorem Y_X10_save : ln_Y yX10_save cX10_save 2 1 (some .int) RX10 := ⟨mV_X10_save, mE_X10_save, mI_X10, mC_X10_save, ⟨by decide +kernel, by decide +kernel, by decide +kernel⟩, by decide⟩
theorem Y_X10_wall : ln_Y yX10_wall cX10_wall 8 2 (some .int) RX10 := ⟨mV_X10_wall, mE_X10_wall, mI_X10, mC_X10_wall, ⟨by decide +kernel, by decide +kernel, by decide +kernel⟩, by decide⟩
theorem Y_X10_answers : ln_Y yX10_answers cX10_answers 4 2 (some .int) RX10 := ⟨mV_X10_answers, mE_X10_answers, mI_X10, mC_X10_answers, ⟨by decide +kernel, by decide +kernel, by decide +kernel⟩, by decide⟩
theorem Y_X10_guard : ln_Y yX10_guard cX10_guard 4 0 none RX10 := ⟨mV_X10_guard, mE_X10_guard, mI_X10, mC_X10_guard, ⟨by decide +kernel, by decide +kernel, by decide +kernel⟩, by decide⟩
theorem Y_X10_holds : ln_Y yX10_holds cX10_holds 2 1 (some .int) RX10 := ⟨mV_X10_holds, mE_X10_holds, mI_X10, mC_X10_holds, ⟨by decide +kernel, by decide +kernel, by decide +kernel⟩, by decide⟩
theorem Y_X10_guards : ln_Y yX10_guards cX10_guards 3 0 (some .int) RX10 := ⟨mV_X10_guards, mE_X10_guards, mI_X10, mC_X10_guards, ⟨by decide +kernel, by decide +kernel, by decide +kernel⟩, by decide⟩
theorem Y_X10_answer : ln_Y yX10_answer cX10_answer 3 2 (some .int) RX10 := ⟨mV_X10_answer, mE_X10_answer, mI_X10, mC_X10_answer, ⟨by decide +kernel, by decide +kernel, by decide +kernel⟩, by decide⟩
theorem Y_X10_play : ln_Y yX10_play cX10_play 3 1 none RX10 := ⟨mV_X10_play, mE_X10_play, mI_X10, mC_X10_play, ⟨by decide +kernel, by decide +kernel, by decide +kernel⟩, by decide⟩
theorem Y_X10_winsBy : ln_Y yX10_winsBy cX10_winsBy 4 2 (some .int) RX10 := ⟨mV_X10_winsBy, mE_X10_winsBy, mI_X10, mC_X10_winsBy, ⟨by decide +kernel, by decide +kernel, by decide +kernel⟩, by decide⟩
theorem Y_X10_win : ln_Y yX10_win cX10_win 3 2 (some .int) RX10 := ⟨mV_X10_win, mE_X10_win, mI_X10, mC_X10_win, ⟨by decide +kernel, by decide +kernel, by decide +kernel⟩, by decide⟩
theorem Y_X10_first : ln_Y yX10_first cX10_first 3 2 (some .int) RX10 := ⟨mV_X10_first, mE_X10_first, mI_X10, mC_X10_first, ⟨by decide +kernel, by decide +kernel, by decide +kernel⟩, by decide⟩
theorem Y_X10_count : ln_Y yX10_count cX10_count 1 0 (some .int) RX10 := ⟨mV_X10_count, mE_X10_count, mI_X10, mC_X10_count, ⟨by decide +kernel, by decide +kernel, by decide +kernel⟩, by decide⟩
theorem Y_J6_bitCount_0f7a4 : ln_Z yJ6_bitCount_0f7a4 cJ6_bitCount_0f7a4 1 1 (some .int) := ⟨mS_J6_bitCount_0f7a4, mI_J6, mC_J6_bitCount_0f7a4, ⟨by decide +kernel, by decide +kernel, by decide +kernel⟩, by decide⟩
theorem Y_J9_max_7cf53 : ln_Z Lib.Math.max.name Lib.Math.max.code 2 2 (some .int) := ⟨mS_J9_max_7cf53, mI_J9, mC_J9_max_7cf53, ⟨by decide +kernel, by decide +kernel, by decide +kernel⟩, by decide⟩
theorem Y_J9_min_7cf53 : ln_Z Lib.Math.min.name Lib.Math.min.code 2 2 (some .int) := ⟨mS_J9_min_7cf53, mI_J9, mC_J9_min_7cf53, ⟨by decide +kernel, by decide +kernel, by decide +kernel⟩, by decide⟩
end
section
theorem ln_wt_step {N : ln_N} (hW : ln_wf N) (S q p : Nat) : ln_wt N S q p + (if (S &&& N 4 q).testBit p then 1 else 0) * N (5 + p) q = ln_wt N S q (p + 1) := by
  have h1 := (hW.2 p).2.2 q
  rw [Nat.testBit_and]
  cases hs : S.testBit p with
  | false => rw [ln_wt_f hs]; simp
  | true =>
    rw [ln_wt_t hs]
    cases h4 : (N 4 q).testBit p with
    | true => simp
    | false =>
      rw [h1.2.2.1] at h4
      have := of_decide_eq_false h4
      simp
      omega
theorem ln_wt_stop {N : ln_N} (hW : ln_wf N) {S q p : Nat} (h : (S &&& N 4 q) >>> p = 0) : ∀ {n : Nat}, p ≤ n → ln_wt N S q p = ln_wt N S q n := by
  intro n hn
  induction n with
  | zero => rw [show p = 0 by omega]
  | succ k ih =>
    by_cases hk : p = k + 1
    · rw [hk]
    · rw [ih (by omega), ← ln_wt_step hW S q k]
      have h2 : (S &&& N 4 q).testBit k = false := by
        have h3 : ((S &&& N 4 q) >>> p).testBit (k - p) = false := by rw [h, Nat.zero_testBit]
        rw [Nat.testBit_shiftRight, show p + (k - p) = k by omega] at h3
        exact h3
      rw [h2]; simp
theorem ln_ah_step {N : ln_N} {q p x : Nat} (h : N (5 + p) q = 0) : x = x ||| (if 0 < N (5 + p) q then 2 ^ p else 0) := by
  rw [if_neg (by omega), Nat.or_zero]
theorem ln_ah_step2 {N : ln_N} {q p x : Nat} (h : N (5 + p) q ≠ 0) : x ||| 2 ^ p = x ||| (if 0 < N (5 + p) q then 2 ^ p else 0) := by
  rw [if_pos (by omega)]
theorem ln_oru_bit (f : Nat → Nat) (i : Nat) : ∀ k, (ln_oru f k).testBit i = true ↔ ∃ j, j < k ∧ (f j).testBit i = true
  | 0 => by simp [ln_oru]
  | k + 1 => by
    show (ln_oru f k ||| f k).testBit i = true ↔ _
    rw [Nat.testBit_or, Bool.or_eq_true, ln_oru_bit f i k]
    constructor
    · rintro (⟨j, h1, h2⟩ | h)
      · exact ⟨j, by omega, h2⟩
      · exact ⟨k, by omega, h⟩
    · rintro ⟨j, h1, h2⟩
      by_cases hj : j = k
      · subst hj; exact Or.inr h2
      · exact Or.inl ⟨j, by omega, h2⟩
theorem ln_ah_ok {N : ln_N} (hW : ln_wf N) {q : Nat} : ln_oru (fun i => if 0 < N (5 + i) q then 2 ^ i else 0) (N 0 0) = N 4 q := by
  apply Nat.eq_of_testBit_eq
  intro i
  rw [((hW.2 i).2.2 q).2.2.1]
  by_cases h : 0 < N (5 + i) q
  · rw [decide_eq_true h, (ln_oru_bit _ _ _).mpr ⟨i, (((hW.2 i).2.2 q).2.2.2 h).1, by rw [if_pos h]; simp⟩]
  · rw [decide_eq_false h, ← Bool.not_eq_true, ln_oru_bit]
    rintro ⟨j, h1, h2⟩
    split at h2
    · rename_i h3
      rw [Nat.testBit_two_pow] at h2
      have := of_decide_eq_true h2
      subst this
      exact h h3
    · simp at h2
set_option maxHeartbeats 4000000 in
set_option maxRecDepth 100000 in
theorem c_X9_hasPost (l : Launch) (D : va_G) (g : Nat → ClassId) (d : Nat) (S p : Nat) (hS : S < 2 ^ 31) (hp : p < 32) (hd : 0 ≤ d) : ln_R l D g [] yX9_hasPost (.code yX9_hasPost cX9_hasPost 2 (some .boolean)) d [.int (nI S), .int (nI p)] (fun r => r = ln_b (S.testBit p)) := by
  refine ln_ofR (by decide +kernel) (Nat.le_of_ble_eq_true rfl) (fun prg env rum sta mid args below meth cod ls hr hlk X hP hl => ?_)
  have hl : lv_has ls 2 [(0, .int (nI S)), (1, .int (nI p))] := hl
  generalize hQ0 : (MQ below (vp_Si (fun r => r = ln_b (S.testBit p))) args sta 0 0 (fun _ => False)) = Q0
  refine lv_iload_n X.1 X.2.1 dX9_hasPost_0 rfl (lv_at hl 0 rfl) ?_
  refine lv_iload_n X.1 X.2.1 dX9_hasPost_1 rfl (lv_at hl 1 rfl) ?_
  refine rn_shr X (by omega) (by omega) dX9_hasPost_2 ?_
  refine lv_iconst (v := nI 1) X.1 X.2.1 dX9_hasPost_3 (by decide) ?_
  refine rn_and X dX9_hasPost_4 ?_
  refine rn_top (y := ln_b (S.testBit p)) (by rw [ln_shr_and, ln_nb]) ?_
  refine rn_eqB X (tgt := 12) dX9_hasPost_5 (by decide) (fun h5 => ?_) (fun h5 => ?_)
  · skip
    refine lv_iconst (v := nI 0) X.1 X.2.1 dX9_hasPost_12 (by decide) ?_
    subst hQ0
    exact ln_retR X hr hlk rfl (by rw [h5]; rfl) dX9_hasPost_13
  · skip
    refine lv_iconst (v := nI 1) X.1 X.2.1 dX9_hasPost_8 (by decide) ?_
    refine lv_goto (tgt := 13) X.1 X.2.1 dX9_hasPost_9 (by decide) ?_
    subst hQ0
    exact ln_retR X hr hlk rfl (by rw [h5]; rfl) dX9_hasPost_13
set_option maxHeartbeats 4000000 in
set_option maxRecDepth 100000 in
theorem c_X10_has (l : Launch) (D : va_G) (g : Nat → ClassId) (d : Nat) (S p : Nat) (hS : S < 2 ^ 31) (hp : p < 32) (hd : 0 ≤ d) : ln_R l D g [] yX10_has (.code yX10_has cX10_has 2 (some .boolean)) d [.int (nI S), .int (nI p)] (fun r => r = ln_b (S.testBit p)) := by
  refine ln_ofR (by decide +kernel) (Nat.le_of_ble_eq_true rfl) (fun prg env rum sta mid args below meth cod ls hr hlk X hP hl => ?_)
  have hl : lv_has ls 2 [(0, .int (nI S)), (1, .int (nI p))] := hl
  generalize hQ0 : (MQ below (vp_Si (fun r => r = ln_b (S.testBit p))) args sta 0 0 (fun _ => False)) = Q0
  refine lv_iload_n X.1 X.2.1 dX10_has_0 rfl (lv_at hl 0 rfl) ?_
  refine lv_iload_n X.1 X.2.1 dX10_has_1 rfl (lv_at hl 1 rfl) ?_
  refine rn_shr X (by omega) (by omega) dX10_has_2 ?_
  refine lv_iconst (v := nI 1) X.1 X.2.1 dX10_has_3 (by decide) ?_
  refine rn_and X dX10_has_4 ?_
  refine rn_top (y := nI ((if S.testBit p then 1 else 0))) (by rw [ln_shr_and]) ?_
  refine lv_iconst (v := nI 1) X.1 X.2.1 dX10_has_5 (by decide) ?_
  refine rn_ne X (by split <;> decide) (by decide) (tgt := 13) dX10_has_6 (by decide) (fun h6 => ?_) (fun h6 => ?_)
  · skip
    have h6b : S.testBit p = false := by cases hq : S.testBit p with | false => rfl | true => rw [hq] at h6; exact absurd rfl h6
    refine lv_iconst (v := nI 0) X.1 X.2.1 dX10_has_13 (by decide) ?_
    subst hQ0
    exact ln_retR X hr hlk rfl (by rw [h6b]; rfl) dX10_has_14
  · skip
    have h6b : S.testBit p = true := by cases hq : S.testBit p with | true => rfl | false => rw [hq] at h6; exact absurd h6 (by decide)
    refine lv_iconst (v := nI 1) X.1 X.2.1 dX10_has_9 (by decide) ?_
    refine lv_goto (tgt := 14) X.1 X.2.1 dX10_has_10 (by decide) ?_
    subst hQ0
    exact ln_retR X hr hlk rfl (by rw [h6b]; rfl) dX10_has_14
set_option maxHeartbeats 4000000 in
set_option maxRecDepth 100000 in
theorem c_X9_isRule (l : Launch) (D : va_G) (g : Nat → ClassId) (d : Nat) (x : Int32) (hd : 0 ≤ d) : ln_R l D g [] yX9_isRule (.code yX9_isRule cX9_isRule 1 (some .boolean)) d [.int x] (fun r => r = ln_b (ln_inr x 3)) := by
  refine ln_ofR (by decide +kernel) (Nat.le_of_ble_eq_true rfl) (fun prg env rum sta mid args below meth cod ls hr hlk X hP hl => ?_)
  have hl : lv_has ls 1 [(0, .int x)] := hl
  generalize hQ0 : (MQ below (vp_Si (fun r => r = ln_b (ln_inr x 3))) args sta 0 0 (fun _ => False)) = Q0
  refine lv_iload_n X.1 X.2.1 dX9_isRule_0 rfl (lv_at hl 0 rfl) ?_
  refine lv_if_lt (tgt := 13) X.1 X.2.1 dX9_isRule_1 (by decide) (fun h1 => ?_) (fun h1 => ?_)
  · skip
    refine lv_iconst (v := nI 0) X.1 X.2.1 dX9_isRule_13 (by decide) ?_
    subst hQ0
    exact ln_retR X hr hlk rfl (by first | (rw [ln_inr_lt h1]; rfl) | (rw [ln_inr_ge (by decide) h6]; rfl)) dX9_isRule_14
  · skip
    refine lv_iload_n X.1 X.2.1 dX9_isRule_4 rfl (lv_at hl 0 rfl) ?_
    refine lv_iconst (v := nI 3) X.1 X.2.1 dX9_isRule_5 (by decide) ?_
    refine lv_icmp_ge (tgt := 13) X.1 X.2.1 dX9_isRule_6 (by decide) (fun h6 => ?_) (fun h6 => ?_)
    · skip
      refine lv_iconst (v := nI 0) X.1 X.2.1 dX9_isRule_13 (by decide) ?_
      subst hQ0
      exact ln_retR X hr hlk rfl (by first | (rw [ln_inr_lt h1]; rfl) | (rw [ln_inr_ge (by decide) h6]; rfl)) dX9_isRule_14
    · skip
      refine lv_iconst (v := nI 1) X.1 X.2.1 dX9_isRule_9 (by decide) ?_
      refine lv_goto (tgt := 14) X.1 X.2.1 dX9_isRule_10 (by decide) ?_
      subst hQ0
      exact ln_retR X hr hlk rfl (by rw [ln_inr_in (by decide) h1 h6]; rfl) dX9_isRule_14
set_option maxHeartbeats 4000000 in
set_option maxRecDepth 100000 in
theorem c_X9_isPlainRule (l : Launch) (D : va_G) (g : Nat → ClassId) (d : Nat) (x : Int32) (hd : 0 ≤ d) : ln_R l D g [] yX9_isPlainRule (.code yX9_isPlainRule cX9_isPlainRule 1 (some .boolean)) d [.int x] (fun r => r = ln_b (ln_inr x 2)) := by
  refine ln_ofR (by decide +kernel) (Nat.le_of_ble_eq_true rfl) (fun prg env rum sta mid args below meth cod ls hr hlk X hP hl => ?_)
  have hl : lv_has ls 1 [(0, .int x)] := hl
  generalize hQ0 : (MQ below (vp_Si (fun r => r = ln_b (ln_inr x 2))) args sta 0 0 (fun _ => False)) = Q0
  refine lv_iload_n X.1 X.2.1 dX9_isPlainRule_0 rfl (lv_at hl 0 rfl) ?_
  refine lv_if_lt (tgt := 13) X.1 X.2.1 dX9_isPlainRule_1 (by decide) (fun h1 => ?_) (fun h1 => ?_)
  · skip
    refine lv_iconst (v := nI 0) X.1 X.2.1 dX9_isPlainRule_13 (by decide) ?_
    subst hQ0
    exact ln_retR X hr hlk rfl (by first | (rw [ln_inr_lt h1]; rfl) | (rw [ln_inr_ge (by decide) h6]; rfl)) dX9_isPlainRule_14
  · skip
    refine lv_iload_n X.1 X.2.1 dX9_isPlainRule_4 rfl (lv_at hl 0 rfl) ?_
    refine lv_iconst (v := nI 2) X.1 X.2.1 dX9_isPlainRule_5 (by decide) ?_
    refine lv_icmp_ge (tgt := 13) X.1 X.2.1 dX9_isPlainRule_6 (by decide) (fun h6 => ?_) (fun h6 => ?_)
    · skip
      refine lv_iconst (v := nI 0) X.1 X.2.1 dX9_isPlainRule_13 (by decide) ?_
      subst hQ0
      exact ln_retR X hr hlk rfl (by first | (rw [ln_inr_lt h1]; rfl) | (rw [ln_inr_ge (by decide) h6]; rfl)) dX9_isPlainRule_14
    · skip
      refine lv_iconst (v := nI 1) X.1 X.2.1 dX9_isPlainRule_9 (by decide) ?_
      refine lv_goto (tgt := 14) X.1 X.2.1 dX9_isPlainRule_10 (by decide) ?_
      subst hQ0
      exact ln_retR X hr hlk rfl (by rw [ln_inr_in (by decide) h1 h6]; rfl) dX9_isPlainRule_14
set_option maxHeartbeats 4000000 in
set_option maxRecDepth 100000 in
theorem c_X10_in (l : Launch) (D : va_G) (g : Nat → ClassId) (d : Nat) (x lo hi : Int32) (hd : 0 ≤ d) : ln_R l D g [] yX10_in (.code yX10_in cX10_in 3 (some .boolean)) d [.int x, .int lo, .int hi] (fun r => r = ln_b (decide (lo ≤ x ∧ x ≤ hi))) := by
  refine ln_ofR (by decide +kernel) (Nat.le_of_ble_eq_true rfl) (fun prg env rum sta mid args below meth cod ls hr hlk X hP hl => ?_)
  have hl : lv_has ls 3 [(0, .int x), (1, .int lo), (2, .int hi)] := hl
  generalize hQ0 : (MQ below (vp_Si (fun r => r = ln_b (decide (lo ≤ x ∧ x ≤ hi)))) args sta 0 0 (fun _ => False)) = Q0
  refine lv_iload_n X.1 X.2.1 dX10_in_0 rfl (lv_at hl 0 rfl) ?_
  refine lv_iload_n X.1 X.2.1 dX10_in_1 rfl (lv_at hl 1 rfl) ?_
  refine lv_icmp_lt (tgt := 14) X.1 X.2.1 dX10_in_2 (by decide) (fun h2 => ?_) (fun h2 => ?_)
  · skip
    refine lv_iconst (v := nI 0) X.1 X.2.1 dX10_in_14 (by decide) ?_
    subst hQ0
    exact ln_retR X hr hlk rfl (by first | (rw [decide_eq_true ⟨Int32.not_lt.mp h2, Int32.not_lt.mp h7⟩]; rfl) | (rw [decide_eq_false (fun q => absurd h2 (Int32.not_lt.mpr q.1))]; rfl) | (rw [decide_eq_false (fun q => absurd h7 (Int32.not_lt.mpr q.2))]; rfl)) dX10_in_15
  · skip
    refine lv_iload_n X.1 X.2.1 dX10_in_5 rfl (lv_at hl 0 rfl) ?_
    refine lv_iload_n X.1 X.2.1 dX10_in_6 rfl (lv_at hl 2 rfl) ?_
    refine lv_icmp_gt (tgt := 14) X.1 X.2.1 dX10_in_7 (by decide) (fun h7 => ?_) (fun h7 => ?_)
    · skip
      refine lv_iconst (v := nI 0) X.1 X.2.1 dX10_in_14 (by decide) ?_
      subst hQ0
      exact ln_retR X hr hlk rfl (by first | (rw [decide_eq_true ⟨Int32.not_lt.mp h2, Int32.not_lt.mp h7⟩]; rfl) | (rw [decide_eq_false (fun q => absurd h2 (Int32.not_lt.mpr q.1))]; rfl) | (rw [decide_eq_false (fun q => absurd h7 (Int32.not_lt.mpr q.2))]; rfl)) dX10_in_15
    · skip
      refine lv_iconst (v := nI 1) X.1 X.2.1 dX10_in_10 (by decide) ?_
      refine lv_goto (tgt := 15) X.1 X.2.1 dX10_in_11 (by decide) ?_
      subst hQ0
      exact ln_retR X hr hlk rfl (by first | (rw [decide_eq_true ⟨Int32.not_lt.mp h2, Int32.not_lt.mp h7⟩]; rfl) | (rw [decide_eq_false (fun q => absurd h2 (Int32.not_lt.mpr q.1))]; rfl) | (rw [decide_eq_false (fun q => absurd h7 (Int32.not_lt.mpr q.2))]; rfl)) dX10_in_15
set_option maxHeartbeats 4000000 in
set_option maxRecDepth 100000 in
theorem c_X10_isRule (l : Launch) (D : va_G) (g : Nat → ClassId) (d : Nat) (x : Int32) (hd : 1 ≤ d) : ln_R l D g [] yX10_isRule (.code yX10_isRule cX10_isRule 1 (some .boolean)) d [.int x] (fun r => r = ln_b (ln_inr x 3)) := by
  refine ln_ofR (by decide +kernel) (Nat.le_of_ble_eq_true rfl) (fun prg env rum sta mid args below meth cod ls hr hlk X hP hl => ?_)
  have hl : lv_has ls 1 [(0, .int x)] := hl
  generalize hQ0 : (MQ below (vp_Si (fun r => r = ln_b (ln_inr x 3))) args sta 0 0 (fun _ => False)) = Q0
  refine lv_iload_n X.1 X.2.1 dX10_isRule_0 rfl (lv_at hl 0 rfl) ?_
  refine lv_iconst (v := nI 0) X.1 X.2.1 dX10_isRule_1 (by decide) ?_
  refine lv_iconst (v := nI 2) X.1 X.2.1 dX10_isRule_2 (by decide) ?_
  refine ln_sR X (c_X10_in l D g 0 x (nI 0) (nI 2) (Nat.le_refl _)) ln_nil mM_X10_52 Y_X10_in rfl (by omega) hl.1 rfl (Nat.le_of_ble_eq_true rfl) dX10_isRule_3 ⟨Nat.zero_le _, Nat.zero_le _⟩ (fun r3 hr3 => ?_)
  subst hr3
  refine rn_top (y := ln_b (ln_inr x 3)) (by rw [show nI 0 = 0 from rfl, ln_in_inr2 (by decide)]) ?_
  subst hQ0
  exact ln_retR X hr hlk (ln_b_nar _) rfl dX10_isRule_6
set_option maxHeartbeats 4000000 in
set_option maxRecDepth 100000 in
theorem c_X10_ones (l : Launch) (D : va_G) (g : Nat → ClassId) (d : Nat) (S : Nat) (hS : S < 2 ^ 31) (hd : 0 ≤ d) : ln_R l D g [] yX10_ones (.code yX10_ones cX10_ones 3 (some .int)) d [.int (nI S)] (fun r => r = nI (ln_pc S)) := by
  refine ln_ofR (by decide +kernel) (Nat.le_of_ble_eq_true rfl) (fun prg env rum sta mid args below meth cod ls hr hlk X hP hl => ?_)
  have hl : lv_has ls 3 [(0, .int (nI S))] := hl
  generalize hQ0 : (MQ below (vp_Si (fun r => r = nI (ln_pc S))) args sta 0 0 (fun _ => False)) = Q0
  refine lv_iconst (v := nI 0) X.1 X.2.1 dX10_ones_0 (by decide) ?_
  refine lv_istore_n (lv' := [(1, .int (nI 0)), (0, .int (nI S))]) X.1 X.2.1 dX10_ones_1 rfl hl (by decide) rfl (fun ls hl => ?_)
  refine lv_iconst (v := nI 0) X.1 X.2.1 dX10_ones_2 (by decide) ?_
  refine lv_istore_n (lv' := [(2, .int (nI 0)), (1, .int (nI 0)), (0, .int (nI S))]) X.1 X.2.1 dX10_ones_3 rfl hl (by decide) rfl (fun ls hl => ?_)
  have L4 : ∀ (K : Nat) (p : Nat) (x : Nat), 12 - p < K → p ≤ 12 → x = ln_ct S.testBit p → ∀ ls : Array Slot, lv_has ls 3 [(0, .int (nI S)), (1, .int (nI x)), (2, .int (nI p))] → W prg l env rum sta mid args below meth cod sta.heap [] 0 0 Q0 (F0 mid 4 ls []) := by
    intro K
    induction K with
    | zero => intro p x hm; exact absurd hm (Nat.not_lt_zero _)
    | succ K ih4 =>
      intro p x hm4 hp hx ls hl
      refine lv_iload_n X.1 X.2.1 dX10_ones_4 rfl (lv_at hl 2 rfl) ?_
      refine lv_bipush (v := nI 12) X.1 X.2.1 dX10_ones_5 (by decide) ?_
      refine rn_ge X (by omega) (by decide) (tgt := 24) dX10_ones_7 (by decide) (fun h7 => ?_) (fun h7 => ?_)
      · skip
        refine lv_iload_n X.1 X.2.1 dX10_ones_24 rfl (lv_at hl 1 rfl) ?_
        subst hQ0
        exact ln_retR X hr hlk rfl (by rw [hx, show p = 12 by omega]; rfl) dX10_ones_25
      · skip
        refine lv_iload_n X.1 X.2.1 dX10_ones_10 rfl (lv_at hl 1 rfl) ?_
        refine lv_iload_n X.1 X.2.1 dX10_ones_11 rfl (lv_at hl 0 rfl) ?_
        refine lv_iload_n X.1 X.2.1 dX10_ones_12 rfl (lv_at hl 2 rfl) ?_
        refine rn_shr X (by omega) (by omega) dX10_ones_13 ?_
        refine lv_iconst (v := nI 1) X.1 X.2.1 dX10_ones_14 (by decide) ?_
        refine rn_and X dX10_ones_15 ?_
        refine rn_add X dX10_ones_16 ?_
        refine lv_istore_n (lv' := [(1, .int (nI (x + ((S >>> p) &&& 1)))), (0, .int (nI S)), (2, .int (nI p))]) X.1 X.2.1 dX10_ones_17 rfl hl (by decide) rfl (fun ls hl => ?_)
        refine lv_iinc (v := nI (p + 1)) (lv' := [(2, .int (nI (p + 1))), (1, .int (nI (x + ((S >>> p) &&& 1)))), (0, .int (nI S))]) X.1 X.2.1 dX10_ones_18 hl (k := 2) rfl rn_inc (by decide) rfl (fun ls hl => ?_)
        refine lv_goto (tgt := 4) X.1 X.2.1 dX10_ones_21 (by decide) ?_
        exact ih4 (p + 1) _ (by omega) (by omega) (by rw [hx]; show _ = ln_ct S.testBit p + (if S.testBit p then 1 else 0); rw [ln_shr_and]) ls (lv_sub hl [2, 1, 0] rfl)
  exact L4 _ 0 0 (Nat.lt_succ_self _) (by decide) rfl ls (lv_sub hl [2, 1, 0] rfl)
set_option maxHeartbeats 4000000 in
set_option maxRecDepth 100000 in
theorem c_X4_allPosts (l : Launch) (D : va_G) (g : Nat → ClassId) (a : Nat → Nat) (σ : ln_S) (d : Nat) (N : ln_N) (hW : ln_wf N) (hN : ln_nC N σ)  (hd : 0 ≤ d) : ln_R l D g (CW a g σ) yX4_allPosts (.code yX4_allPosts cX4_allPosts 1 (some .int)) d [.ref (a 1)] (fun r => r = nI (2 ^ N 0 0 - 1)) := by
  have hN12 := hW.n12
  have hp12 := hW.p12
  refine ln_ofR (by decide +kernel) (Nat.le_of_ble_eq_true rfl) (fun prg env rum sta mid args below meth cod ls hr hlk X hP hl => ?_)
  have hl : lv_has ls 1 [(0, .ref (a 1))] := hl
  generalize hQ0 : (MQ below (vp_Si (fun r => r = nI (2 ^ N 0 0 - 1))) args sta 0 0 (fun _ => False)) = Q0
  refine lv_iconst (v := nI 1) X.1 X.2.1 dX4_allPosts_0 (by decide) ?_
  refine lv_aload_n X.1 X.2.1 dX4_allPosts_1 rfl (lv_at hl 0 rfl) ?_
  refine gC_1_0 X hP (v := nI (N 0 0)) hN.n mF_X4_33 dX4_allPosts_2 ?_
  refine rn_shl X (by omega) dX4_allPosts_5 ?_
  refine lv_iconst (v := nI 1) X.1 X.2.1 dX4_allPosts_6 (by decide) ?_
  refine rn_sub X (ln_pos2 _) dX4_allPosts_7 ?_
  subst hQ0
  exact ln_retR X hr hlk rfl rfl dX4_allPosts_8
set_option maxHeartbeats 4000000 in
set_option maxRecDepth 100000 in
theorem c_X4_isPost (l : Launch) (D : va_G) (g : Nat → ClassId) (a : Nat → Nat) (σ : ln_S) (d : Nat) (N : ln_N) (hW : ln_wf N) (hN : ln_nC N σ) (x : Int32) (hd : 0 ≤ d) : ln_R l D g (CW a g σ) yX4_isPost (.code yX4_isPost cX4_isPost 2 (some .boolean)) d [.ref (a 1), .int x] (fun r => r = ln_b (ln_inr x (N 0 0))) := by
  have hN12 := hW.n12
  have hp12 := hW.p12
  refine ln_ofR (by decide +kernel) (Nat.le_of_ble_eq_true rfl) (fun prg env rum sta mid args below meth cod ls hr hlk X hP hl => ?_)
  have hl : lv_has ls 2 [(0, .ref (a 1)), (1, .int x)] := hl
  generalize hQ0 : (MQ below (vp_Si (fun r => r = ln_b (ln_inr x (N 0 0)))) args sta 0 0 (fun _ => False)) = Q0
  refine lv_iload_n X.1 X.2.1 dX4_isPost_0 rfl (lv_at hl 1 rfl) ?_
  refine lv_if_lt (tgt := 16) X.1 X.2.1 dX4_isPost_1 (by decide) (fun h1 => ?_) (fun h1 => ?_)
  · skip
    refine lv_iconst (v := nI 0) X.1 X.2.1 dX4_isPost_16 (by decide) ?_
    subst hQ0
    exact ln_retR X hr hlk rfl (by first | (rw [ln_inr_lt h1]; rfl) | (rw [ln_inr_ge (by omega) h9]; rfl) | (rw [ln_inr_in (by omega) h1 h9]; rfl)) dX4_isPost_17
  · skip
    refine lv_iload_n X.1 X.2.1 dX4_isPost_4 rfl (lv_at hl 1 rfl) ?_
    refine lv_aload_n X.1 X.2.1 dX4_isPost_5 rfl (lv_at hl 0 rfl) ?_
    refine gC_1_0 X hP (v := nI (N 0 0)) hN.n mF_X4_33 dX4_isPost_6 ?_
    refine lv_icmp_ge (tgt := 16) X.1 X.2.1 dX4_isPost_9 (by decide) (fun h9 => ?_) (fun h9 => ?_)
    · skip
      refine lv_iconst (v := nI 0) X.1 X.2.1 dX4_isPost_16 (by decide) ?_
      subst hQ0
      exact ln_retR X hr hlk rfl (by first | (rw [ln_inr_lt h1]; rfl) | (rw [ln_inr_ge (by omega) h9]; rfl) | (rw [ln_inr_in (by omega) h1 h9]; rfl)) dX4_isPost_17
    · skip
      refine lv_iconst (v := nI 1) X.1 X.2.1 dX4_isPost_12 (by decide) ?_
      refine lv_goto (tgt := 17) X.1 X.2.1 dX4_isPost_13 (by decide) ?_
      subst hQ0
      exact ln_retR X hr hlk rfl (by first | (rw [ln_inr_lt h1]; rfl) | (rw [ln_inr_ge (by omega) h9]; rfl) | (rw [ln_inr_in (by omega) h1 h9]; rfl)) dX4_isPost_17
set_option maxHeartbeats 4000000 in
set_option maxRecDepth 100000 in
theorem c_X4_isSet (l : Launch) (D : va_G) (g : Nat → ClassId) (a : Nat → Nat) (σ : ln_S) (d : Nat) (N : ln_N) (hW : ln_wf N) (hN : ln_nC N σ) (x : Int32) (hd : 1 ≤ d) : ln_R l D g (CW a g σ) yX4_isSet (.code yX4_isSet cX4_isSet 2 (some .boolean)) d [.ref (a 1), .int x] (fun r => r = ln_b (ln_inr x (2 ^ N 0 0))) := by
  have hN12 := hW.n12
  have hp12 := hW.p12
  have hs1 := ln_sub1 (N 0 0)
  refine ln_ofR (by decide +kernel) (Nat.le_of_ble_eq_true rfl) (fun prg env rum sta mid args below meth cod ls hr hlk X hP hl => ?_)
  have hl : lv_has ls 2 [(0, .ref (a 1)), (1, .int x)] := hl
  generalize hQ0 : (MQ below (vp_Si (fun r => r = ln_b (ln_inr x (2 ^ N 0 0)))) args sta 0 0 (fun _ => False)) = Q0
  refine lv_iload_n X.1 X.2.1 dX4_isSet_0 rfl (lv_at hl 1 rfl) ?_
  refine lv_if_lt (tgt := 16) X.1 X.2.1 dX4_isSet_1 (by decide) (fun h1 => ?_) (fun h1 => ?_)
  · skip
    refine lv_iconst (v := nI 0) X.1 X.2.1 dX4_isSet_16 (by decide) ?_
    subst hQ0
    exact ln_retR X hr hlk rfl (by first | (rw [ln_inr_lt h1]; rfl) | (rw [← hs1, ln_inr_gt (by omega) h9]; rfl) | (rw [← hs1, ln_inr_in2 (by omega) h1 h9]; rfl)) dX4_isSet_17
  · skip
    refine lv_iload_n X.1 X.2.1 dX4_isSet_4 rfl (lv_at hl 1 rfl) ?_
    refine lv_aload_n X.1 X.2.1 dX4_isSet_5 rfl (lv_at hl 0 rfl) ?_
    refine ln_vR X (c_X4_allPosts l D g a σ 0 N hW hN (Nat.le_refl _)) hP 1 rfl rfl mM_X4_36 Y_X4_allPosts rfl (by omega) hl.1 rfl (Nat.le_of_ble_eq_true rfl) dX4_isSet_6 ⟨Nat.zero_le _, Nat.zero_le _⟩ (fun r6 hr6 => ?_)
    subst hr6
    refine lv_icmp_gt (tgt := 16) X.1 X.2.1 dX4_isSet_9 (by decide) (fun h9 => ?_) (fun h9 => ?_)
    · skip
      refine lv_iconst (v := nI 0) X.1 X.2.1 dX4_isSet_16 (by decide) ?_
      subst hQ0
      exact ln_retR X hr hlk rfl (by first | (rw [ln_inr_lt h1]; rfl) | (rw [← hs1, ln_inr_gt (by omega) h9]; rfl) | (rw [← hs1, ln_inr_in2 (by omega) h1 h9]; rfl)) dX4_isSet_17
    · skip
      refine lv_iconst (v := nI 1) X.1 X.2.1 dX4_isSet_12 (by decide) ?_
      refine lv_goto (tgt := 17) X.1 X.2.1 dX4_isSet_13 (by decide) ?_
      subst hQ0
      exact ln_retR X hr hlk rfl (by first | (rw [ln_inr_lt h1]; rfl) | (rw [← hs1, ln_inr_gt (by omega) h9]; rfl) | (rw [← hs1, ln_inr_in2 (by omega) h1 h9]; rfl)) dX4_isSet_17
set_option maxHeartbeats 4000000 in
set_option maxRecDepth 100000 in
theorem c_X4_withBehind (l : Launch) (D : va_G) (g : Nat → ClassId) (a : Nat → Nat) (σ : ln_S) (d : Nat) (N : ln_N) (hW : ln_wf N) (hN : ln_nC N σ) (S : Nat) (hS : S < 4096) (hd : 1 ≤ d) : ln_R l D g (CW a g σ) yX4_withBehind (.code yX4_withBehind cX4_withBehind 4 (some .int)) d [.ref (a 1), .int (nI S)] (fun r => r = nI (ln_wb N S)) := by
  have hN12 := hW.n12
  have hp12 := hW.p12
  refine ln_ofR (by decide +kernel) (Nat.le_of_ble_eq_true rfl) (fun prg env rum sta mid args below meth cod ls hr hlk X hP hl => ?_)
  have hl : lv_has ls 4 [(0, .ref (a 1)), (1, .int (nI S))] := hl
  generalize hQ0 : (MQ below (vp_Si (fun r => r = nI (ln_wb N S))) args sta 0 0 (fun _ => False)) = Q0
  refine lv_iload_n X.1 X.2.1 dX4_withBehind_0 rfl (lv_at hl 1 rfl) ?_
  refine lv_istore_n (lv' := [(2, .int (nI S)), (0, .ref (a 1)), (1, .int (nI S))]) X.1 X.2.1 dX4_withBehind_1 rfl hl (by decide) rfl (fun ls hl => ?_)
  refine lv_iconst (v := nI 0) X.1 X.2.1 dX4_withBehind_2 (by decide) ?_
  refine lv_istore_n (lv' := [(3, .int (nI 0)), (2, .int (nI S)), (0, .ref (a 1)), (1, .int (nI S))]) X.1 X.2.1 dX4_withBehind_3 rfl hl (by decide) rfl (fun ls hl => ?_)
  have L4 : ∀ (K : Nat) (p : Nat) (x : Nat), N 0 0 - p < K → p ≤ N 0 0 → x < 4096 → x = S ||| ln_bhs N S p → ∀ ls : Array Slot, lv_has ls 4 [(0, .ref (a 1)), (1, .int (nI S)), (2, .int (nI x)), (3, .int (nI p))] → W prg l env rum sta mid args below meth cod sta.heap [] 0 0 Q0 (F0 mid 4 ls []) := by
    intro K
    induction K with
    | zero => intro p x hm; exact absurd hm (Nat.not_lt_zero _)
    | succ K ih4 =>
      intro p x hm4 hp hxb hx ls hl
      refine lv_iload_n X.1 X.2.1 dX4_withBehind_4 rfl (lv_at hl 3 rfl) ?_
      refine lv_aload_n X.1 X.2.1 dX4_withBehind_5 rfl (lv_at hl 0 rfl) ?_
      refine gC_1_0 X hP (v := nI (N 0 0)) hN.n mF_X4_33 dX4_withBehind_6 ?_
      refine rn_ge X (by omega) (by omega) (tgt := 35) dX4_withBehind_9 (by decide) (fun h9 => ?_) (fun h9 => ?_)
      · skip
        refine lv_iload_n X.1 X.2.1 dX4_withBehind_35 rfl (lv_at hl 2 rfl) ?_
        subst hQ0
        exact ln_retR X hr hlk rfl (by rw [hx, show p = N 0 0 by omega]; rfl) dX4_withBehind_36
      · skip
        refine lv_iload_n X.1 X.2.1 dX4_withBehind_12 rfl (lv_at hl 1 rfl) ?_
        refine lv_iload_n X.1 X.2.1 dX4_withBehind_13 rfl (lv_at hl 3 rfl) ?_
        refine ln_nR X (c_X9_hasPost l D g 0 S p (ln_31 hS) (by omega) (Nat.le_refl _)) ln_nil mM_X4_43 Y_X9_hasPost rfl (by omega) hl.1 rfl (Nat.le_of_ble_eq_true rfl) dX4_withBehind_14 ⟨Nat.zero_le _, Nat.zero_le _⟩ (fun r14 hr14 => ?_)
        subst hr14
        refine rn_eqB X (tgt := 29) dX4_withBehind_17 (by decide) (fun h17 => ?_) (fun h17 => ?_)
        · skip
          refine lv_iinc (v := nI (p + 1)) (lv' := [(3, .int (nI (p + 1))), (0, .ref (a 1)), (1, .int (nI S)), (2, .int (nI x))]) X.1 X.2.1 dX4_withBehind_29 hl (k := 3) rfl rn_inc (by decide) rfl (fun ls hl => ?_)
          refine lv_goto (tgt := 4) X.1 X.2.1 dX4_withBehind_32 (by decide) ?_
          exact ih4 (p + 1) _ (by omega) (by omega) (by first | exact hxb | exact ln_or12 hxb (hW.bh12 _)) (by first | (rw [ln_bhs_f h17]; exact hx) | (rw [ln_bhs_t h17, ← Nat.or_assoc, hx])) ls (lv_sub hl [1, 2, 3, 0] rfl)
        · skip
          refine lv_iload_n X.1 X.2.1 dX4_withBehind_20 rfl (lv_at hl 2 rfl) ?_
          refine lv_aload_n X.1 X.2.1 dX4_withBehind_21 rfl (lv_at hl 0 rfl) ?_
          refine gC_1_6 X hP mF_X4_27 dX4_withBehind_22 ?_
          refine lv_iload_n X.1 X.2.1 dX4_withBehind_25 rfl (lv_at hl 3 rfl) ?_
          refine lC_5 X hP (by omega) (v := nI (N 3 p)) (hN.bh (by omega)) dX4_withBehind_26 ?_
          refine rn_or X dX4_withBehind_27 ?_
          refine lv_istore_n (lv' := [(2, .int (nI (x ||| (N 3 p)))), (0, .ref (a 1)), (1, .int (nI S)), (3, .int (nI p))]) X.1 X.2.1 dX4_withBehind_28 rfl hl (by decide) rfl (fun ls hl => ?_)
          refine lv_iinc (v := nI (p + 1)) (lv' := [(3, .int (nI (p + 1))), (2, .int (nI (x ||| (N 3 p)))), (0, .ref (a 1)), (1, .int (nI S))]) X.1 X.2.1 dX4_withBehind_29 hl (k := 3) rfl rn_inc (by decide) rfl (fun ls hl => ?_)
          refine lv_goto (tgt := 4) X.1 X.2.1 dX4_withBehind_32 (by decide) ?_
          exact ih4 (p + 1) _ (by omega) (by omega) (by first | exact hxb | exact ln_or12 hxb (hW.bh12 _)) (by first | (rw [ln_bhs_f h17]; exact hx) | (rw [ln_bhs_t h17, ← Nat.or_assoc, hx])) ls (lv_sub hl [2, 3, 1, 0] rfl)
  exact L4 _ 0 S (Nat.lt_succ_self _) (Nat.zero_le _) hS (by rw [show ln_bhs N S 0 = 0 from rfl, Nat.or_zero]) ls (lv_sub hl [2, 3, 1, 0] rfl)
set_option maxHeartbeats 4000000 in
set_option maxRecDepth 100000 in
theorem c_X4_priceOf (l : Launch) (D : va_G) (g : Nat → ClassId) (a : Nat → Nat) (σ : ln_S) (d : Nat) (N : ln_N) (hW : ln_wf N) (hN : ln_nC N σ) (S : Nat) (hS : S < 4096) (hd : 1 ≤ d) : ln_R l D g (CW a g σ) yX4_priceOf (.code yX4_priceOf cX4_priceOf 4 (some .int)) d [.ref (a 1), .int (nI S)] (fun r => r = nI (ln_pri N S (N 0 0))) := by
  have hN12 := hW.n12
  have hp12 := hW.p12
  refine ln_ofR (by decide +kernel) (Nat.le_of_ble_eq_true rfl) (fun prg env rum sta mid args below meth cod ls hr hlk X hP hl => ?_)
  have hl : lv_has ls 4 [(0, .ref (a 1)), (1, .int (nI S))] := hl
  generalize hQ0 : (MQ below (vp_Si (fun r => r = nI (ln_pri N S (N 0 0)))) args sta 0 0 (fun _ => False)) = Q0
  refine lv_iconst (v := nI 0) X.1 X.2.1 dX4_priceOf_0 (by decide) ?_
  refine lv_istore_n (lv' := [(2, .int (nI 0)), (0, .ref (a 1)), (1, .int (nI S))]) X.1 X.2.1 dX4_priceOf_1 rfl hl (by decide) rfl (fun ls hl => ?_)
  refine lv_iconst (v := nI 0) X.1 X.2.1 dX4_priceOf_2 (by decide) ?_
  refine lv_istore_n (lv' := [(3, .int (nI 0)), (2, .int (nI 0)), (0, .ref (a 1)), (1, .int (nI S))]) X.1 X.2.1 dX4_priceOf_3 rfl hl (by decide) rfl (fun ls hl => ?_)
  have L4 : ∀ (K : Nat) (p : Nat) (x : Nat), N 0 0 - p < K → p ≤ N 0 0 → x = ln_pri N S p → ∀ ls : Array Slot, lv_has ls 4 [(0, .ref (a 1)), (1, .int (nI S)), (2, .int (nI x)), (3, .int (nI p))] → W prg l env rum sta mid args below meth cod sta.heap [] 0 0 Q0 (F0 mid 4 ls []) := by
    intro K
    induction K with
    | zero => intro p x hm; exact absurd hm (Nat.not_lt_zero _)
    | succ K ih4 =>
      intro p x hm4 hp hx ls hl
      refine lv_iload_n X.1 X.2.1 dX4_priceOf_4 rfl (lv_at hl 3 rfl) ?_
      refine lv_aload_n X.1 X.2.1 dX4_priceOf_5 rfl (lv_at hl 0 rfl) ?_
      refine gC_1_0 X hP (v := nI (N 0 0)) hN.n mF_X4_33 dX4_priceOf_6 ?_
      refine rn_ge X (by omega) (by omega) (tgt := 35) dX4_priceOf_9 (by decide) (fun h9 => ?_) (fun h9 => ?_)
      · skip
        refine lv_iload_n X.1 X.2.1 dX4_priceOf_35 rfl (lv_at hl 2 rfl) ?_
        subst hQ0
        exact ln_retR X hr hlk rfl (by rw [hx, show p = N 0 0 by omega]) dX4_priceOf_36
      · skip
        refine lv_iload_n X.1 X.2.1 dX4_priceOf_12 rfl (lv_at hl 1 rfl) ?_
        refine lv_iload_n X.1 X.2.1 dX4_priceOf_13 rfl (lv_at hl 3 rfl) ?_
        refine ln_nR X (c_X9_hasPost l D g 0 S p (ln_31 hS) (by omega) (Nat.le_refl _)) ln_nil mM_X4_43 Y_X9_hasPost rfl (by omega) hl.1 rfl (Nat.le_of_ble_eq_true rfl) dX4_priceOf_14 ⟨Nat.zero_le _, Nat.zero_le _⟩ (fun r14 hr14 => ?_)
        subst hr14
        refine rn_eqB X (tgt := 29) dX4_priceOf_17 (by decide) (fun h17 => ?_) (fun h17 => ?_)
        · skip
          refine lv_iinc (v := nI (p + 1)) (lv' := [(3, .int (nI (p + 1))), (0, .ref (a 1)), (1, .int (nI S)), (2, .int (nI x))]) X.1 X.2.1 dX4_priceOf_29 hl (k := 3) rfl rn_inc (by decide) rfl (fun ls hl => ?_)
          refine lv_goto (tgt := 4) X.1 X.2.1 dX4_priceOf_32 (by decide) ?_
          exact ih4 (p + 1) _ (by omega) (by omega) (by first | (rw [ln_pri_f h17]; exact hx) | (rw [ln_pri_t h17, hx])) ls (lv_sub hl [1, 2, 3, 0] rfl)
        · skip
          refine lv_iload_n X.1 X.2.1 dX4_priceOf_20 rfl (lv_at hl 2 rfl) ?_
          refine lv_aload_n X.1 X.2.1 dX4_priceOf_21 rfl (lv_at hl 0 rfl) ?_
          refine gC_1_4 X hP mF_X4_19 dX4_priceOf_22 ?_
          refine lv_iload_n X.1 X.2.1 dX4_priceOf_25 rfl (lv_at hl 3 rfl) ?_
          refine lC_3 X hP (by omega) (v := nI (N 2 p)) (hN.pr (by omega)) dX4_priceOf_26 ?_
          refine rn_add X dX4_priceOf_27 ?_
          refine lv_istore_n (lv' := [(2, .int (nI (x + (N 2 p)))), (0, .ref (a 1)), (1, .int (nI S)), (3, .int (nI p))]) X.1 X.2.1 dX4_priceOf_28 rfl hl (by decide) rfl (fun ls hl => ?_)
          refine lv_iinc (v := nI (p + 1)) (lv' := [(3, .int (nI (p + 1))), (2, .int (nI (x + (N 2 p)))), (0, .ref (a 1)), (1, .int (nI S))]) X.1 X.2.1 dX4_priceOf_29 hl (k := 3) rfl rn_inc (by decide) rfl (fun ls hl => ?_)
          refine lv_goto (tgt := 4) X.1 X.2.1 dX4_priceOf_32 (by decide) ?_
          exact ih4 (p + 1) _ (by omega) (by omega) (by first | (rw [ln_pri_f h17]; exact hx) | (rw [ln_pri_t h17, hx])) ls (lv_sub hl [2, 3, 1, 0] rfl)
  exact L4 _ 0 0 (Nat.lt_succ_self _) (Nat.zero_le _) rfl ls (lv_sub hl [2, 3, 1, 0] rfl)
set_option maxHeartbeats 4000000 in
set_option maxRecDepth 100000 in
theorem c_X4_weightOnto (l : Launch) (D : va_G) (g : Nat → ClassId) (a : Nat → Nat) (σ : ln_S) (d : Nat) (N : ln_N) (hW : ln_wf N) (hN : ln_nC N σ) (q S : Nat) (hq : q < N 0 0) (hS : S < 4096) (hd : 0 ≤ d) : ln_R l D g (CW a g σ) yX4_weightOnto (.code yX4_weightOnto cX4_weightOnto 6 (some .int)) d [.ref (a 1), .int (nI q), .int (nI S)] (fun r => r = nI (ln_wt N S q (N 0 0))) := by
  have hN12 := hW.n12
  have hp12 := hW.p12
  refine ln_ofR (by decide +kernel) (Nat.le_of_ble_eq_true rfl) (fun prg env rum sta mid args below meth cod ls hr hlk X hP hl => ?_)
  have hl : lv_has ls 6 [(0, .ref (a 1)), (1, .int (nI q)), (2, .int (nI S))] := hl
  generalize hQ0 : (MQ below (vp_Si (fun r => r = nI (ln_wt N S q (N 0 0)))) args sta 0 0 (fun _ => False)) = Q0
  refine lv_iload_n X.1 X.2.1 dX4_weightOnto_0 rfl (lv_at hl 2 rfl) ?_
  refine lv_aload_n X.1 X.2.1 dX4_weightOnto_1 rfl (lv_at hl 0 rfl) ?_
  refine gC_1_7 X hP mF_X4_30 dX4_weightOnto_2 ?_
  refine lv_iload_n X.1 X.2.1 dX4_weightOnto_5 rfl (lv_at hl 1 rfl) ?_
  refine lC_6 X hP (by omega) (v := nI (N 4 q)) (hN.ah (by omega)) dX4_weightOnto_6 ?_
  refine rn_and X dX4_weightOnto_7 ?_
  refine lv_istore_n (lv' := [(3, .int (nI (S &&& (N 4 q)))), (0, .ref (a 1)), (1, .int (nI q)), (2, .int (nI S))]) X.1 X.2.1 dX4_weightOnto_8 rfl hl (by decide) rfl (fun ls hl => ?_)
  refine lv_iconst (v := nI 0) X.1 X.2.1 dX4_weightOnto_9 (by decide) ?_
  refine lv_istore (lv' := [(4, .int (nI 0)), (3, .int (nI (S &&& (N 4 q)))), (0, .ref (a 1)), (1, .int (nI q)), (2, .int (nI S))]) X.1 X.2.1 dX4_weightOnto_10 hl (by decide) rfl (fun ls hl => ?_)
  refine lv_iconst (v := nI 0) X.1 X.2.1 dX4_weightOnto_12 (by decide) ?_
  refine lv_istore (lv' := [(5, .int (nI 0)), (4, .int (nI 0)), (3, .int (nI (S &&& (N 4 q)))), (0, .ref (a 1)), (1, .int (nI q)), (2, .int (nI S))]) X.1 X.2.1 dX4_weightOnto_13 hl (by decide) rfl (fun ls hl => ?_)
  have L15 : ∀ (K : Nat) (p : Nat) (x : Nat), N 0 0 - p < K → p ≤ N 0 0 → x = ln_wt N S q p → ∀ ls : Array Slot, lv_has ls 6 [(0, .ref (a 1)), (1, .int (nI q)), (3, .int (nI (S &&& N 4 q))), (4, .int (nI x)), (5, .int (nI p))] → W prg l env rum sta mid args below meth cod sta.heap [] 0 0 Q0 (F0 mid 15 ls []) := by
    intro K
    induction K with
    | zero => intro p x hm; exact absurd hm (Nat.not_lt_zero _)
    | succ K ih15 =>
      intro p x hm15 hp hx ls hl
      refine lv_iload X.1 X.2.1 dX4_weightOnto_15 (lv_at hl 4 rfl) ?_
      refine lv_aload_n X.1 X.2.1 dX4_weightOnto_17 rfl (lv_at hl 0 rfl) ?_
      refine gC_1_0 X hP (v := nI (N 0 0)) hN.n mF_X4_33 dX4_weightOnto_18 ?_
      refine rn_ge X (by omega) (by omega) (tgt := 58) dX4_weightOnto_21 (by decide) (fun h21 => ?_) (fun h21 => ?_)
      · skip
        refine lv_iload X.1 X.2.1 dX4_weightOnto_58 (lv_at hl 3 rfl) ?_
        subst hQ0
        exact ln_retR X hr hlk rfl (by first | (rw [hx, show p = N 0 0 by omega]) | (rw [hx, ln_wt_stop hW h28 hp])) dX4_weightOnto_60
      · skip
        refine lv_iload_n X.1 X.2.1 dX4_weightOnto_24 rfl (lv_at hl 2 rfl) ?_
        refine lv_iload X.1 X.2.1 dX4_weightOnto_25 (lv_at hl 4 rfl) ?_
        refine rn_shr X (ln_31 (ln_and_lt hS)) (by omega) dX4_weightOnto_27 ?_
        refine rn_eq0 X (ln_31 (ln_shr_lt (ln_and_lt hS))) (tgt := 58) dX4_weightOnto_28 (by decide) (fun h28 => ?_) (fun h28 => ?_)
        · skip
          refine lv_iload X.1 X.2.1 dX4_weightOnto_58 (lv_at hl 3 rfl) ?_
          subst hQ0
          exact ln_retR X hr hlk rfl (by first | (rw [hx, show p = N 0 0 by omega]) | (rw [hx, ln_wt_stop hW h28 hp])) dX4_weightOnto_60
        · skip
          refine lv_iload X.1 X.2.1 dX4_weightOnto_31 (lv_at hl 3 rfl) ?_
          refine lv_iload_n X.1 X.2.1 dX4_weightOnto_33 rfl (lv_at hl 2 rfl) ?_
          refine lv_iload X.1 X.2.1 dX4_weightOnto_34 (lv_at hl 4 rfl) ?_
          refine rn_shr X (ln_31 (ln_and_lt hS)) (by omega) dX4_weightOnto_36 ?_
          refine lv_iconst (v := nI 1) X.1 X.2.1 dX4_weightOnto_37 (by decide) ?_
          refine rn_and X dX4_weightOnto_38 ?_
          refine lv_aload_n X.1 X.2.1 dX4_weightOnto_39 rfl (lv_at hl 0 rfl) ?_
          refine gC_1_5 X hP mF_X4_24 dX4_weightOnto_40 ?_
          refine lv_iload X.1 X.2.1 dX4_weightOnto_43 (lv_at hl 4 rfl) ?_
          refine oC_4 X hP (by omega) dX4_weightOnto_45 ?_
          refine lv_iload_n X.1 X.2.1 dX4_weightOnto_46 rfl (lv_at hl 1 rfl) ?_
          refine lC_r25 X hP (by omega) (by omega) (v := nI (N (5 + p) q)) (hN.w (by omega) (by omega)) dX4_weightOnto_47 ?_
          refine rn_mul X dX4_weightOnto_48 ?_
          refine rn_add X dX4_weightOnto_49 ?_
          refine lv_istore (lv' := [(4, .int (nI (x + ((((S &&& N 4 q) >>> p) &&& 1) * (N (5 + p) q))))), (0, .ref (a 1)), (1, .int (nI q)), (3, .int (nI (S &&& N 4 q))), (5, .int (nI p))]) X.1 X.2.1 dX4_weightOnto_50 hl (by decide) rfl (fun ls hl => ?_)
          refine lv_iinc (v := nI (p + 1)) (lv' := [(5, .int (nI (p + 1))), (4, .int (nI (x + ((((S &&& N 4 q) >>> p) &&& 1) * (N (5 + p) q))))), (0, .ref (a 1)), (1, .int (nI q)), (3, .int (nI (S &&& N 4 q)))]) X.1 X.2.1 dX4_weightOnto_52 hl (k := 4) rfl rn_inc (by decide) rfl (fun ls hl => ?_)
          refine lv_goto (tgt := 15) X.1 X.2.1 dX4_weightOnto_55 (by decide) ?_
          exact ih15 (p + 1) _ (by omega) (by omega) (by rw [hx, ln_shr_and]; exact ln_wt_step hW S q p) ls (lv_sub hl [2, 3, 4, 1, 0] rfl)
  exact L15 _ 0 0 (Nat.lt_succ_self _) (Nat.zero_le _) rfl ls (lv_sub hl [3, 4, 2, 1, 0] rfl)
set_option maxHeartbeats 4000000 in
set_option maxRecDepth 100000 in
theorem c_X10_all (l : Launch) (D : va_G) (g : Nat → ClassId) (a : Nat → Nat) (σ : ln_S) (d : Nat) (N : ln_N) (hW : ln_wf N) (hN : ln_nM N σ)  (hd : 0 ≤ d) : ln_R l D g (MW a g σ) yX10_all (.code yX10_all cX10_all 1 (some .int)) d [.ref (a 0)] (fun r => r = nI (2 ^ N 0 0 - 1)) := by
  have hN12 := hW.n12
  have hp12 := hW.p12
  refine ln_ofR (by decide +kernel) (Nat.le_of_ble_eq_true rfl) (fun prg env rum sta mid args below meth cod ls hr hlk X hP hl => ?_)
  have hl : lv_has ls 1 [(0, .ref (a 0))] := hl
  generalize hQ0 : (MQ below (vp_Si (fun r => r = nI (2 ^ N 0 0 - 1))) args sta 0 0 (fun _ => False)) = Q0
  refine lv_iconst (v := nI 1) X.1 X.2.1 dX10_all_0 (by decide) ?_
  refine lv_aload_n X.1 X.2.1 dX10_all_1 rfl (lv_at hl 0 rfl) ?_
  refine gM_0_0 X hP (v := nI (N 0 0)) hN.n mF_X10_48 dX10_all_2 ?_
  refine rn_shl X (by omega) dX10_all_5 ?_
  refine lv_iconst (v := nI 1) X.1 X.2.1 dX10_all_6 (by decide) ?_
  refine rn_sub X (ln_pos2 _) dX10_all_7 ?_
  subst hQ0
  exact ln_retR X hr hlk rfl rfl dX10_all_8
set_option maxHeartbeats 4000000 in
set_option maxRecDepth 100000 in
theorem c_X10_isPost (l : Launch) (D : va_G) (g : Nat → ClassId) (a : Nat → Nat) (σ : ln_S) (d : Nat) (N : ln_N) (hW : ln_wf N) (hN : ln_nM N σ) (x : Int32) (hd : 1 ≤ d) : ln_R l D g (MW a g σ) yX10_isPost (.code yX10_isPost cX10_isPost 2 (some .boolean)) d [.ref (a 0), .int x] (fun r => r = ln_b (ln_inr x (N 0 0))) := by
  have hN12 := hW.n12
  have hp12 := hW.p12
  refine ln_ofR (by decide +kernel) (Nat.le_of_ble_eq_true rfl) (fun prg env rum sta mid args below meth cod ls hr hlk X hP hl => ?_)
  have hl : lv_has ls 2 [(0, .ref (a 0)), (1, .int x)] := hl
  generalize hQ0 : (MQ below (vp_Si (fun r => r = ln_b (ln_inr x (N 0 0)))) args sta 0 0 (fun _ => False)) = Q0
  refine lv_iload_n X.1 X.2.1 dX10_isPost_0 rfl (lv_at hl 1 rfl) ?_
  refine lv_iconst (v := nI 0) X.1 X.2.1 dX10_isPost_1 (by decide) ?_
  refine lv_aload_n X.1 X.2.1 dX10_isPost_2 rfl (lv_at hl 0 rfl) ?_
  refine gM_0_0 X hP (v := nI (N 0 0)) hN.n mF_X10_48 dX10_isPost_3 ?_
  refine lv_iconst (v := nI 1) X.1 X.2.1 dX10_isPost_6 (by decide) ?_
  refine lv_isub X.1 X.2.1 dX10_isPost_7 ?_
  refine ln_sR X (c_X10_in l D g 0 x (nI 0) ((nI (N 0 0) - nI 1)) (Nat.le_refl _)) ln_nil mM_X10_52 Y_X10_in rfl (by omega) hl.1 rfl (Nat.le_of_ble_eq_true rfl) dX10_isPost_8 ⟨Nat.zero_le _, Nat.zero_le _⟩ (fun r8 hr8 => ?_)
  subst hr8
  refine rn_top (y := ln_b (ln_inr x (N 0 0))) (by rw [show nI 0 = 0 from rfl, ln_in_inr (by omega)]) ?_
  subst hQ0
  exact ln_retR X hr hlk (ln_b_nar _) rfl dX10_isPost_11
set_option maxHeartbeats 4000000 in
set_option maxRecDepth 100000 in
theorem c_X10_isSet (l : Launch) (D : va_G) (g : Nat → ClassId) (a : Nat → Nat) (σ : ln_S) (d : Nat) (N : ln_N) (hW : ln_wf N) (hN : ln_nM N σ) (x : Int32) (hd : 0 ≤ d) : ln_R l D g (MW a g σ) yX10_isSet (.code yX10_isSet cX10_isSet 2 (some .boolean)) d [.ref (a 0), .int x] (fun r => r = ln_b (ln_inr x (2 ^ N 0 0))) := by
  have hN12 := hW.n12
  have hp12 := hW.p12
  refine ln_ofR (by decide +kernel) (Nat.le_of_ble_eq_true rfl) (fun prg env rum sta mid args below meth cod ls hr hlk X hP hl => ?_)
  have hl : lv_has ls 2 [(0, .ref (a 0)), (1, .int x)] := hl
  generalize hQ0 : (MQ below (vp_Si (fun r => r = ln_b (ln_inr x (2 ^ N 0 0)))) args sta 0 0 (fun _ => False)) = Q0
  refine lv_iload_n X.1 X.2.1 dX10_isSet_0 rfl (lv_at hl 1 rfl) ?_
  refine lv_if_lt (tgt := 18) X.1 X.2.1 dX10_isSet_1 (by decide) (fun h1 => ?_) (fun h1 => ?_)
  · skip
    refine lv_iconst (v := nI 0) X.1 X.2.1 dX10_isSet_18 (by decide) ?_
    subst hQ0
    exact ln_retR X hr hlk rfl (by first | (rw [ln_inr_lt h1]; rfl) | (rw [ln_inr_ge (by omega) h11]; rfl) | (rw [ln_inr_in (by omega) h1 h11]; rfl)) dX10_isSet_19
  · skip
    refine lv_iload_n X.1 X.2.1 dX10_isSet_4 rfl (lv_at hl 1 rfl) ?_
    refine lv_iconst (v := nI 1) X.1 X.2.1 dX10_isSet_5 (by decide) ?_
    refine lv_aload_n X.1 X.2.1 dX10_isSet_6 rfl (lv_at hl 0 rfl) ?_
    refine gM_0_0 X hP (v := nI (N 0 0)) hN.n mF_X10_48 dX10_isSet_7 ?_
    refine rn_shl X (by omega) dX10_isSet_10 ?_
    refine lv_icmp_ge (tgt := 18) X.1 X.2.1 dX10_isSet_11 (by decide) (fun h11 => ?_) (fun h11 => ?_)
    · skip
      refine lv_iconst (v := nI 0) X.1 X.2.1 dX10_isSet_18 (by decide) ?_
      subst hQ0
      exact ln_retR X hr hlk rfl (by first | (rw [ln_inr_lt h1]; rfl) | (rw [ln_inr_ge (by omega) h11]; rfl) | (rw [ln_inr_in (by omega) h1 h11]; rfl)) dX10_isSet_19
    · skip
      refine lv_iconst (v := nI 1) X.1 X.2.1 dX10_isSet_14 (by decide) ?_
      refine lv_goto (tgt := 19) X.1 X.2.1 dX10_isSet_15 (by decide) ?_
      subst hQ0
      exact ln_retR X hr hlk rfl (by first | (rw [ln_inr_lt h1]; rfl) | (rw [ln_inr_ge (by omega) h11]; rfl) | (rw [ln_inr_in (by omega) h1 h11]; rfl)) dX10_isSet_19
set_option maxHeartbeats 4000000 in
set_option maxRecDepth 100000 in
theorem c_X10_behind (l : Launch) (D : va_G) (g : Nat → ClassId) (a : Nat → Nat) (σ : ln_S) (d : Nat) (N : ln_N) (hW : ln_wf N) (hN : ln_nM N σ) (p : Nat) (hp : p < 12) (hd : 0 ≤ d) : ln_R l D g (MW a g σ) yX10_behind (.code yX10_behind cX10_behind 2 (some .int)) d [.ref (a 0), .int (nI p)] (fun r => r = nI (N 3 p)) := by
  refine ln_ofR (by decide +kernel) (Nat.le_of_ble_eq_true rfl) (fun prg env rum sta mid args below meth cod ls hr hlk X hP hl => ?_)
  have hl : lv_has ls 2 [(0, .ref (a 0)), (1, .int (nI p))] := hl
  generalize hQ0 : (MQ below (vp_Si (fun r => r = nI (N 3 p))) args sta 0 0 (fun _ => False)) = Q0
  refine lv_aload_n X.1 X.2.1 dX10_behind_0 rfl (lv_at hl 0 rfl) ?_
  refine gM_0_4 X hP mF_X10_19 dX10_behind_1 ?_
  refine lv_iload_n X.1 X.2.1 dX10_behind_4 rfl (lv_at hl 1 rfl) ?_
  refine lM_4 X hP (by omega) (v := nI (N 3 p)) (hN.bh (by omega)) dX10_behind_5 ?_
  subst hQ0
  exact ln_retR X hr hlk rfl rfl dX10_behind_6
set_option maxHeartbeats 4000000 in
set_option maxRecDepth 100000 in
theorem c_X10_ahead (l : Launch) (D : va_G) (g : Nat → ClassId) (a : Nat → Nat) (σ : ln_S) (d : Nat) (N : ln_N) (hW : ln_wf N) (hN : ln_nM N σ) (q : Nat) (hq : q < 12) (hd : 0 ≤ d) : ln_R l D g (MW a g σ) yX10_ahead (.code yX10_ahead cX10_ahead 4 (some .int)) d [.ref (a 0), .int (nI q)] (fun r => r = nI (N 4 q)) := by
  have hN12 := hW.n12
  have hp12 := hW.p12
  refine ln_ofR (by decide +kernel) (Nat.le_of_ble_eq_true rfl) (fun prg env rum sta mid args below meth cod ls hr hlk X hP hl => ?_)
  have hl : lv_has ls 4 [(0, .ref (a 0)), (1, .int (nI q))] := hl
  generalize hQ0 : (MQ below (vp_Si (fun r => r = nI (N 4 q))) args sta 0 0 (fun _ => False)) = Q0
  refine lv_iconst (v := nI 0) X.1 X.2.1 dX10_ahead_0 (by decide) ?_
  refine lv_istore_n (lv' := [(2, .int (nI 0)), (0, .ref (a 0)), (1, .int (nI q))]) X.1 X.2.1 dX10_ahead_1 rfl hl (by decide) rfl (fun ls hl => ?_)
  refine lv_iconst (v := nI 0) X.1 X.2.1 dX10_ahead_2 (by decide) ?_
  refine lv_istore_n (lv' := [(3, .int (nI 0)), (2, .int (nI 0)), (0, .ref (a 0)), (1, .int (nI q))]) X.1 X.2.1 dX10_ahead_3 rfl hl (by decide) rfl (fun ls hl => ?_)
  have L4 : ∀ (K : Nat) (p : Nat) (x : Nat), N 0 0 - p < K → p ≤ N 0 0 → x < 4096 → x = ln_oru (fun i => if 0 < N (5 + i) q then 2 ^ i else 0) p → ∀ ls : Array Slot, lv_has ls 4 [(0, .ref (a 0)), (1, .int (nI q)), (2, .int (nI x)), (3, .int (nI p))] → W prg l env rum sta mid args below meth cod sta.heap [] 0 0 Q0 (F0 mid 4 ls []) := by
    intro K
    induction K with
    | zero => intro p x hm; exact absurd hm (Nat.not_lt_zero _)
    | succ K ih4 =>
      intro p x hm4 hp hxb hx ls hl
      refine lv_iload_n X.1 X.2.1 dX10_ahead_4 rfl (lv_at hl 3 rfl) ?_
      refine lv_aload_n X.1 X.2.1 dX10_ahead_5 rfl (lv_at hl 0 rfl) ?_
      refine gM_0_0 X hP (v := nI (N 0 0)) hN.n mF_X10_48 dX10_ahead_6 ?_
      refine rn_ge X (by omega) (by omega) (tgt := 38) dX10_ahead_9 (by decide) (fun h9 => ?_) (fun h9 => ?_)
      · skip
        refine lv_iload_n X.1 X.2.1 dX10_ahead_38 rfl (lv_at hl 2 rfl) ?_
        subst hQ0
        exact ln_retR X hr hlk rfl (by rw [hx, show p = N 0 0 by omega, ln_ah_ok hW]) dX10_ahead_39
      · skip
        refine lv_aload_n X.1 X.2.1 dX10_ahead_12 rfl (lv_at hl 0 rfl) ?_
        refine gM_0_1 X hP mF_X10_7 dX10_ahead_13 ?_
        refine lv_bipush (v := nI 12) X.1 X.2.1 dX10_ahead_16 (by decide) ?_
        refine lv_iload_n X.1 X.2.1 dX10_ahead_18 rfl (lv_at hl 3 rfl) ?_
        refine rn_mul X dX10_ahead_19 ?_
        refine lv_iload_n X.1 X.2.1 dX10_ahead_20 rfl (lv_at hl 1 rfl) ?_
        refine rn_add X dX10_ahead_21 ?_
        refine lM_1 X hP (by omega) (v := nI (N (5 + p) q)) (hN.w (by omega) hq) dX10_ahead_22 ?_
        refine rn_le0 X (ln_31 (hW.w12 _ _)) (tgt := 32) dX10_ahead_23 (by decide) (fun h23 => ?_) (fun h23 => ?_)
        · skip
          refine lv_iinc (v := nI (p + 1)) (lv' := [(3, .int (nI (p + 1))), (0, .ref (a 0)), (1, .int (nI q)), (2, .int (nI x))]) X.1 X.2.1 dX10_ahead_32 hl (k := 3) rfl rn_inc (by decide) rfl (fun ls hl => ?_)
          refine lv_goto (tgt := 4) X.1 X.2.1 dX10_ahead_35 (by decide) ?_
          exact ih4 (p + 1) _ (by omega) (by omega) (by first | exact hxb | exact ln_or12 hxb (ln_p12 (by omega))) (by rw [hx]; first | exact ln_ah_step h23 | exact ln_ah_step2 h23) ls (lv_sub hl [1, 2, 3, 0] rfl)
        · skip
          refine lv_iload_n X.1 X.2.1 dX10_ahead_26 rfl (lv_at hl 2 rfl) ?_
          refine lv_iconst (v := nI 1) X.1 X.2.1 dX10_ahead_27 (by decide) ?_
          refine lv_iload_n X.1 X.2.1 dX10_ahead_28 rfl (lv_at hl 3 rfl) ?_
          refine rn_shl X (by omega) dX10_ahead_29 ?_
          refine rn_or X dX10_ahead_30 ?_
          refine lv_istore_n (lv' := [(2, .int (nI (x ||| (2 ^ p)))), (0, .ref (a 0)), (1, .int (nI q)), (3, .int (nI p))]) X.1 X.2.1 dX10_ahead_31 rfl hl (by decide) rfl (fun ls hl => ?_)
          refine lv_iinc (v := nI (p + 1)) (lv' := [(3, .int (nI (p + 1))), (2, .int (nI (x ||| (2 ^ p)))), (0, .ref (a 0)), (1, .int (nI q))]) X.1 X.2.1 dX10_ahead_32 hl (k := 3) rfl rn_inc (by decide) rfl (fun ls hl => ?_)
          refine lv_goto (tgt := 4) X.1 X.2.1 dX10_ahead_35 (by decide) ?_
          exact ih4 (p + 1) _ (by omega) (by omega) (by first | exact hxb | exact ln_or12 hxb (ln_p12 (by omega))) (by rw [hx]; first | exact ln_ah_step h23 | exact ln_ah_step2 h23) ls (lv_sub hl [2, 3, 1, 0] rfl)
  exact L4 _ 0 0 (Nat.lt_succ_self _) (Nat.zero_le _) (by decide) rfl ls (lv_sub hl [2, 3, 1, 0] rfl)
set_option maxHeartbeats 4000000 in
set_option maxRecDepth 100000 in
theorem c_X10_allBehind (l : Launch) (D : va_G) (g : Nat → ClassId) (a : Nat → Nat) (σ : ln_S) (d : Nat) (N : ln_N) (hW : ln_wf N) (hN : ln_nM N σ) (S : Nat) (hS : S < 4096) (hd : 1 ≤ d) : ln_R l D g (MW a g σ) yX10_allBehind (.code yX10_allBehind cX10_allBehind 4 (some .int)) d [.ref (a 0), .int (nI S)] (fun r => r = nI (ln_bhs N S (N 0 0))) := by
  have hN12 := hW.n12
  have hp12 := hW.p12
  refine ln_ofR (by decide +kernel) (Nat.le_of_ble_eq_true rfl) (fun prg env rum sta mid args below meth cod ls hr hlk X hP hl => ?_)
  have hl : lv_has ls 4 [(0, .ref (a 0)), (1, .int (nI S))] := hl
  generalize hQ0 : (MQ below (vp_Si (fun r => r = nI (ln_bhs N S (N 0 0)))) args sta 0 0 (fun _ => False)) = Q0
  refine lv_iconst (v := nI 0) X.1 X.2.1 dX10_allBehind_0 (by decide) ?_
  refine lv_istore_n (lv' := [(2, .int (nI 0)), (0, .ref (a 0)), (1, .int (nI S))]) X.1 X.2.1 dX10_allBehind_1 rfl hl (by decide) rfl (fun ls hl => ?_)
  refine lv_iconst (v := nI 0) X.1 X.2.1 dX10_allBehind_2 (by decide) ?_
  refine lv_istore_n (lv' := [(3, .int (nI 0)), (2, .int (nI 0)), (0, .ref (a 0)), (1, .int (nI S))]) X.1 X.2.1 dX10_allBehind_3 rfl hl (by decide) rfl (fun ls hl => ?_)
  have L4 : ∀ (K : Nat) (p : Nat) (x : Nat), N 0 0 - p < K → p ≤ N 0 0 → x < 4096 → x = ln_bhs N S p → ∀ ls : Array Slot, lv_has ls 4 [(0, .ref (a 0)), (1, .int (nI S)), (2, .int (nI x)), (3, .int (nI p))] → W prg l env rum sta mid args below meth cod sta.heap [] 0 0 Q0 (F0 mid 4 ls []) := by
    intro K
    induction K with
    | zero => intro p x hm; exact absurd hm (Nat.not_lt_zero _)
    | succ K ih4 =>
      intro p x hm4 hp hxb hx ls hl
      refine lv_iload_n X.1 X.2.1 dX10_allBehind_4 rfl (lv_at hl 3 rfl) ?_
      refine lv_aload_n X.1 X.2.1 dX10_allBehind_5 rfl (lv_at hl 0 rfl) ?_
      refine gM_0_0 X hP (v := nI (N 0 0)) hN.n mF_X10_48 dX10_allBehind_6 ?_
      refine rn_ge X (by omega) (by omega) (tgt := 35) dX10_allBehind_9 (by decide) (fun h9 => ?_) (fun h9 => ?_)
      · skip
        refine lv_iload_n X.1 X.2.1 dX10_allBehind_35 rfl (lv_at hl 2 rfl) ?_
        subst hQ0
        exact ln_retR X hr hlk rfl (by rw [hx, show p = N 0 0 by omega]) dX10_allBehind_36
      · skip
        refine lv_iload_n X.1 X.2.1 dX10_allBehind_12 rfl (lv_at hl 1 rfl) ?_
        refine lv_iload_n X.1 X.2.1 dX10_allBehind_13 rfl (lv_at hl 3 rfl) ?_
        refine ln_sR X (c_X10_has l D g 0 S p (ln_31 hS) (by omega) (Nat.le_refl _)) ln_nil mM_X10_70 Y_X10_has rfl (by omega) hl.1 rfl (Nat.le_of_ble_eq_true rfl) dX10_allBehind_14 ⟨Nat.zero_le _, Nat.zero_le _⟩ (fun r14 hr14 => ?_)
        subst hr14
        refine rn_eqB X (tgt := 29) dX10_allBehind_17 (by decide) (fun h17 => ?_) (fun h17 => ?_)
        · skip
          refine lv_iinc (v := nI (p + 1)) (lv' := [(3, .int (nI (p + 1))), (0, .ref (a 0)), (1, .int (nI S)), (2, .int (nI x))]) X.1 X.2.1 dX10_allBehind_29 hl (k := 3) rfl rn_inc (by decide) rfl (fun ls hl => ?_)
          refine lv_goto (tgt := 4) X.1 X.2.1 dX10_allBehind_32 (by decide) ?_
          exact ih4 (p + 1) _ (by omega) (by omega) (by first | exact hxb | exact ln_or12 hxb (hW.bh12 _)) (by first | (rw [ln_bhs_f h17]; exact hx) | (rw [ln_bhs_t h17, hx])) ls (lv_sub hl [1, 2, 3, 0] rfl)
        · skip
          refine lv_iload_n X.1 X.2.1 dX10_allBehind_20 rfl (lv_at hl 2 rfl) ?_
          refine lv_aload_n X.1 X.2.1 dX10_allBehind_21 rfl (lv_at hl 0 rfl) ?_
          refine gM_0_4 X hP mF_X10_19 dX10_allBehind_22 ?_
          refine lv_iload_n X.1 X.2.1 dX10_allBehind_25 rfl (lv_at hl 3 rfl) ?_
          refine lM_4 X hP (by omega) (v := nI (N 3 p)) (hN.bh (by omega)) dX10_allBehind_26 ?_
          refine rn_or X dX10_allBehind_27 ?_
          refine lv_istore_n (lv' := [(2, .int (nI (x ||| (N 3 p)))), (0, .ref (a 0)), (1, .int (nI S)), (3, .int (nI p))]) X.1 X.2.1 dX10_allBehind_28 rfl hl (by decide) rfl (fun ls hl => ?_)
          refine lv_iinc (v := nI (p + 1)) (lv' := [(3, .int (nI (p + 1))), (2, .int (nI (x ||| (N 3 p)))), (0, .ref (a 0)), (1, .int (nI S))]) X.1 X.2.1 dX10_allBehind_29 hl (k := 3) rfl rn_inc (by decide) rfl (fun ls hl => ?_)
          refine lv_goto (tgt := 4) X.1 X.2.1 dX10_allBehind_32 (by decide) ?_
          exact ih4 (p + 1) _ (by omega) (by omega) (by first | exact hxb | exact ln_or12 hxb (hW.bh12 _)) (by first | (rw [ln_bhs_f h17]; exact hx) | (rw [ln_bhs_t h17, hx])) ls (lv_sub hl [2, 3, 1, 0] rfl)
  exact L4 _ 0 0 (Nat.lt_succ_self _) (Nat.zero_le _) (by decide) rfl ls (lv_sub hl [2, 3, 1, 0] rfl)
end
section
def ln_tBf (N : ln_N) (S p : Nat) : Nat := if S.testBit p = false ∧ N 1 p ≤ ln_wt N S p (N 0 0) then 2 ^ p else 0
def ln_tB (N : ln_N) (S : Nat) : Nat := S ||| ln_oru (ln_tBf N S) (N 0 0)
def ln_off (N : ln_N) (S q : Nat) : Nat := ln_df (N 3 q) S
def ln_tFf (N : ln_N) (S q : Nat) : Nat := if S.testBit q = true ∧ ln_off N S q &&& (ln_off N S q - 1) = 0 then ln_off N S q else 0
def ln_tF (N : ln_N) (S : Nat) : Nat := S ||| ln_oru (ln_tFf N S) (N 0 0)
def ln_tp (N : ln_N) (r S : Nat) : Nat := if r = 0 then ln_tB N S else ln_tF N S
def ln_tk (N : ln_N) (r t S : Nat) : Nat := if r = 2 ∧ t = 1 then ln_wb N S else ln_tp N r S
theorem ln_or0 {f : Nat → Nat} {k x S : Nat} (hx : x = S ||| ln_oru f k) (h : f k = 0) : x = S ||| ln_oru f (k + 1) := by
  show x = S ||| (ln_oru f k ||| f k)
  rw [h, Nat.or_zero]; exact hx
theorem ln_or1 {f : Nat → Nat} {k x S v : Nat} (hx : x = S ||| ln_oru f k) (h : f k = v) : x ||| v = S ||| ln_oru f (k + 1) := by
  show x ||| v = S ||| (ln_oru f k ||| f k)
  rw [h, ← Nat.or_assoc, ← hx]
theorem ln_tBf_a {N : ln_N} {S p : Nat} (h : S.testBit p = true) : ln_tBf N S p = 0 := if_neg (fun q => by rw [h] at q; exact absurd q.1 (by decide))
theorem ln_tBf_b {N : ln_N} {S p : Nat} (h : ln_wt N S p (N 0 0) < N 1 p) : ln_tBf N S p = 0 := if_neg (fun q => by have := q.2; omega)
theorem ln_tBf_c {N : ln_N} {S p : Nat} (h : S.testBit p = false) (h2 : N 1 p ≤ ln_wt N S p (N 0 0)) : ln_tBf N S p = 2 ^ p := if_pos ⟨h, h2⟩
theorem ln_tFf_a {N : ln_N} {S q : Nat} (h : S.testBit q = false) : ln_tFf N S q = 0 := if_neg (fun z => by rw [h] at z; exact absurd z.1 (by decide))
theorem ln_tFf_b {N : ln_N} {S q : Nat} (h : ln_off N S q &&& (ln_off N S q - 1) ≠ 0) : ln_tFf N S q = 0 := if_neg (fun z => h z.2)
theorem ln_tFf_c {N : ln_N} {S q : Nat} (h : S.testBit q = true) (h2 : ln_off N S q &&& (ln_off N S q - 1) = 0) : ln_tFf N S q = ln_off N S q := if_pos ⟨h, h2⟩
theorem ln_tFf_d {N : ln_N} {S q : Nat} (h : ln_off N S q = 0) : ln_tFf N S q = 0 := by unfold ln_tFf; rw [h]; split <;> rfl
theorem ln_df12 {a b : Nat} (h : a < 4096) : ln_df a b < 4096 := ln_df_lt h
theorem ln_oru_lt2 {f : Nat → Nat} {n : Nat} : ∀ {K : Nat}, (∀ k, k < K → f k < 2 ^ n) → ln_oru f K < 2 ^ n
  | 0, _ => ln_pos2 n
  | K + 1, h => Nat.or_lt_two_pow (ln_oru_lt2 (fun k hk => h k (by omega))) (h K (by omega))
theorem ln_tBf_lt {N : ln_N} {S p : Nat} (h : p < N 0 0) : ln_tBf N S p < 2 ^ N 0 0 := by
  unfold ln_tBf; split
  · exact Nat.pow_lt_pow_right (by decide) h
  · exact ln_pos2 _
theorem ln_tFf_lt {N : ln_N} (hW : ln_wf N) (S q : Nat) : ln_tFf N S q < 2 ^ N 0 0 := by
  unfold ln_tFf; split
  · exact ln_df_lt (hW.bhn q)
  · exact ln_pos2 _
theorem ln_tB_lt {N : ln_N} {S : Nat} (hS : S < 2 ^ N 0 0) : ln_tB N S < 2 ^ N 0 0 := Nat.or_lt_two_pow hS (ln_oru_lt2 (fun _ hk => ln_tBf_lt hk))
theorem ln_tF_lt {N : ln_N} (hW : ln_wf N) {S : Nat} (hS : S < 2 ^ N 0 0) : ln_tF N S < 2 ^ N 0 0 := Nat.or_lt_two_pow hS (ln_oru_lt2 (fun k _ => ln_tFf_lt hW S k))
theorem ln_tp_lt {N : ln_N} (hW : ln_wf N) (r : Nat) {S : Nat} (hS : S < 2 ^ N 0 0) : ln_tp N r S < 2 ^ N 0 0 := by
  unfold ln_tp; split
  · exact ln_tB_lt hS
  · exact ln_tF_lt hW hS
theorem ln_tk_lt {N : ln_N} (hW : ln_wf N) (r t : Nat) {S : Nat} (hS : S < 2 ^ N 0 0) : ln_tk N r t S < 2 ^ N 0 0 := by
  unfold ln_tk; split
  · exact ln_wb_lt hW hS
  · exact ln_tp_lt hW r hS
theorem ln_n12 {N : ln_N} (hW : ln_wf N) {S : Nat} (hS : S < 2 ^ N 0 0) : S < 4096 := Nat.lt_of_lt_of_le hS hW.p12
/-- the course of a rule -/
def ln_st (N : ln_N) (r S : Nat) : Nat → Nat
  | 0 => S
  | t + 1 => ln_tk N r (t + 1) (ln_st N r S t)
theorem ln_st_lt {N : ln_N} (hW : ln_wf N) (r : Nat) {S : Nat} (hS : S < 2 ^ N 0 0) : ∀ t, ln_st N r S t < 2 ^ N 0 0
  | 0 => hS
  | t + 1 => ln_tk_lt hW r (t + 1) (ln_st_lt hW r hS t)
theorem ln_st12 {N : ln_N} (hW : ln_wf N) (r : Nat) {S : Nat} (hS : S < 2 ^ N 0 0) (t : Nat) : ln_st N r S t < 4096 := ln_n12 hW (ln_st_lt hW r hS t)
def ln_end (N : ln_N) (r S : Nat) : Nat := ln_st N r S 13
def ln_lc (f : Nat → Nat) : Nat → Nat
  | 0 => 0
  | k + 1 => if f (k + 1) = f k then ln_lc f k else k + 1
def ln_et (N : ln_N) (r S : Nat) : Nat := ln_lc (ln_st N r S) 13
theorem ln_lc_le (f : Nat → Nat) : ∀ k, ln_lc f k ≤ k
  | 0 => Nat.le_refl 0
  | k + 1 => by
    have h := ln_lc_le f k
    show (if f (k + 1) = f k then ln_lc f k else k + 1) ≤ k + 1
    split <;> omega
theorem ln_lc_at (f : Nat → Nat) : ∀ k, f (ln_lc f k) = f k
  | 0 => rfl
  | k + 1 => by
    show f (if f (k + 1) = f k then ln_lc f k else k + 1) = f (k + 1)
    split
    · rename_i h; rw [ln_lc_at f k, h]
    · rfl
theorem ln_lc_s {f : Nat → Nat} {k : Nat} (h : f (k + 1) = f k) : ln_lc f (k + 1) = ln_lc f k := if_pos h
theorem ln_lc_n {f : Nat → Nat} {k : Nat} (h : f (k + 1) ≠ f k) : ln_lc f (k + 1) = k + 1 := if_neg h
theorem ln_lc_stab {f : Nat → Nat} {k : Nat} (h : ∀ j, k ≤ j → f (j + 1) = f j) : ∀ m, ln_lc f (k + m) = ln_lc f k
  | 0 => rfl
  | m + 1 => by rw [← Nat.add_assoc, ln_lc_s (h _ (by omega)), ln_lc_stab h m]
theorem ln_et13 (N : ln_N) (r S : Nat) : ln_et N r S ≤ 13 := ln_lc_le _ 13
theorem ln_st_et (N : ln_N) (r S : Nat) : ln_st N r S (ln_et N r S) = ln_end N r S := ln_lc_at _ 13
theorem ln_st_stab {N : ln_N} {r S j : Nat} (hj : r ≠ 2 ∨ 1 ≤ j) (h : ln_st N r S (j + 1) = ln_st N r S j) : ∀ k, j ≤ k → ln_st N r S (k + 1) = ln_st N r S k := by
  intro k hk
  induction k with
  | zero => rw [show j = 0 by omega] at h; exact h
  | succ k ih =>
    by_cases hjk : j = k + 1
    · rw [← hjk]; exact h
    · have h1 := ih (by omega)
      show ln_tk N r (k + 1 + 1) (ln_st N r S (k + 1)) = ln_st N r S (k + 1)
      rw [h1]
      show ln_tk N r (k + 1 + 1) (ln_st N r S k) = ln_st N r S k
      have h2 : ln_tk N r (k + 1) (ln_st N r S k) = ln_st N r S k := h1
      have h3 : ln_tk N r (k + 1 + 1) (ln_st N r S k) = ln_tk N r (k + 1) (ln_st N r S k) := by
        unfold ln_tk
        rw [if_neg (by omega), if_neg (by omega)]
      rw [h3, h2]
def ln_sb (a b : Nat) : Prop := ∀ i, a.testBit i = true → b.testBit i = true
theorem ln_sb_or (a b : Nat) : ln_sb a (a ||| b) := fun i h => by rw [Nat.testBit_or, h]; rfl
theorem ln_sb_tk (N : ln_N) (r t S : Nat) : ln_sb S (ln_tk N r t S) := by
  unfold ln_tk ln_tp; split
  · exact ln_sb_or _ _
  · split <;> exact ln_sb_or _ _
theorem ln_ct_mono {f g : Nat → Bool} (h : ∀ i, f i = true → g i = true) : ∀ n, ln_ct f n ≤ ln_ct g n
  | 0 => Nat.le_refl 0
  | n + 1 => by
    have h1 := ln_ct_mono h n
    show ln_ct f n + (if f n then 1 else 0) ≤ ln_ct g n + (if g n then 1 else 0)
    cases hf : f n with
    | false => simp; split <;> omega
    | true => rw [h n hf]; simpa using h1
theorem ln_ct_lt {f g : Nat → Bool} (h : ∀ i, f i = true → g i = true) {i : Nat} (hf : f i = false) (hg : g i = true) : ∀ {n : Nat}, i < n → ln_ct f n < ln_ct g n
  | 0, hi => absurd hi (Nat.not_lt_zero i)
  | n + 1, hi => by
    show ln_ct f n + (if f n then 1 else 0) < ln_ct g n + (if g n then 1 else 0)
    by_cases hn : i = n
    · subst hn
      have h1 := ln_ct_mono h i
      rw [hf, hg]; simp; omega
    · have h1 := ln_ct_lt h hf hg (show i < n by omega)
      cases hfn : f n with
      | false => simp; split <;> omega
      | true => rw [h n hfn]; simpa using h1
theorem ln_pc_lt {S T : Nat} (h : ln_sb S T) (hT : T < 4096) (hne : S ≠ T) : ln_pc S < ln_pc T := by
  have : ∃ i, S.testBit i = false ∧ T.testBit i = true := by
    refine Classical.byContradiction (fun hn => hne ?_)
    apply Nat.eq_of_testBit_eq
    intro i
    cases hs : S.testBit i with
    | true => rw [h i hs]
    | false =>
      cases ht : T.testBit i with
      | false => rfl
      | true => exact absurd ⟨i, hs, ht⟩ hn
  obtain ⟨i, h1, h2⟩ := this
  have hi : i < 12 := by
    refine Classical.byContradiction (fun q => ?_)
    rw [Nat.testBit_lt_two_pow (Nat.lt_of_lt_of_le hT (Nat.pow_le_pow_right (n := 2) (by decide) (show 12 ≤ i by omega)))] at h2
    exact absurd h2 (by decide)
  exact ln_ct_lt h h1 h2 hi
theorem ln_tF0 (N : ln_N) : ln_tF N 0 = 0 := by
  unfold ln_tF
  rw [Nat.zero_or]
  have : ∀ k, ln_oru (ln_tFf N 0) k = 0 := by
    intro k
    induction k with
    | zero => rfl
    | succ k ih => show ln_oru (ln_tFf N 0) k ||| ln_tFf N 0 k = 0; rw [ih, ln_tFf_a (Nat.zero_testBit k)]; rfl
  exact this _
theorem ln_pc0 {S : Nat} (hS : S < 4096) (h : ln_pc S = 0) : S = 0 := by
  refine Classical.byContradiction (fun hn => ?_)
  have := ln_pc_lt (S := 0) (T := S) (fun i q => by rw [Nat.zero_testBit] at q; exact absurd q (by decide)) hS (fun q => hn q.symm)
  omega
theorem ln_st_grow {N : ln_N} (hW : ln_wf N) {r S : Nat} (hS : S < 2 ^ N 0 0) (j0 : Nat) (hj : r ≠ 2 ∨ 1 ≤ j0) (m : Nat) (h : ln_st N r S (j0 + m + 1) ≠ ln_st N r S (j0 + m)) : ln_pc (ln_st N r S j0) + m + 1 ≤ ln_pc (ln_st N r S (j0 + m + 1)) := by
  have key : ∀ k, k ≤ m → ln_pc (ln_st N r S j0) + k + 1 ≤ ln_pc (ln_st N r S (j0 + k + 1)) := by
    intro k hk
    have hne : ln_st N r S (j0 + k) ≠ ln_st N r S (j0 + k + 1) := fun q => by
      refine h (ln_st_stab (j := j0 + k) (by omega) q.symm (j0 + m) (by omega))
    have hlt := ln_pc_lt (S := ln_st N r S (j0 + k)) (T := ln_st N r S (j0 + k + 1)) (ln_sb_tk N r _ _) (ln_st12 hW r hS _) hne
    induction k with
    | zero => exact Nat.succ_le_of_lt (by simpa using hlt)
    | succ k ih =>
      have h1 := ih (by omega) (fun q => h (ln_st_stab (j := j0 + k) (by omega) q.symm (j0 + m) (by omega)))
        (ln_pc_lt (S := ln_st N r S (j0 + k)) (T := ln_st N r S (j0 + k + 1)) (ln_sb_tk N r _ _) (ln_st12 hW r hS _) (fun q => h (ln_st_stab (j := j0 + k) (by omega) q.symm (j0 + m) (by omega))))
      rw [show j0 + (k + 1) = j0 + k + 1 by omega] at hlt ⊢
      omega
  exact key m (Nat.le_refl m)
theorem ln_st_fix {N : ln_N} (hW : ln_wf N) {r S : Nat} (hS : S < 2 ^ N 0 0) : ∀ k, 12 ≤ k → ln_st N r S (k + 1) = ln_st N r S k := by
  have h12 : ln_st N r S 13 = ln_st N r S 12 := by
    refine Classical.byContradiction (fun hn => ?_)
    by_cases hr : r = 2
    · have h1 := ln_st_grow hW hS 1 (Or.inr (Nat.le_refl 1)) 11 hn
      have h2 := ln_pc_le (ln_st N r S (1 + 11 + 1))
      have h0 : ln_st N r S 1 = 0 := ln_pc0 (ln_st12 hW r hS 1) (by omega)
      have h3 : ln_st N r S 2 = ln_st N r S 1 := by
        show ln_tk N r 2 (ln_st N r S 1) = _
        rw [h0]
        unfold ln_tk ln_tp
        rw [if_neg (by omega), if_neg (by omega), ln_tF0]
      exact hn (ln_st_stab (j := 1) (Or.inr (Nat.le_refl 1)) h3 12 (by decide))
    · have h1 := ln_st_grow hW hS 0 (Or.inl hr) 12 (by simpa using hn)
      have h2 := ln_pc_le (ln_st N r S (0 + 12 + 1))
      omega
  intro k hk
  exact ln_st_stab (j := 12) (Or.inr (by decide)) h12 k hk
theorem ln_st_const {N : ln_N} {r S j : Nat} (h : ∀ k, j ≤ k → ln_st N r S (k + 1) = ln_st N r S k) : ∀ m, ln_st N r S (j + m) = ln_st N r S j
  | 0 => rfl
  | m + 1 => by rw [← Nat.add_assoc, h _ (by omega), ln_st_const h m]
/-- a stop at t: all is as at the end -/
theorem ln_stop {N : ln_N} {r S t : Nat} (ht : t ≤ 12) (hr : r ≠ 2 ∨ 1 ≤ t) (h : ln_st N r S (t + 1) = ln_st N r S t) : ln_lc (ln_st N r S) t = ln_et N r S ∧ ln_st N r S t = ln_end N r S := by
  have h1 := ln_st_stab hr h
  have h2 := ln_lc_stab h1 (13 - t)
  have h3 := ln_st_const h1 (13 - t)
  rw [show t + (13 - t) = 13 by omega] at h2 h3
  exact ⟨h2.symm, h3.symm⟩
/-- what a course leaves in its row -/
def ln_ran (N : ln_N) (r S : Nat) (f : Nat → Int32) (e : Int32) : Prop := e = nI (ln_et N r S) ∧ ∀ j, j ≤ ln_et N r S → f j = nI (ln_st N r S j)
theorem ln_nC.of {N : ln_N} {σ τ : ln_S} (h : ln_nC N σ) (ho : ∀ c, c < 7 ∨ (25 ≤ c ∧ c < 37) → τ c = σ c) : ln_nC N τ := by
  refine ⟨by rw [ho 1 (by omega)]; exact h.1, fun p hp => ?_⟩
  rw [ho 2 (by omega), ho 3 (by omega), ho 5 (by omega), ho 6 (by omega), ho (25 + p) (by omega)]
  exact h.2 p hp
theorem ln_nM.of {N : ln_N} {σ τ : ln_S} (h : ln_nM N σ) (h0 : τ 0 0 = σ 0 0) (ho : ∀ c, 1 ≤ c → c < 5 → τ c = σ c) : ln_nM N τ := by
  refine ⟨by rw [h0]; exact h.1, fun p hp => ?_⟩
  rw [ho 1 (by omega) (by omega), ho 2 (by omega) (by omega), ho 3 (by omega) (by omega), ho 4 (by omega) (by omega)]
  exact h.2 p hp
set_option maxHeartbeats 4000000 in
set_option maxRecDepth 100000 in
theorem c_J6_bitCount_0f7a4 (l : Launch) (D : va_G) (g : Nat → ClassId) (d : Nat) (S : Nat) (hS : S < 4096) (hd : 0 ≤ d) : ln_R l D g [] yJ6_bitCount_0f7a4 (.code yJ6_bitCount_0f7a4 cJ6_bitCount_0f7a4 1 (some .int)) d [.int (nI S)] (fun r => r = nI (ln_pc S)) := by
  refine ln_ofR (by decide +kernel) (Nat.le_of_ble_eq_true rfl) (fun prg env rum sta mid args below meth cod ls hr hlk X hP hl => ?_)
  have hl : lv_has ls 1 [(0, .int (nI S))] := hl
  generalize hQ0 : (MQ below (vp_Si (fun r => r = nI (ln_pc S))) args sta 0 0 (fun _ => False)) = Q0
  refine lv_iload_n X.1 X.2.1 dJ6_bitCount_0f7a4_0 rfl (lv_at hl 0 rfl) ?_
  refine lv_iload_n X.1 X.2.1 dJ6_bitCount_0f7a4_1 rfl (lv_at hl 0 rfl) ?_
  refine lv_iconst (v := nI 1) X.1 X.2.1 dJ6_bitCount_0f7a4_2 (by decide) ?_
  refine lv_iushr (v := ((nI S).toUInt32 >>> ((nI 1).toUInt32 &&& Int32.toUInt32 31)).toInt32) X.1 X.2.1 dJ6_bitCount_0f7a4_3 rfl ?_
  refine lv_ldcw (v := 1431655765) X.1 X.2.1 X.2.2.2.1 (X.ts args mK_J6_265 rfl) dJ6_bitCount_0f7a4_4 ?_
  refine lv_iand X.1 X.2.1 dJ6_bitCount_0f7a4_7 ?_
  refine lv_isub X.1 X.2.1 dJ6_bitCount_0f7a4_8 ?_
  refine lv_topi (fun x1 e1 => ?_)
  refine lv_istore_n (lv' := [(0, .int x1)]) X.1 X.2.1 dJ6_bitCount_0f7a4_9 rfl hl (by decide) rfl (fun ls hl => ?_)
  refine lv_iload_n X.1 X.2.1 dJ6_bitCount_0f7a4_10 rfl (lv_at hl 0 rfl) ?_
  refine lv_ldcw (v := 858993459) X.1 X.2.1 X.2.2.2.1 (X.ts args mK_J6_266 rfl) dJ6_bitCount_0f7a4_11 ?_
  refine lv_iand X.1 X.2.1 dJ6_bitCount_0f7a4_14 ?_
  refine lv_iload_n X.1 X.2.1 dJ6_bitCount_0f7a4_15 rfl (lv_at hl 0 rfl) ?_
  refine lv_iconst (v := nI 2) X.1 X.2.1 dJ6_bitCount_0f7a4_16 (by decide) ?_
  refine lv_iushr (v := (x1.toUInt32 >>> ((nI 2).toUInt32 &&& Int32.toUInt32 31)).toInt32) X.1 X.2.1 dJ6_bitCount_0f7a4_17 rfl ?_
  refine lv_ldcw (v := 858993459) X.1 X.2.1 X.2.2.2.1 (X.ts args mK_J6_266 rfl) dJ6_bitCount_0f7a4_18 ?_
  refine lv_iand X.1 X.2.1 dJ6_bitCount_0f7a4_21 ?_
  refine lv_iadd X.1 X.2.1 dJ6_bitCount_0f7a4_22 ?_
  refine lv_topi (fun x2 e2 => ?_)
  refine lv_istore_n (lv' := [(0, .int x2)]) X.1 X.2.1 dJ6_bitCount_0f7a4_23 rfl hl (by decide) rfl (fun ls hl => ?_)
  refine lv_iload_n X.1 X.2.1 dJ6_bitCount_0f7a4_24 rfl (lv_at hl 0 rfl) ?_
  refine lv_iload_n X.1 X.2.1 dJ6_bitCount_0f7a4_25 rfl (lv_at hl 0 rfl) ?_
  refine lv_iconst (v := nI 4) X.1 X.2.1 dJ6_bitCount_0f7a4_26 (by decide) ?_
  refine lv_iushr (v := (x2.toUInt32 >>> ((nI 4).toUInt32 &&& Int32.toUInt32 31)).toInt32) X.1 X.2.1 dJ6_bitCount_0f7a4_27 rfl ?_
  refine lv_iadd X.1 X.2.1 dJ6_bitCount_0f7a4_28 ?_
  refine lv_ldcw (v := 252645135) X.1 X.2.1 X.2.2.2.1 (X.ts args mK_J6_267 rfl) dJ6_bitCount_0f7a4_29 ?_
  refine lv_iand X.1 X.2.1 dJ6_bitCount_0f7a4_32 ?_
  refine lv_topi (fun x3 e3 => ?_)
  refine lv_istore_n (lv' := [(0, .int x3)]) X.1 X.2.1 dJ6_bitCount_0f7a4_33 rfl hl (by decide) rfl (fun ls hl => ?_)
  refine lv_iload_n X.1 X.2.1 dJ6_bitCount_0f7a4_34 rfl (lv_at hl 0 rfl) ?_
  refine lv_iload_n X.1 X.2.1 dJ6_bitCount_0f7a4_35 rfl (lv_at hl 0 rfl) ?_
  refine lv_bipush (v := nI 8) X.1 X.2.1 dJ6_bitCount_0f7a4_36 (by decide) ?_
  refine lv_iushr (v := (x3.toUInt32 >>> ((nI 8).toUInt32 &&& Int32.toUInt32 31)).toInt32) X.1 X.2.1 dJ6_bitCount_0f7a4_38 rfl ?_
  refine lv_iadd X.1 X.2.1 dJ6_bitCount_0f7a4_39 ?_
  refine lv_topi (fun x4 e4 => ?_)
  refine lv_istore_n (lv' := [(0, .int x4)]) X.1 X.2.1 dJ6_bitCount_0f7a4_40 rfl hl (by decide) rfl (fun ls hl => ?_)
  refine lv_iload_n X.1 X.2.1 dJ6_bitCount_0f7a4_41 rfl (lv_at hl 0 rfl) ?_
  refine lv_iload_n X.1 X.2.1 dJ6_bitCount_0f7a4_42 rfl (lv_at hl 0 rfl) ?_
  refine lv_bipush (v := nI 16) X.1 X.2.1 dJ6_bitCount_0f7a4_43 (by decide) ?_
  refine lv_iushr (v := (x4.toUInt32 >>> ((nI 16).toUInt32 &&& Int32.toUInt32 31)).toInt32) X.1 X.2.1 dJ6_bitCount_0f7a4_45 rfl ?_
  refine lv_iadd X.1 X.2.1 dJ6_bitCount_0f7a4_46 ?_
  refine lv_topi (fun x5 e5 => ?_)
  refine lv_istore_n (lv' := [(0, .int x5)]) X.1 X.2.1 dJ6_bitCount_0f7a4_47 rfl hl (by decide) rfl (fun ls hl => ?_)
  refine lv_iload_n X.1 X.2.1 dJ6_bitCount_0f7a4_48 rfl (lv_at hl 0 rfl) ?_
  refine lv_bipush (v := nI 63) X.1 X.2.1 dJ6_bitCount_0f7a4_49 (by decide) ?_
  refine lv_iand X.1 X.2.1 dJ6_bitCount_0f7a4_51 ?_
  subst e5 e4 e3 e2 e1
  subst hQ0
  exact ln_retR X hr hlk rfl (ln_bc_ok hS) dJ6_bitCount_0f7a4_52
set_option maxHeartbeats 4000000 in
set_option maxRecDepth 100000 in
theorem c_X6_afterTickOfBars (l : Launch) (D : va_G) (g : Nat → ClassId) (a : Nat → Nat) (σ : ln_S) (d : Nat) (N : ln_N) (hW : ln_wf N) (hN : ln_nC N σ) (S : Nat) (hS : S < 4096) (hd : 1 ≤ d) : ln_R l D g (CW a g σ) yX6_afterTickOfBars (.code yX6_afterTickOfBars cX6_afterTickOfBars 4 (some .int)) d [.ref (a 7), .int (nI S)] (fun r => r = nI (ln_tB N S)) := by
  have hN12 := hW.n12
  have hp12 := hW.p12
  have hwl := fun p => ln_wt_le hW S p (N 0 0)
  refine ln_ofR (by decide +kernel) (Nat.le_of_ble_eq_true rfl) (fun prg env rum sta mid args below meth cod ls hr hlk X hP hl => ?_)
  have hl : lv_has ls 4 [(0, .ref (a 7)), (1, .int (nI S))] := hl
  generalize hQ0 : (MQ below (vp_Si (fun r => r = nI (ln_tB N S))) args sta 0 0 (fun _ => False)) = Q0
  refine lv_iload_n X.1 X.2.1 dX6_afterTickOfBars_0 rfl (lv_at hl 1 rfl) ?_
  refine lv_istore_n (lv' := [(2, .int (nI S)), (0, .ref (a 7)), (1, .int (nI S))]) X.1 X.2.1 dX6_afterTickOfBars_1 rfl hl (by decide) rfl (fun ls hl => ?_)
  refine lv_iconst (v := nI 0) X.1 X.2.1 dX6_afterTickOfBars_2 (by decide) ?_
  refine lv_istore_n (lv' := [(3, .int (nI 0)), (2, .int (nI S)), (0, .ref (a 7)), (1, .int (nI S))]) X.1 X.2.1 dX6_afterTickOfBars_3 rfl hl (by decide) rfl (fun ls hl => ?_)
  have L4 : ∀ (K : Nat) (p : Nat) (x : Nat), N 0 0 - p < K → p ≤ N 0 0 → x < 4096 → x = S ||| ln_oru (ln_tBf N S) p → ∀ ls : Array Slot, lv_has ls 4 [(0, .ref (a 7)), (1, .int (nI S)), (2, .int (nI x)), (3, .int (nI p))] → W prg l env rum sta mid args below meth cod sta.heap [] 0 0 Q0 (F0 mid 4 ls []) := by
    intro K
    induction K with
    | zero => intro p x hm; exact absurd hm (Nat.not_lt_zero _)
    | succ K ih4 =>
      intro p x hm4 hp hxb hx ls hl
      refine lv_iload_n X.1 X.2.1 dX6_afterTickOfBars_4 rfl (lv_at hl 3 rfl) ?_
      refine lv_aload_n X.1 X.2.1 dX6_afterTickOfBars_5 rfl (lv_at hl 0 rfl) ?_
      refine gC_7_0 X hP mF_X6_20 dX6_afterTickOfBars_6 ?_
      refine nC_1_0 X hP (v := nI (N 0 0)) hN.n mF_X6_31 dX6_afterTickOfBars_9 ?_
      refine rn_ge X (by omega) (by omega) (tgt := 56) dX6_afterTickOfBars_12 (by decide) (fun h12 => ?_) (fun h12 => ?_)
      · skip
        refine lv_iload_n X.1 X.2.1 dX6_afterTickOfBars_56 rfl (lv_at hl 2 rfl) ?_
        subst hQ0
        exact ln_retR X hr hlk rfl (by rw [hx, show p = N 0 0 by omega]; rfl) dX6_afterTickOfBars_57
      · skip
        refine lv_iload_n X.1 X.2.1 dX6_afterTickOfBars_15 rfl (lv_at hl 1 rfl) ?_
        refine lv_iload_n X.1 X.2.1 dX6_afterTickOfBars_16 rfl (lv_at hl 3 rfl) ?_
        refine ln_nR X (c_X9_hasPost l D g 0 S p (ln_31 hS) (by omega) (Nat.le_refl _)) ln_nil mM_X6_37 Y_X9_hasPost rfl (by omega) hl.1 rfl (Nat.le_of_ble_eq_true rfl) dX6_afterTickOfBars_17 ⟨Nat.zero_le _, Nat.zero_le _⟩ (fun r17 hr17 => ?_)
        subst hr17
        refine rn_neB X (tgt := 50) dX6_afterTickOfBars_20 (by decide) (fun h20 => ?_) (fun h20 => ?_)
        · skip
          refine lv_iinc (v := nI (p + 1)) (lv' := [(3, .int (nI (p + 1))), (0, .ref (a 7)), (1, .int (nI S)), (2, .int (nI x))]) X.1 X.2.1 dX6_afterTickOfBars_50 hl (k := 3) rfl rn_inc (by decide) rfl (fun ls hl => ?_)
          refine lv_goto (tgt := 4) X.1 X.2.1 dX6_afterTickOfBars_53 (by decide) ?_
          exact ih4 (p + 1) _ (by omega) (by omega) (by first | exact hxb | exact ln_or12 hxb (ln_p12 (by omega))) (by first | exact ln_or0 hx (ln_tBf_a h20) | exact ln_or0 hx (ln_tBf_b h41) | exact ln_or1 hx (ln_tBf_c h20 h41)) ls (lv_sub hl [1, 2, 3, 0] rfl)
        · skip
          refine lv_aload_n X.1 X.2.1 dX6_afterTickOfBars_23 rfl (lv_at hl 0 rfl) ?_
          refine gC_7_0 X hP mF_X6_20 dX6_afterTickOfBars_24 ?_
          refine lv_iload_n X.1 X.2.1 dX6_afterTickOfBars_27 rfl (lv_at hl 3 rfl) ?_
          refine lv_iload_n X.1 X.2.1 dX6_afterTickOfBars_28 rfl (lv_at hl 1 rfl) ?_
          refine ln_vR X (c_X4_weightOnto l D g a σ 0 N hW hN p S (by omega) hS (Nat.le_refl _)) hP 1 rfl rfl mM_X6_41 Y_X4_weightOnto rfl (by omega) hl.1 rfl (Nat.le_of_ble_eq_true rfl) dX6_afterTickOfBars_29 ⟨Nat.zero_le _, Nat.zero_le _⟩ (fun r29 hr29 => ?_)
          subst hr29
          refine lv_aload_n X.1 X.2.1 dX6_afterTickOfBars_32 rfl (lv_at hl 0 rfl) ?_
          refine gC_7_0 X hP mF_X6_20 dX6_afterTickOfBars_33 ?_
          refine nC_1_3 X hP mF_X6_45 dX6_afterTickOfBars_36 ?_
          refine lv_iload_n X.1 X.2.1 dX6_afterTickOfBars_39 rfl (lv_at hl 3 rfl) ?_
          refine lC_2 X hP (by omega) (v := nI (N 1 p)) (hN.b (by omega)) dX6_afterTickOfBars_40 ?_
          refine rn_lt X (by have := hwl p; omega) (ln_31 (hW.b12 _)) (tgt := 50) dX6_afterTickOfBars_41 (by decide) (fun h41 => ?_) (fun h41 => ?_)
          · skip
            refine lv_iinc (v := nI (p + 1)) (lv' := [(3, .int (nI (p + 1))), (0, .ref (a 7)), (1, .int (nI S)), (2, .int (nI x))]) X.1 X.2.1 dX6_afterTickOfBars_50 hl (k := 3) rfl rn_inc (by decide) rfl (fun ls hl => ?_)
            refine lv_goto (tgt := 4) X.1 X.2.1 dX6_afterTickOfBars_53 (by decide) ?_
            exact ih4 (p + 1) _ (by omega) (by omega) (by first | exact hxb | exact ln_or12 hxb (ln_p12 (by omega))) (by first | exact ln_or0 hx (ln_tBf_a h20) | exact ln_or0 hx (ln_tBf_b h41) | exact ln_or1 hx (ln_tBf_c h20 h41)) ls (lv_sub hl [1, 2, 3, 0] rfl)
          · skip
            refine lv_iload_n X.1 X.2.1 dX6_afterTickOfBars_44 rfl (lv_at hl 2 rfl) ?_
            refine lv_iconst (v := nI 1) X.1 X.2.1 dX6_afterTickOfBars_45 (by decide) ?_
            refine lv_iload_n X.1 X.2.1 dX6_afterTickOfBars_46 rfl (lv_at hl 3 rfl) ?_
            refine rn_shl X (by omega) dX6_afterTickOfBars_47 ?_
            refine rn_or X dX6_afterTickOfBars_48 ?_
            refine lv_istore_n (lv' := [(2, .int (nI (x ||| (2 ^ p)))), (0, .ref (a 7)), (1, .int (nI S)), (3, .int (nI p))]) X.1 X.2.1 dX6_afterTickOfBars_49 rfl hl (by decide) rfl (fun ls hl => ?_)
            refine lv_iinc (v := nI (p + 1)) (lv' := [(3, .int (nI (p + 1))), (2, .int (nI (x ||| (2 ^ p)))), (0, .ref (a 7)), (1, .int (nI S))]) X.1 X.2.1 dX6_afterTickOfBars_50 hl (k := 3) rfl rn_inc (by decide) rfl (fun ls hl => ?_)
            refine lv_goto (tgt := 4) X.1 X.2.1 dX6_afterTickOfBars_53 (by decide) ?_
            exact ih4 (p + 1) _ (by omega) (by omega) (by first | exact hxb | exact ln_or12 hxb (ln_p12 (by omega))) (by first | exact ln_or0 hx (ln_tBf_a h20) | exact ln_or0 hx (ln_tBf_b h41) | exact ln_or1 hx (ln_tBf_c h20 h41)) ls (lv_sub hl [2, 3, 1, 0] rfl)
  exact L4 _ 0 S (Nat.lt_succ_self _) (Nat.zero_le _) hS (by rw [show ln_oru (ln_tBf N S) 0 = 0 from rfl, Nat.or_zero]) ls (lv_sub hl [2, 3, 1, 0] rfl)
set_option maxHeartbeats 4000000 in
set_option maxRecDepth 100000 in
theorem c_X6_afterTickOfForced (l : Launch) (D : va_G) (g : Nat → ClassId) (a : Nat → Nat) (σ : ln_S) (d : Nat) (N : ln_N) (hW : ln_wf N) (hN : ln_nC N σ) (S : Nat) (hS : S < 4096) (hd : 1 ≤ d) : ln_R l D g (CW a g σ) yX6_afterTickOfForced (.code yX6_afterTickOfForced cX6_afterTickOfForced 6 (some .int)) d [.ref (a 7), .int (nI S)] (fun r => r = nI (ln_tF N S)) := by
  have hN12 := hW.n12
  have hp12 := hW.p12
  refine ln_ofR (by decide +kernel) (Nat.le_of_ble_eq_true rfl) (fun prg env rum sta mid args below meth cod ls hr hlk X hP hl => ?_)
  have hl : lv_has ls 6 [(0, .ref (a 7)), (1, .int (nI S))] := hl
  generalize hQ0 : (MQ below (vp_Si (fun r => r = nI (ln_tF N S))) args sta 0 0 (fun _ => False)) = Q0
  refine lv_iload_n X.1 X.2.1 dX6_afterTickOfForced_0 rfl (lv_at hl 1 rfl) ?_
  refine lv_istore_n (lv' := [(2, .int (nI S)), (0, .ref (a 7)), (1, .int (nI S))]) X.1 X.2.1 dX6_afterTickOfForced_1 rfl hl (by decide) rfl (fun ls hl => ?_)
  refine lv_iconst (v := nI 0) X.1 X.2.1 dX6_afterTickOfForced_2 (by decide) ?_
  refine lv_istore_n (lv' := [(3, .int (nI 0)), (2, .int (nI S)), (0, .ref (a 7)), (1, .int (nI S))]) X.1 X.2.1 dX6_afterTickOfForced_3 rfl hl (by decide) rfl (fun ls hl => ?_)
  have L4 : ∀ (K : Nat) (p : Nat) (x : Nat), N 0 0 - p < K → p ≤ N 0 0 → x < 4096 → x = S ||| ln_oru (ln_tFf N S) p → ∀ ls : Array Slot, lv_has ls 6 [(0, .ref (a 7)), (1, .int (nI S)), (2, .int (nI x)), (3, .int (nI p))] → W prg l env rum sta mid args below meth cod sta.heap [] 0 0 Q0 (F0 mid 4 ls []) := by
    intro K
    induction K with
    | zero => intro p x hm; exact absurd hm (Nat.not_lt_zero _)
    | succ K ih4 =>
      intro p x hm4 hp hxb hx ls hl
      refine lv_iload_n X.1 X.2.1 dX6_afterTickOfForced_4 rfl (lv_at hl 3 rfl) ?_
      refine lv_aload_n X.1 X.2.1 dX6_afterTickOfForced_5 rfl (lv_at hl 0 rfl) ?_
      refine gC_7_0 X hP mF_X6_20 dX6_afterTickOfForced_6 ?_
      refine nC_1_0 X hP (v := nI (N 0 0)) hN.n mF_X6_31 dX6_afterTickOfForced_9 ?_
      refine rn_ge X (by omega) (by omega) (tgt := 71) dX6_afterTickOfForced_12 (by decide) (fun h12 => ?_) (fun h12 => ?_)
      · skip
        refine lv_iload_n X.1 X.2.1 dX6_afterTickOfForced_71 rfl (lv_at hl 2 rfl) ?_
        subst hQ0
        exact ln_retR X hr hlk rfl (by rw [hx, show p = N 0 0 by omega]; rfl) dX6_afterTickOfForced_72
      · skip
        refine lv_aload_n X.1 X.2.1 dX6_afterTickOfForced_15 rfl (lv_at hl 0 rfl) ?_
        refine gC_7_0 X hP mF_X6_20 dX6_afterTickOfForced_16 ?_
        refine nC_1_6 X hP mF_X6_48 dX6_afterTickOfForced_19 ?_
        refine lv_iload_n X.1 X.2.1 dX6_afterTickOfForced_22 rfl (lv_at hl 3 rfl) ?_
        refine lC_5 X hP (by omega) (v := nI (N 3 p)) (hN.bh (by omega)) dX6_afterTickOfForced_23 ?_
        refine lv_iload_n X.1 X.2.1 dX6_afterTickOfForced_24 rfl (lv_at hl 1 rfl) ?_
        refine lv_iconst (v := ((-1))) X.1 X.2.1 dX6_afterTickOfForced_25 (by decide) ?_
        refine lv_ixor X.1 X.2.1 dX6_afterTickOfForced_26 ?_
        refine rn_nt X dX6_afterTickOfForced_27 ?_
        refine lv_istore (lv' := [(4, .int (nI (ln_df (N 3 p) S))), (0, .ref (a 7)), (1, .int (nI S)), (2, .int (nI x)), (3, .int (nI p))]) X.1 X.2.1 dX6_afterTickOfForced_28 hl (by decide) rfl (fun ls hl => ?_)
        refine lv_iload X.1 X.2.1 dX6_afterTickOfForced_30 (lv_at hl 0 rfl) ?_
        refine lv_iload X.1 X.2.1 dX6_afterTickOfForced_32 (lv_at hl 0 rfl) ?_
        refine lv_iconst (v := nI 1) X.1 X.2.1 dX6_afterTickOfForced_34 (by decide) ?_
        refine lv_isub X.1 X.2.1 dX6_afterTickOfForced_35 ?_
        refine rn_dec X dX6_afterTickOfForced_36 ?_
        refine rn_ne0 X (ln_31 (ln_and_lt (ln_df_lt (hW.bh12 _)))) (tgt := 44) dX6_afterTickOfForced_37 (by decide) (fun h37 => ?_) (fun h37 => ?_)
        · skip
          refine lv_iconst (v := nI 0) X.1 X.2.1 dX6_afterTickOfForced_44 (by decide) ?_
          refine lv_istore (lv' := [(5, .int (nI 0)), (4, .int (nI (ln_df (N 3 p) S))), (0, .ref (a 7)), (1, .int (nI S)), (2, .int (nI x)), (3, .int (nI p))]) X.1 X.2.1 dX6_afterTickOfForced_45 hl (by decide) rfl (fun ls hl => ?_)
          refine lv_iload X.1 X.2.1 dX6_afterTickOfForced_47 (lv_at hl 0 rfl) ?_
          refine rn_eq0 X (by decide) (tgt := 65) dX6_afterTickOfForced_49 (by decide) (fun _ => ?_) (fun q => absurd (q) (by decide))
          refine lv_iinc (v := nI (p + 1)) (lv' := [(3, .int (nI (p + 1))), (5, .int (nI 0)), (4, .int (nI (ln_df (N 3 p) S))), (0, .ref (a 7)), (1, .int (nI S)), (2, .int (nI x))]) X.1 X.2.1 dX6_afterTickOfForced_65 hl (k := 5) rfl rn_inc (by decide) rfl (fun ls hl => ?_)
          refine lv_goto (tgt := 4) X.1 X.2.1 dX6_afterTickOfForced_68 (by decide) ?_
          exact ih4 (p + 1) _ (by omega) (by omega) (by first | exact hxb | exact ln_or12 hxb (ln_df12 (hW.bh12 _))) (by first | exact ln_or0 hx (ln_tFf_a h57) | exact ln_or0 hx (ln_tFf_b h37) | exact ln_or1 hx (ln_tFf_c h57 h37)) ls (lv_sub hl [3, 4, 5, 0] rfl)
        · skip
          refine lv_iconst (v := nI 1) X.1 X.2.1 dX6_afterTickOfForced_40 (by decide) ?_
          refine lv_goto (tgt := 45) X.1 X.2.1 dX6_afterTickOfForced_41 (by decide) ?_
          refine lv_istore (lv' := [(5, .int (nI 1)), (4, .int (nI (ln_df (N 3 p) S))), (0, .ref (a 7)), (1, .int (nI S)), (2, .int (nI x)), (3, .int (nI p))]) X.1 X.2.1 dX6_afterTickOfForced_45 hl (by decide) rfl (fun ls hl => ?_)
          refine lv_iload X.1 X.2.1 dX6_afterTickOfForced_47 (lv_at hl 0 rfl) ?_
          refine rn_eq0 X (by decide) (tgt := 65) dX6_afterTickOfForced_49 (by decide) (fun q => absurd q (by decide)) (fun _ => ?_)
          refine lv_iload_n X.1 X.2.1 dX6_afterTickOfForced_52 rfl (lv_at hl 3 rfl) ?_
          refine lv_iload_n X.1 X.2.1 dX6_afterTickOfForced_53 rfl (lv_at hl 5 rfl) ?_
          refine ln_nR X (c_X9_hasPost l D g 0 S p (ln_31 hS) (by omega) (Nat.le_refl _)) ln_nil mM_X6_37 Y_X9_hasPost rfl (by omega) hl.1 rfl (Nat.le_of_ble_eq_true rfl) dX6_afterTickOfForced_54 ⟨Nat.zero_le _, Nat.zero_le _⟩ (fun r54 hr54 => ?_)
          subst hr54
          refine rn_eqB X (tgt := 65) dX6_afterTickOfForced_57 (by decide) (fun h57 => ?_) (fun h57 => ?_)
          · skip
            refine lv_iinc (v := nI (p + 1)) (lv' := [(3, .int (nI (p + 1))), (5, .int (nI 1)), (4, .int (nI (ln_df (N 3 p) S))), (0, .ref (a 7)), (1, .int (nI S)), (2, .int (nI x))]) X.1 X.2.1 dX6_afterTickOfForced_65 hl (k := 5) rfl rn_inc (by decide) rfl (fun ls hl => ?_)
            refine lv_goto (tgt := 4) X.1 X.2.1 dX6_afterTickOfForced_68 (by decide) ?_
            exact ih4 (p + 1) _ (by omega) (by omega) (by first | exact hxb | exact ln_or12 hxb (ln_df12 (hW.bh12 _))) (by first | exact ln_or0 hx (ln_tFf_a h57) | exact ln_or0 hx (ln_tFf_b h37) | exact ln_or1 hx (ln_tFf_c h57 h37)) ls (lv_sub hl [3, 4, 5, 0] rfl)
          · skip
            refine lv_iload_n X.1 X.2.1 dX6_afterTickOfForced_60 rfl (lv_at hl 4 rfl) ?_
            refine lv_iload X.1 X.2.1 dX6_afterTickOfForced_61 (lv_at hl 1 rfl) ?_
            refine rn_or X dX6_afterTickOfForced_63 ?_
            refine lv_istore_n (lv' := [(2, .int (nI (x ||| (ln_df (N 3 p) S)))), (5, .int (nI 1)), (4, .int (nI (ln_df (N 3 p) S))), (0, .ref (a 7)), (1, .int (nI S)), (3, .int (nI p))]) X.1 X.2.1 dX6_afterTickOfForced_64 rfl hl (by decide) rfl (fun ls hl => ?_)
            refine lv_iinc (v := nI (p + 1)) (lv' := [(3, .int (nI (p + 1))), (2, .int (nI (x ||| (ln_df (N 3 p) S)))), (5, .int (nI 1)), (4, .int (nI (ln_df (N 3 p) S))), (0, .ref (a 7)), (1, .int (nI S))]) X.1 X.2.1 dX6_afterTickOfForced_65 hl (k := 5) rfl rn_inc (by decide) rfl (fun ls hl => ?_)
            refine lv_goto (tgt := 4) X.1 X.2.1 dX6_afterTickOfForced_68 (by decide) ?_
            exact ih4 (p + 1) _ (by omega) (by omega) (by first | exact hxb | exact ln_or12 hxb (ln_df12 (hW.bh12 _))) (by first | exact ln_or0 hx (ln_tFf_a h57) | exact ln_or0 hx (ln_tFf_b h37) | exact ln_or1 hx (ln_tFf_c h57 h37)) ls (lv_sub hl [4, 5, 1, 0] rfl)
  exact L4 _ 0 S (Nat.lt_succ_self _) (Nat.zero_le _) hS (by rw [show ln_oru (ln_tFf N S) 0 = 0 from rfl, Nat.or_zero]) ls (lv_sub hl [2, 3, 1, 0] rfl)
set_option maxHeartbeats 4000000 in
set_option maxRecDepth 100000 in
theorem c_X6_afterTick (l : Launch) (D : va_G) (g : Nat → ClassId) (a : Nat → Nat) (σ : ln_S) (d : Nat) (N : ln_N) (hW : ln_wf N) (hN : ln_nC N σ) (r S : Nat) (hr3 : r < 3) (hS : S < 4096) (hd : 2 ≤ d) : ln_R l D g (CW a g σ) yX6_afterTick (.code yX6_afterTick cX6_afterTick 3 (some .int)) d [.ref (a 7), .int (nI r), .int (nI S)] (fun z => z = nI (ln_tp N r S)) := by
  have hN12 := hW.n12
  have hp12 := hW.p12
  refine ln_ofR (by decide +kernel) (Nat.le_of_ble_eq_true rfl) (fun prg env rum sta mid args below meth cod ls hr hlk X hP hl => ?_)
  have hl : lv_has ls 3 [(0, .ref (a 7)), (1, .int (nI r)), (2, .int (nI S))] := hl
  generalize hQ0 : (MQ below (vp_Si (fun z => z = nI (ln_tp N r S))) args sta 0 0 (fun _ => False)) = Q0
  refine lv_iload_n X.1 X.2.1 dX6_afterTick_0 rfl (lv_at hl 1 rfl) ?_
  refine rn_ne0 X (by omega) (tgt := 12) dX6_afterTick_1 (by decide) (fun h1 => ?_) (fun h1 => ?_)
  · skip
    refine lv_aload_n X.1 X.2.1 dX6_afterTick_12 rfl (lv_at hl 0 rfl) ?_
    refine lv_iload_n X.1 X.2.1 dX6_afterTick_13 rfl (lv_at hl 2 rfl) ?_
    refine ln_vR X (c_X6_afterTickOfForced l D g a σ 1 N hW hN S hS (Nat.le_refl _)) hP 7 rfl rfl mM_X6_28 Y_X6_afterTickOfForced rfl (by omega) hl.1 rfl (Nat.le_of_ble_eq_true rfl) dX6_afterTick_14 ⟨Nat.zero_le _, Nat.zero_le _⟩ (fun r14 hr14 => ?_)
    subst hr14
    subst hQ0
    exact ln_retR X hr hlk rfl (by unfold ln_tp; first | rw [if_neg h1] | rw [if_pos h1]) dX6_afterTick_17
  · skip
    refine lv_aload_n X.1 X.2.1 dX6_afterTick_4 rfl (lv_at hl 0 rfl) ?_
    refine lv_iload_n X.1 X.2.1 dX6_afterTick_5 rfl (lv_at hl 2 rfl) ?_
    refine ln_vR X (c_X6_afterTickOfBars l D g a σ 1 N hW hN S hS (Nat.le_refl _)) hP 7 rfl rfl mM_X6_24 Y_X6_afterTickOfBars rfl (by omega) hl.1 rfl (Nat.le_of_ble_eq_true rfl) dX6_afterTick_6 ⟨Nat.zero_le _, Nat.zero_le _⟩ (fun r6 hr6 => ?_)
    subst hr6
    refine lv_goto (tgt := 17) X.1 X.2.1 dX6_afterTick_9 (by decide) ?_
    subst hQ0
    exact ln_retR X hr hlk rfl (by unfold ln_tp; first | rw [if_neg h1] | rw [if_pos h1]) dX6_afterTick_17
set_option maxHeartbeats 4000000 in
set_option maxRecDepth 100000 in
theorem c_X10_tick (l : Launch) (D : va_G) (g : Nat → ClassId) (a : Nat → Nat) (σ : ln_S) (d : Nat) (N : ln_N) (hW : ln_wf N) (hN : ln_nM N σ) (r S t : Nat) (hr3 : r < 3) (hS : S < 4096) (ht : t < 4096) (hd : 2 ≤ d) : ln_R l D g (MW a g σ) yX10_tick (.code yX10_tick cX10_tick 8 (some .int)) d [.ref (a 0), .int (nI r), .int (nI S), .int (nI t)] (fun z => z = nI (ln_tk N r t S)) := by
  have hN12 := hW.n12
  have hp12 := hW.p12
  have hwl := fun p q => ln_wt_le hW S p q
  refine ln_ofR (by decide +kernel) (Nat.le_of_ble_eq_true rfl) (fun prg env rum sta mid args below meth cod ls hr hlk X hP hl => ?_)
  have hl : lv_has ls 8 [(0, .ref (a 0)), (1, .int (nI r)), (2, .int (nI S)), (3, .int (nI t))] := hl
  generalize hQ0 : (MQ below (vp_Si (fun z => z = nI (ln_tk N r t S))) args sta 0 0 (fun _ => False)) = Q0
  refine lv_iload_n X.1 X.2.1 dX10_tick_0 rfl (lv_at hl 1 rfl) ?_
  refine lv_iconst (v := nI 2) X.1 X.2.1 dX10_tick_1 (by decide) ?_
  refine rn_ne X (by omega) (by decide) (tgt := 18) dX10_tick_2 (by decide) (fun h2 => ?_) (fun h2 => ?_)
  · skip
    refine lv_iload_n X.1 X.2.1 dX10_tick_18 rfl (lv_at hl 2 rfl) ?_
    refine lv_istore (lv' := [(4, .int (nI S)), (0, .ref (a 0)), (1, .int (nI r)), (2, .int (nI S)), (3, .int (nI t))]) X.1 X.2.1 dX10_tick_19 hl (by decide) rfl (fun ls hl => ?_)
    refine lv_iload_n X.1 X.2.1 dX10_tick_21 rfl (lv_at hl 2 rfl) ?_
    refine rn_eq0 X (by omega) (tgt := 90) dX10_tick_22 (by decide) (fun h22 => ?_) (fun h22 => ?_)
    · skip
      refine lv_iconst (v := nI 0) X.1 X.2.1 dX10_tick_90 (by decide) ?_
      refine lv_istore (lv' := [(5, .int (nI 0)), (4, .int (nI S)), (0, .ref (a 0)), (1, .int (nI r)), (2, .int (nI S)), (3, .int (nI t))]) X.1 X.2.1 dX10_tick_91 hl (by decide) rfl (fun ls hl => ?_)
      have L93 : ∀ (K : Nat) (p : Nat) (x : Nat), N 0 0 - p < K → p ≤ N 0 0 → x < 4096 → x = S ||| ln_oru (ln_tBf N S) p → ∀ ls : Array Slot, lv_has ls 8 [(0, .ref (a 0)), (2, .int (nI S)), (4, .int (nI x)), (5, .int (nI p))] → W prg l env rum sta mid args below meth cod sta.heap [] 0 0 Q0 (F0 mid 93 ls []) := by
        intro K
        induction K with
        | zero => intro p x hm; exact absurd hm (Nat.not_lt_zero _)
        | succ K ih93 =>
          intro p x hm93 hp hxb hx ls hl
          refine lv_iload X.1 X.2.1 dX10_tick_93 (lv_at hl 3 rfl) ?_
          refine lv_aload_n X.1 X.2.1 dX10_tick_95 rfl (lv_at hl 0 rfl) ?_
          refine gM_0_0 X hP (v := nI (N 0 0)) hN.n mF_X10_48 dX10_tick_96 ?_
          refine rn_ge X (by omega) (by omega) (tgt := 193) dX10_tick_99 (by decide) (fun h99 => ?_) (fun h99 => ?_)
          · skip
            refine lv_iload X.1 X.2.1 dX10_tick_193 (lv_at hl 2 rfl) ?_
            subst hQ0
            exact ln_retR X hr hlk rfl (by unfold ln_tk ln_tp; rw [if_neg (by omega), if_pos h22, hx, show p = N 0 0 by omega]; rfl) dX10_tick_195
          · skip
            refine lv_iload_n X.1 X.2.1 dX10_tick_102 rfl (lv_at hl 1 rfl) ?_
            refine lv_iload X.1 X.2.1 dX10_tick_103 (lv_at hl 3 rfl) ?_
            refine ln_sR X (c_X10_has l D g 0 S p (ln_31 hS) (by omega) (Nat.le_refl _)) ln_nil mM_X10_70 Y_X10_has rfl (by omega) hl.1 rfl (Nat.le_of_ble_eq_true rfl) dX10_tick_105 ⟨Nat.zero_le _, Nat.zero_le _⟩ (fun r105 hr105 => ?_)
            subst hr105
            refine rn_eqB X (tgt := 114) dX10_tick_108 (by decide) (fun h108 => ?_) (fun h108 => ?_)
            · skip
              refine lv_iconst (v := nI 0) X.1 X.2.1 dX10_tick_114 (by decide) ?_
              refine lv_istore (lv' := [(6, .int (nI 0)), (0, .ref (a 0)), (2, .int (nI S)), (4, .int (nI x)), (5, .int (nI p))]) X.1 X.2.1 dX10_tick_115 hl (by decide) rfl (fun ls hl => ?_)
              refine lv_iconst (v := nI 0) X.1 X.2.1 dX10_tick_117 (by decide) ?_
              refine lv_istore (lv' := [(7, .int (nI 0)), (6, .int (nI 0)), (0, .ref (a 0)), (2, .int (nI S)), (4, .int (nI x)), (5, .int (nI p))]) X.1 X.2.1 dX10_tick_118 hl (by decide) rfl (fun ls hl => ?_)
              have L120 : ∀ (K : Nat) (q : Nat) (y : Nat), N 0 0 - q < K → q ≤ N 0 0 → y = ln_wt N S p q → ∀ ls : Array Slot, lv_has ls 8 [(0, .ref (a 0)), (2, .int (nI S)), (4, .int (nI x)), (5, .int (nI p)), (6, .int (nI y)), (7, .int (nI q))] → W prg l env rum sta mid args below meth cod sta.heap [] 0 0 Q0 (F0 mid 120 ls []) := by
                intro K
                induction K with
                | zero => intro q y hm; exact absurd hm (Nat.not_lt_zero _)
                | succ K ih120 =>
                  intro q y hm120 hq hy ls hl
                  refine lv_iload X.1 X.2.1 dX10_tick_120 (lv_at hl 5 rfl) ?_
                  refine lv_aload_n X.1 X.2.1 dX10_tick_122 rfl (lv_at hl 0 rfl) ?_
                  refine gM_0_0 X hP (v := nI (N 0 0)) hN.n mF_X10_48 dX10_tick_123 ?_
                  refine rn_ge X (by omega) (by omega) (tgt := 166) dX10_tick_126 (by decide) (fun h126 => ?_) (fun h126 => ?_)
                  · skip
                    have hy2 : y = ln_wt N S p (N 0 0) := by rw [hy, show q = N 0 0 by omega]
                    refine lv_iload X.1 X.2.1 dX10_tick_166 (lv_at hl 4 rfl) ?_
                    refine lv_aload_n X.1 X.2.1 dX10_tick_168 rfl (lv_at hl 0 rfl) ?_
                    refine gM_0_2 X hP mF_X10_13 dX10_tick_169 ?_
                    refine lv_iload X.1 X.2.1 dX10_tick_172 (lv_at hl 3 rfl) ?_
                    refine lM_2 X hP (by omega) (v := nI (N 1 p)) (hN.b (by omega)) dX10_tick_174 ?_
                    refine rn_lt X (by have := hwl p (N 0 0); omega) (ln_31 (hW.b12 _)) (tgt := 187) dX10_tick_175 (by decide) (fun h175 => ?_) (fun h175 => ?_)
                    · skip
                      refine lv_iinc (v := nI (p + 1)) (lv' := [(5, .int (nI (p + 1))), (0, .ref (a 0)), (2, .int (nI S)), (4, .int (nI x)), (6, .int (nI y)), (7, .int (nI q))]) X.1 X.2.1 dX10_tick_187 hl (k := 3) rfl rn_inc (by decide) rfl (fun ls hl => ?_)
                      refine lv_goto (tgt := 93) X.1 X.2.1 dX10_tick_190 (by decide) ?_
                      exact ih93 (p + 1) _ (by omega) (by omega) (by first | exact hxb | exact ln_or12 hxb (ln_p12 (by omega))) (by first | exact ln_or0 hx (ln_tBf_a h108) | exact ln_or0 hx (ln_tBf_b (hy2 ▸ h175)) | exact ln_or1 hx (ln_tBf_c h108 (hy2 ▸ h175))) ls (lv_sub hl [1, 2, 3, 0] rfl)
                    · skip
                      refine lv_iload X.1 X.2.1 dX10_tick_178 (lv_at hl 2 rfl) ?_
                      refine lv_iconst (v := nI 1) X.1 X.2.1 dX10_tick_180 (by decide) ?_
                      refine lv_iload X.1 X.2.1 dX10_tick_181 (lv_at hl 3 rfl) ?_
                      refine rn_shl X (by omega) dX10_tick_183 ?_
                      refine rn_or X dX10_tick_184 ?_
                      refine lv_istore (lv' := [(4, .int (nI (x ||| (2 ^ p)))), (0, .ref (a 0)), (2, .int (nI S)), (5, .int (nI p)), (6, .int (nI y)), (7, .int (nI q))]) X.1 X.2.1 dX10_tick_185 hl (by decide) rfl (fun ls hl => ?_)
                      refine lv_iinc (v := nI (p + 1)) (lv' := [(5, .int (nI (p + 1))), (4, .int (nI (x ||| (2 ^ p)))), (0, .ref (a 0)), (2, .int (nI S)), (6, .int (nI y)), (7, .int (nI q))]) X.1 X.2.1 dX10_tick_187 hl (k := 3) rfl rn_inc (by decide) rfl (fun ls hl => ?_)
                      refine lv_goto (tgt := 93) X.1 X.2.1 dX10_tick_190 (by decide) ?_
                      exact ih93 (p + 1) _ (by omega) (by omega) (by first | exact hxb | exact ln_or12 hxb (ln_p12 (by omega))) (by first | exact ln_or0 hx (ln_tBf_a h108) | exact ln_or0 hx (ln_tBf_b (hy2 ▸ h175)) | exact ln_or1 hx (ln_tBf_c h108 (hy2 ▸ h175))) ls (lv_sub hl [2, 3, 1, 0] rfl)
                  · skip
                    refine lv_iload X.1 X.2.1 dX10_tick_129 (lv_at hl 4 rfl) ?_
                    refine lv_iload_n X.1 X.2.1 dX10_tick_131 rfl (lv_at hl 1 rfl) ?_
                    refine lv_iload X.1 X.2.1 dX10_tick_132 (lv_at hl 5 rfl) ?_
                    refine ln_sR X (c_X10_has l D g 0 S q (ln_31 hS) (by omega) (Nat.le_refl _)) ln_nil mM_X10_70 Y_X10_has rfl (by omega) hl.1 rfl (Nat.le_of_ble_eq_true rfl) dX10_tick_134 ⟨Nat.zero_le _, Nat.zero_le _⟩ (fun r134 hr134 => ?_)
                    subst hr134
                    refine rn_eqB X (tgt := 156) dX10_tick_137 (by decide) (fun h137 => ?_) (fun h137 => ?_)
                    · skip
                      refine lv_iconst (v := nI 0) X.1 X.2.1 dX10_tick_156 (by decide) ?_
                      refine rn_add X dX10_tick_157 ?_
                      refine lv_istore (lv' := [(6, .int (nI (y + 0))), (0, .ref (a 0)), (2, .int (nI S)), (4, .int (nI x)), (5, .int (nI p)), (7, .int (nI q))]) X.1 X.2.1 dX10_tick_158 hl (by decide) rfl (fun ls hl => ?_)
                      refine lv_iinc (v := nI (q + 1)) (lv' := [(7, .int (nI (q + 1))), (6, .int (nI (y + 0))), (0, .ref (a 0)), (2, .int (nI S)), (4, .int (nI x)), (5, .int (nI p))]) X.1 X.2.1 dX10_tick_160 hl (k := 5) rfl rn_inc (by decide) rfl (fun ls hl => ?_)
                      refine lv_goto (tgt := 120) X.1 X.2.1 dX10_tick_163 (by decide) ?_
                      exact ih120 (q + 1) _ (by omega) (by omega) (by rw [hy]; first | rw [ln_wt_t h137] | rw [ln_wt_f h137, Nat.add_zero]) ls (lv_sub hl [2, 3, 4, 5, 1, 0] rfl)
                    · skip
                      refine lv_aload_n X.1 X.2.1 dX10_tick_140 rfl (lv_at hl 0 rfl) ?_
                      refine gM_0_1 X hP mF_X10_7 dX10_tick_141 ?_
                      refine lv_bipush (v := nI 12) X.1 X.2.1 dX10_tick_144 (by decide) ?_
                      refine lv_iload X.1 X.2.1 dX10_tick_146 (lv_at hl 5 rfl) ?_
                      refine rn_mul X dX10_tick_148 ?_
                      refine lv_iload X.1 X.2.1 dX10_tick_149 (lv_at hl 3 rfl) ?_
                      refine rn_add X dX10_tick_151 ?_
                      refine lM_1 X hP (by omega) (v := nI (N (5 + q) p)) (hN.w (by omega) (by omega)) dX10_tick_152 ?_
                      refine lv_goto (tgt := 157) X.1 X.2.1 dX10_tick_153 (by decide) ?_
                      refine rn_add X dX10_tick_157 ?_
                      refine lv_istore (lv' := [(6, .int (nI (y + (N (5 + q) p)))), (0, .ref (a 0)), (2, .int (nI S)), (4, .int (nI x)), (5, .int (nI p)), (7, .int (nI q))]) X.1 X.2.1 dX10_tick_158 hl (by decide) rfl (fun ls hl => ?_)
                      refine lv_iinc (v := nI (q + 1)) (lv' := [(7, .int (nI (q + 1))), (6, .int (nI (y + (N (5 + q) p)))), (0, .ref (a 0)), (2, .int (nI S)), (4, .int (nI x)), (5, .int (nI p))]) X.1 X.2.1 dX10_tick_160 hl (k := 5) rfl rn_inc (by decide) rfl (fun ls hl => ?_)
                      refine lv_goto (tgt := 120) X.1 X.2.1 dX10_tick_163 (by decide) ?_
                      exact ih120 (q + 1) _ (by omega) (by omega) (by rw [hy]; first | rw [ln_wt_t h137] | rw [ln_wt_f h137, Nat.add_zero]) ls (lv_sub hl [2, 3, 4, 5, 1, 0] rfl)
              exact L120 _ 0 0 (Nat.lt_succ_self _) (Nat.zero_le _) rfl ls (lv_sub hl [2, 3, 4, 5, 1, 0] rfl)
            · skip
              refine lv_goto (tgt := 187) X.1 X.2.1 dX10_tick_111 (by decide) ?_
              refine lv_iinc (v := nI (p + 1)) (lv' := [(5, .int (nI (p + 1))), (0, .ref (a 0)), (2, .int (nI S)), (4, .int (nI x))]) X.1 X.2.1 dX10_tick_187 hl (k := 3) rfl rn_inc (by decide) rfl (fun ls hl => ?_)
              refine lv_goto (tgt := 93) X.1 X.2.1 dX10_tick_190 (by decide) ?_
              exact ih93 (p + 1) _ (by omega) (by omega) (by first | exact hxb | exact ln_or12 hxb (ln_p12 (by omega))) (by first | exact ln_or0 hx (ln_tBf_a h108) | exact ln_or0 hx (ln_tBf_b (hy2 ▸ h175)) | exact ln_or1 hx (ln_tBf_c h108 (hy2 ▸ h175))) ls (lv_sub hl [1, 2, 3, 0] rfl)
      exact L93 _ 0 S (Nat.lt_succ_self _) (Nat.zero_le _) hS (by rw [show ln_oru (ln_tBf N S) 0 = 0 from rfl, Nat.or_zero]) ls (lv_sub hl [2, 4, 1, 0] rfl)
    · skip
      refine lv_iconst (v := nI 0) X.1 X.2.1 dX10_tick_25 (by decide) ?_
      refine lv_istore (lv' := [(5, .int (nI 0)), (4, .int (nI S)), (0, .ref (a 0)), (1, .int (nI r)), (2, .int (nI S)), (3, .int (nI t))]) X.1 X.2.1 dX10_tick_26 hl (by decide) rfl (fun ls hl => ?_)
      have L28 : ∀ (K : Nat) (q : Nat) (x : Nat), N 0 0 - q < K → q ≤ N 0 0 → x < 4096 → x = S ||| ln_oru (ln_tFf N S) q → ∀ ls : Array Slot, lv_has ls 8 [(0, .ref (a 0)), (2, .int (nI S)), (4, .int (nI x)), (5, .int (nI q))] → W prg l env rum sta mid args below meth cod sta.heap [] 0 0 Q0 (F0 mid 28 ls []) := by
        intro K
        induction K with
        | zero => intro q x hm; exact absurd hm (Nat.not_lt_zero _)
        | succ K ih28 =>
          intro q x hm28 hp hxb hx ls hl
          refine lv_iload X.1 X.2.1 dX10_tick_28 (lv_at hl 3 rfl) ?_
          refine lv_aload_n X.1 X.2.1 dX10_tick_30 rfl (lv_at hl 0 rfl) ?_
          refine gM_0_0 X hP (v := nI (N 0 0)) hN.n mF_X10_48 dX10_tick_31 ?_
          refine rn_ge X (by omega) (by omega) (tgt := 87) dX10_tick_34 (by decide) (fun h34 => ?_) (fun h34 => ?_)
          · skip
            refine lv_iload X.1 X.2.1 dX10_tick_87 (lv_at hl 2 rfl) ?_
            subst hQ0
            exact ln_retR X hr hlk rfl (by unfold ln_tk ln_tp; rw [if_neg (by omega), if_neg h22, hx, show q = N 0 0 by omega]; rfl) dX10_tick_89
          · skip
            refine lv_aload_n X.1 X.2.1 dX10_tick_37 rfl (lv_at hl 0 rfl) ?_
            refine gM_0_4 X hP mF_X10_19 dX10_tick_38 ?_
            refine lv_iload X.1 X.2.1 dX10_tick_41 (lv_at hl 3 rfl) ?_
            refine lM_4 X hP (by omega) (v := nI (N 3 q)) (hN.bh (by omega)) dX10_tick_43 ?_
            refine lv_iload_n X.1 X.2.1 dX10_tick_44 rfl (lv_at hl 1 rfl) ?_
            refine lv_iconst (v := ((-1))) X.1 X.2.1 dX10_tick_45 (by decide) ?_
            refine lv_ixor X.1 X.2.1 dX10_tick_46 ?_
            refine rn_nt X dX10_tick_47 ?_
            refine lv_istore (lv' := [(6, .int (nI (ln_df (N 3 q) S))), (0, .ref (a 0)), (2, .int (nI S)), (4, .int (nI x)), (5, .int (nI q))]) X.1 X.2.1 dX10_tick_48 hl (by decide) rfl (fun ls hl => ?_)
            refine lv_iload_n X.1 X.2.1 dX10_tick_50 rfl (lv_at hl 2 rfl) ?_
            refine lv_iload X.1 X.2.1 dX10_tick_51 (lv_at hl 4 rfl) ?_
            refine ln_sR X (c_X10_has l D g 0 S q (ln_31 hS) (by omega) (Nat.le_refl _)) ln_nil mM_X10_70 Y_X10_has rfl (by omega) hl.1 rfl (Nat.le_of_ble_eq_true rfl) dX10_tick_53 ⟨Nat.zero_le _, Nat.zero_le _⟩ (fun r53 hr53 => ?_)
            subst hr53
            refine rn_eqB X (tgt := 81) dX10_tick_56 (by decide) (fun h56 => ?_) (fun h56 => ?_)
            · skip
              refine lv_iinc (v := nI (q + 1)) (lv' := [(5, .int (nI (q + 1))), (6, .int (nI (ln_df (N 3 q) S))), (0, .ref (a 0)), (2, .int (nI S)), (4, .int (nI x))]) X.1 X.2.1 dX10_tick_81 hl (k := 4) rfl rn_inc (by decide) rfl (fun ls hl => ?_)
              refine lv_goto (tgt := 28) X.1 X.2.1 dX10_tick_84 (by decide) ?_
              exact ih28 (q + 1) _ (by omega) (by omega) (by first | exact hxb | exact ln_or12 hxb (ln_df12 (hW.bh12 _))) (by first | exact ln_or0 hx (ln_tFf_a h56) | exact ln_or0 hx (ln_tFf_d h61) | exact ln_or0 hx (ln_tFf_b h71) | exact ln_or1 hx (ln_tFf_c h56 h71)) ls (lv_sub hl [2, 3, 4, 0] rfl)
            · skip
              refine lv_iload X.1 X.2.1 dX10_tick_59 (lv_at hl 0 rfl) ?_
              refine rn_eq0 X (ln_31 (ln_df_lt (hW.bh12 _))) (tgt := 81) dX10_tick_61 (by decide) (fun h61 => ?_) (fun h61 => ?_)
              · skip
                refine lv_iinc (v := nI (q + 1)) (lv' := [(5, .int (nI (q + 1))), (6, .int (nI (ln_df (N 3 q) S))), (0, .ref (a 0)), (2, .int (nI S)), (4, .int (nI x))]) X.1 X.2.1 dX10_tick_81 hl (k := 4) rfl rn_inc (by decide) rfl (fun ls hl => ?_)
                refine lv_goto (tgt := 28) X.1 X.2.1 dX10_tick_84 (by decide) ?_
                exact ih28 (q + 1) _ (by omega) (by omega) (by first | exact hxb | exact ln_or12 hxb (ln_df12 (hW.bh12 _))) (by first | exact ln_or0 hx (ln_tFf_a h56) | exact ln_or0 hx (ln_tFf_d h61) | exact ln_or0 hx (ln_tFf_b h71) | exact ln_or1 hx (ln_tFf_c h56 h71)) ls (lv_sub hl [2, 3, 4, 0] rfl)
              · skip
                refine lv_iload X.1 X.2.1 dX10_tick_64 (lv_at hl 0 rfl) ?_
                refine lv_iload X.1 X.2.1 dX10_tick_66 (lv_at hl 0 rfl) ?_
                refine lv_iconst (v := nI 1) X.1 X.2.1 dX10_tick_68 (by decide) ?_
                refine lv_isub X.1 X.2.1 dX10_tick_69 ?_
                refine rn_dec X dX10_tick_70 ?_
                refine rn_ne0 X (ln_31 (ln_and_lt (ln_df_lt (hW.bh12 _)))) (tgt := 81) dX10_tick_71 (by decide) (fun h71 => ?_) (fun h71 => ?_)
                · skip
                  refine lv_iinc (v := nI (q + 1)) (lv' := [(5, .int (nI (q + 1))), (6, .int (nI (ln_df (N 3 q) S))), (0, .ref (a 0)), (2, .int (nI S)), (4, .int (nI x))]) X.1 X.2.1 dX10_tick_81 hl (k := 4) rfl rn_inc (by decide) rfl (fun ls hl => ?_)
                  refine lv_goto (tgt := 28) X.1 X.2.1 dX10_tick_84 (by decide) ?_
                  exact ih28 (q + 1) _ (by omega) (by omega) (by first | exact hxb | exact ln_or12 hxb (ln_df12 (hW.bh12 _))) (by first | exact ln_or0 hx (ln_tFf_a h56) | exact ln_or0 hx (ln_tFf_d h61) | exact ln_or0 hx (ln_tFf_b h71) | exact ln_or1 hx (ln_tFf_c h56 h71)) ls (lv_sub hl [2, 3, 4, 0] rfl)
                · skip
                  refine lv_iload X.1 X.2.1 dX10_tick_74 (lv_at hl 3 rfl) ?_
                  refine lv_iload X.1 X.2.1 dX10_tick_76 (lv_at hl 0 rfl) ?_
                  refine rn_or X dX10_tick_78 ?_
                  refine lv_istore (lv' := [(4, .int (nI (x ||| (ln_df (N 3 q) S)))), (6, .int (nI (ln_df (N 3 q) S))), (0, .ref (a 0)), (2, .int (nI S)), (5, .int (nI q))]) X.1 X.2.1 dX10_tick_79 hl (by decide) rfl (fun ls hl => ?_)
                  refine lv_iinc (v := nI (q + 1)) (lv' := [(5, .int (nI (q + 1))), (4, .int (nI (x ||| (ln_df (N 3 q) S)))), (6, .int (nI (ln_df (N 3 q) S))), (0, .ref (a 0)), (2, .int (nI S))]) X.1 X.2.1 dX10_tick_81 hl (k := 4) rfl rn_inc (by decide) rfl (fun ls hl => ?_)
                  refine lv_goto (tgt := 28) X.1 X.2.1 dX10_tick_84 (by decide) ?_
                  exact ih28 (q + 1) _ (by omega) (by omega) (by first | exact hxb | exact ln_or12 hxb (ln_df12 (hW.bh12 _))) (by first | exact ln_or0 hx (ln_tFf_a h56) | exact ln_or0 hx (ln_tFf_d h61) | exact ln_or0 hx (ln_tFf_b h71) | exact ln_or1 hx (ln_tFf_c h56 h71)) ls (lv_sub hl [3, 4, 1, 0] rfl)
      exact L28 _ 0 S (Nat.lt_succ_self _) (Nat.zero_le _) hS (by rw [show ln_oru (ln_tFf N S) 0 = 0 from rfl, Nat.or_zero]) ls (lv_sub hl [2, 4, 1, 0] rfl)
  · skip
    refine lv_iload_n X.1 X.2.1 dX10_tick_5 rfl (lv_at hl 3 rfl) ?_
    refine lv_iconst (v := nI 1) X.1 X.2.1 dX10_tick_6 (by decide) ?_
    refine rn_ne X (by omega) (by decide) (tgt := 18) dX10_tick_7 (by decide) (fun h7 => ?_) (fun h7 => ?_)
    · skip
      refine lv_iload_n X.1 X.2.1 dX10_tick_18 rfl (lv_at hl 2 rfl) ?_
      refine lv_istore (lv' := [(4, .int (nI S)), (0, .ref (a 0)), (1, .int (nI r)), (2, .int (nI S)), (3, .int (nI t))]) X.1 X.2.1 dX10_tick_19 hl (by decide) rfl (fun ls hl => ?_)
      refine lv_iload_n X.1 X.2.1 dX10_tick_21 rfl (lv_at hl 2 rfl) ?_
      refine rn_eq0 X (by omega) (tgt := 90) dX10_tick_22 (by decide) (fun h22 => ?_) (fun h22 => ?_)
      · skip
        refine lv_iconst (v := nI 0) X.1 X.2.1 dX10_tick_90 (by decide) ?_
        refine lv_istore (lv' := [(5, .int (nI 0)), (4, .int (nI S)), (0, .ref (a 0)), (1, .int (nI r)), (2, .int (nI S)), (3, .int (nI t))]) X.1 X.2.1 dX10_tick_91 hl (by decide) rfl (fun ls hl => ?_)
        have L93 : ∀ (K : Nat) (p : Nat) (x : Nat), N 0 0 - p < K → p ≤ N 0 0 → x < 4096 → x = S ||| ln_oru (ln_tBf N S) p → ∀ ls : Array Slot, lv_has ls 8 [(0, .ref (a 0)), (2, .int (nI S)), (4, .int (nI x)), (5, .int (nI p))] → W prg l env rum sta mid args below meth cod sta.heap [] 0 0 Q0 (F0 mid 93 ls []) := by
          intro K
          induction K with
          | zero => intro p x hm; exact absurd hm (Nat.not_lt_zero _)
          | succ K ih93 =>
            intro p x hm93 hp hxb hx ls hl
            refine lv_iload X.1 X.2.1 dX10_tick_93 (lv_at hl 3 rfl) ?_
            refine lv_aload_n X.1 X.2.1 dX10_tick_95 rfl (lv_at hl 0 rfl) ?_
            refine gM_0_0 X hP (v := nI (N 0 0)) hN.n mF_X10_48 dX10_tick_96 ?_
            refine rn_ge X (by omega) (by omega) (tgt := 193) dX10_tick_99 (by decide) (fun h99 => ?_) (fun h99 => ?_)
            · skip
              refine lv_iload X.1 X.2.1 dX10_tick_193 (lv_at hl 2 rfl) ?_
              subst hQ0
              exact ln_retR X hr hlk rfl (by unfold ln_tk ln_tp; rw [if_neg (by omega), if_pos h22, hx, show p = N 0 0 by omega]; rfl) dX10_tick_195
            · skip
              refine lv_iload_n X.1 X.2.1 dX10_tick_102 rfl (lv_at hl 1 rfl) ?_
              refine lv_iload X.1 X.2.1 dX10_tick_103 (lv_at hl 3 rfl) ?_
              refine ln_sR X (c_X10_has l D g 0 S p (ln_31 hS) (by omega) (Nat.le_refl _)) ln_nil mM_X10_70 Y_X10_has rfl (by omega) hl.1 rfl (Nat.le_of_ble_eq_true rfl) dX10_tick_105 ⟨Nat.zero_le _, Nat.zero_le _⟩ (fun r105 hr105 => ?_)
              subst hr105
              refine rn_eqB X (tgt := 114) dX10_tick_108 (by decide) (fun h108 => ?_) (fun h108 => ?_)
              · skip
                refine lv_iconst (v := nI 0) X.1 X.2.1 dX10_tick_114 (by decide) ?_
                refine lv_istore (lv' := [(6, .int (nI 0)), (0, .ref (a 0)), (2, .int (nI S)), (4, .int (nI x)), (5, .int (nI p))]) X.1 X.2.1 dX10_tick_115 hl (by decide) rfl (fun ls hl => ?_)
                refine lv_iconst (v := nI 0) X.1 X.2.1 dX10_tick_117 (by decide) ?_
                refine lv_istore (lv' := [(7, .int (nI 0)), (6, .int (nI 0)), (0, .ref (a 0)), (2, .int (nI S)), (4, .int (nI x)), (5, .int (nI p))]) X.1 X.2.1 dX10_tick_118 hl (by decide) rfl (fun ls hl => ?_)
                have L120 : ∀ (K : Nat) (q : Nat) (y : Nat), N 0 0 - q < K → q ≤ N 0 0 → y = ln_wt N S p q → ∀ ls : Array Slot, lv_has ls 8 [(0, .ref (a 0)), (2, .int (nI S)), (4, .int (nI x)), (5, .int (nI p)), (6, .int (nI y)), (7, .int (nI q))] → W prg l env rum sta mid args below meth cod sta.heap [] 0 0 Q0 (F0 mid 120 ls []) := by
                  intro K
                  induction K with
                  | zero => intro q y hm; exact absurd hm (Nat.not_lt_zero _)
                  | succ K ih120 =>
                    intro q y hm120 hq hy ls hl
                    refine lv_iload X.1 X.2.1 dX10_tick_120 (lv_at hl 5 rfl) ?_
                    refine lv_aload_n X.1 X.2.1 dX10_tick_122 rfl (lv_at hl 0 rfl) ?_
                    refine gM_0_0 X hP (v := nI (N 0 0)) hN.n mF_X10_48 dX10_tick_123 ?_
                    refine rn_ge X (by omega) (by omega) (tgt := 166) dX10_tick_126 (by decide) (fun h126 => ?_) (fun h126 => ?_)
                    · skip
                      have hy2 : y = ln_wt N S p (N 0 0) := by rw [hy, show q = N 0 0 by omega]
                      refine lv_iload X.1 X.2.1 dX10_tick_166 (lv_at hl 4 rfl) ?_
                      refine lv_aload_n X.1 X.2.1 dX10_tick_168 rfl (lv_at hl 0 rfl) ?_
                      refine gM_0_2 X hP mF_X10_13 dX10_tick_169 ?_
                      refine lv_iload X.1 X.2.1 dX10_tick_172 (lv_at hl 3 rfl) ?_
                      refine lM_2 X hP (by omega) (v := nI (N 1 p)) (hN.b (by omega)) dX10_tick_174 ?_
                      refine rn_lt X (by have := hwl p (N 0 0); omega) (ln_31 (hW.b12 _)) (tgt := 187) dX10_tick_175 (by decide) (fun h175 => ?_) (fun h175 => ?_)
                      · skip
                        refine lv_iinc (v := nI (p + 1)) (lv' := [(5, .int (nI (p + 1))), (0, .ref (a 0)), (2, .int (nI S)), (4, .int (nI x)), (6, .int (nI y)), (7, .int (nI q))]) X.1 X.2.1 dX10_tick_187 hl (k := 3) rfl rn_inc (by decide) rfl (fun ls hl => ?_)
                        refine lv_goto (tgt := 93) X.1 X.2.1 dX10_tick_190 (by decide) ?_
                        exact ih93 (p + 1) _ (by omega) (by omega) (by first | exact hxb | exact ln_or12 hxb (ln_p12 (by omega))) (by first | exact ln_or0 hx (ln_tBf_a h108) | exact ln_or0 hx (ln_tBf_b (hy2 ▸ h175)) | exact ln_or1 hx (ln_tBf_c h108 (hy2 ▸ h175))) ls (lv_sub hl [1, 2, 3, 0] rfl)
                      · skip
                        refine lv_iload X.1 X.2.1 dX10_tick_178 (lv_at hl 2 rfl) ?_
                        refine lv_iconst (v := nI 1) X.1 X.2.1 dX10_tick_180 (by decide) ?_
                        refine lv_iload X.1 X.2.1 dX10_tick_181 (lv_at hl 3 rfl) ?_
                        refine rn_shl X (by omega) dX10_tick_183 ?_
                        refine rn_or X dX10_tick_184 ?_
                        refine lv_istore (lv' := [(4, .int (nI (x ||| (2 ^ p)))), (0, .ref (a 0)), (2, .int (nI S)), (5, .int (nI p)), (6, .int (nI y)), (7, .int (nI q))]) X.1 X.2.1 dX10_tick_185 hl (by decide) rfl (fun ls hl => ?_)
                        refine lv_iinc (v := nI (p + 1)) (lv' := [(5, .int (nI (p + 1))), (4, .int (nI (x ||| (2 ^ p)))), (0, .ref (a 0)), (2, .int (nI S)), (6, .int (nI y)), (7, .int (nI q))]) X.1 X.2.1 dX10_tick_187 hl (k := 3) rfl rn_inc (by decide) rfl (fun ls hl => ?_)
                        refine lv_goto (tgt := 93) X.1 X.2.1 dX10_tick_190 (by decide) ?_
                        exact ih93 (p + 1) _ (by omega) (by omega) (by first | exact hxb | exact ln_or12 hxb (ln_p12 (by omega))) (by first | exact ln_or0 hx (ln_tBf_a h108) | exact ln_or0 hx (ln_tBf_b (hy2 ▸ h175)) | exact ln_or1 hx (ln_tBf_c h108 (hy2 ▸ h175))) ls (lv_sub hl [2, 3, 1, 0] rfl)
                    · skip
                      refine lv_iload X.1 X.2.1 dX10_tick_129 (lv_at hl 4 rfl) ?_
                      refine lv_iload_n X.1 X.2.1 dX10_tick_131 rfl (lv_at hl 1 rfl) ?_
                      refine lv_iload X.1 X.2.1 dX10_tick_132 (lv_at hl 5 rfl) ?_
                      refine ln_sR X (c_X10_has l D g 0 S q (ln_31 hS) (by omega) (Nat.le_refl _)) ln_nil mM_X10_70 Y_X10_has rfl (by omega) hl.1 rfl (Nat.le_of_ble_eq_true rfl) dX10_tick_134 ⟨Nat.zero_le _, Nat.zero_le _⟩ (fun r134 hr134 => ?_)
                      subst hr134
                      refine rn_eqB X (tgt := 156) dX10_tick_137 (by decide) (fun h137 => ?_) (fun h137 => ?_)
                      · skip
                        refine lv_iconst (v := nI 0) X.1 X.2.1 dX10_tick_156 (by decide) ?_
                        refine rn_add X dX10_tick_157 ?_
                        refine lv_istore (lv' := [(6, .int (nI (y + 0))), (0, .ref (a 0)), (2, .int (nI S)), (4, .int (nI x)), (5, .int (nI p)), (7, .int (nI q))]) X.1 X.2.1 dX10_tick_158 hl (by decide) rfl (fun ls hl => ?_)
                        refine lv_iinc (v := nI (q + 1)) (lv' := [(7, .int (nI (q + 1))), (6, .int (nI (y + 0))), (0, .ref (a 0)), (2, .int (nI S)), (4, .int (nI x)), (5, .int (nI p))]) X.1 X.2.1 dX10_tick_160 hl (k := 5) rfl rn_inc (by decide) rfl (fun ls hl => ?_)
                        refine lv_goto (tgt := 120) X.1 X.2.1 dX10_tick_163 (by decide) ?_
                        exact ih120 (q + 1) _ (by omega) (by omega) (by rw [hy]; first | rw [ln_wt_t h137] | rw [ln_wt_f h137, Nat.add_zero]) ls (lv_sub hl [2, 3, 4, 5, 1, 0] rfl)
                      · skip
                        refine lv_aload_n X.1 X.2.1 dX10_tick_140 rfl (lv_at hl 0 rfl) ?_
                        refine gM_0_1 X hP mF_X10_7 dX10_tick_141 ?_
                        refine lv_bipush (v := nI 12) X.1 X.2.1 dX10_tick_144 (by decide) ?_
                        refine lv_iload X.1 X.2.1 dX10_tick_146 (lv_at hl 5 rfl) ?_
                        refine rn_mul X dX10_tick_148 ?_
                        refine lv_iload X.1 X.2.1 dX10_tick_149 (lv_at hl 3 rfl) ?_
                        refine rn_add X dX10_tick_151 ?_
                        refine lM_1 X hP (by omega) (v := nI (N (5 + q) p)) (hN.w (by omega) (by omega)) dX10_tick_152 ?_
                        refine lv_goto (tgt := 157) X.1 X.2.1 dX10_tick_153 (by decide) ?_
                        refine rn_add X dX10_tick_157 ?_
                        refine lv_istore (lv' := [(6, .int (nI (y + (N (5 + q) p)))), (0, .ref (a 0)), (2, .int (nI S)), (4, .int (nI x)), (5, .int (nI p)), (7, .int (nI q))]) X.1 X.2.1 dX10_tick_158 hl (by decide) rfl (fun ls hl => ?_)
                        refine lv_iinc (v := nI (q + 1)) (lv' := [(7, .int (nI (q + 1))), (6, .int (nI (y + (N (5 + q) p)))), (0, .ref (a 0)), (2, .int (nI S)), (4, .int (nI x)), (5, .int (nI p))]) X.1 X.2.1 dX10_tick_160 hl (k := 5) rfl rn_inc (by decide) rfl (fun ls hl => ?_)
                        refine lv_goto (tgt := 120) X.1 X.2.1 dX10_tick_163 (by decide) ?_
                        exact ih120 (q + 1) _ (by omega) (by omega) (by rw [hy]; first | rw [ln_wt_t h137] | rw [ln_wt_f h137, Nat.add_zero]) ls (lv_sub hl [2, 3, 4, 5, 1, 0] rfl)
                exact L120 _ 0 0 (Nat.lt_succ_self _) (Nat.zero_le _) rfl ls (lv_sub hl [2, 3, 4, 5, 1, 0] rfl)
              · skip
                refine lv_goto (tgt := 187) X.1 X.2.1 dX10_tick_111 (by decide) ?_
                refine lv_iinc (v := nI (p + 1)) (lv' := [(5, .int (nI (p + 1))), (0, .ref (a 0)), (2, .int (nI S)), (4, .int (nI x))]) X.1 X.2.1 dX10_tick_187 hl (k := 3) rfl rn_inc (by decide) rfl (fun ls hl => ?_)
                refine lv_goto (tgt := 93) X.1 X.2.1 dX10_tick_190 (by decide) ?_
                exact ih93 (p + 1) _ (by omega) (by omega) (by first | exact hxb | exact ln_or12 hxb (ln_p12 (by omega))) (by first | exact ln_or0 hx (ln_tBf_a h108) | exact ln_or0 hx (ln_tBf_b (hy2 ▸ h175)) | exact ln_or1 hx (ln_tBf_c h108 (hy2 ▸ h175))) ls (lv_sub hl [1, 2, 3, 0] rfl)
        exact L93 _ 0 S (Nat.lt_succ_self _) (Nat.zero_le _) hS (by rw [show ln_oru (ln_tBf N S) 0 = 0 from rfl, Nat.or_zero]) ls (lv_sub hl [2, 4, 1, 0] rfl)
      · skip
        refine lv_iconst (v := nI 0) X.1 X.2.1 dX10_tick_25 (by decide) ?_
        refine lv_istore (lv' := [(5, .int (nI 0)), (4, .int (nI S)), (0, .ref (a 0)), (1, .int (nI r)), (2, .int (nI S)), (3, .int (nI t))]) X.1 X.2.1 dX10_tick_26 hl (by decide) rfl (fun ls hl => ?_)
        have L28 : ∀ (K : Nat) (q : Nat) (x : Nat), N 0 0 - q < K → q ≤ N 0 0 → x < 4096 → x = S ||| ln_oru (ln_tFf N S) q → ∀ ls : Array Slot, lv_has ls 8 [(0, .ref (a 0)), (2, .int (nI S)), (4, .int (nI x)), (5, .int (nI q))] → W prg l env rum sta mid args below meth cod sta.heap [] 0 0 Q0 (F0 mid 28 ls []) := by
          intro K
          induction K with
          | zero => intro q x hm; exact absurd hm (Nat.not_lt_zero _)
          | succ K ih28 =>
            intro q x hm28 hp hxb hx ls hl
            refine lv_iload X.1 X.2.1 dX10_tick_28 (lv_at hl 3 rfl) ?_
            refine lv_aload_n X.1 X.2.1 dX10_tick_30 rfl (lv_at hl 0 rfl) ?_
            refine gM_0_0 X hP (v := nI (N 0 0)) hN.n mF_X10_48 dX10_tick_31 ?_
            refine rn_ge X (by omega) (by omega) (tgt := 87) dX10_tick_34 (by decide) (fun h34 => ?_) (fun h34 => ?_)
            · skip
              refine lv_iload X.1 X.2.1 dX10_tick_87 (lv_at hl 2 rfl) ?_
              subst hQ0
              exact ln_retR X hr hlk rfl (by unfold ln_tk ln_tp; rw [if_neg (by omega), if_neg h22, hx, show q = N 0 0 by omega]; rfl) dX10_tick_89
            · skip
              refine lv_aload_n X.1 X.2.1 dX10_tick_37 rfl (lv_at hl 0 rfl) ?_
              refine gM_0_4 X hP mF_X10_19 dX10_tick_38 ?_
              refine lv_iload X.1 X.2.1 dX10_tick_41 (lv_at hl 3 rfl) ?_
              refine lM_4 X hP (by omega) (v := nI (N 3 q)) (hN.bh (by omega)) dX10_tick_43 ?_
              refine lv_iload_n X.1 X.2.1 dX10_tick_44 rfl (lv_at hl 1 rfl) ?_
              refine lv_iconst (v := ((-1))) X.1 X.2.1 dX10_tick_45 (by decide) ?_
              refine lv_ixor X.1 X.2.1 dX10_tick_46 ?_
              refine rn_nt X dX10_tick_47 ?_
              refine lv_istore (lv' := [(6, .int (nI (ln_df (N 3 q) S))), (0, .ref (a 0)), (2, .int (nI S)), (4, .int (nI x)), (5, .int (nI q))]) X.1 X.2.1 dX10_tick_48 hl (by decide) rfl (fun ls hl => ?_)
              refine lv_iload_n X.1 X.2.1 dX10_tick_50 rfl (lv_at hl 2 rfl) ?_
              refine lv_iload X.1 X.2.1 dX10_tick_51 (lv_at hl 4 rfl) ?_
              refine ln_sR X (c_X10_has l D g 0 S q (ln_31 hS) (by omega) (Nat.le_refl _)) ln_nil mM_X10_70 Y_X10_has rfl (by omega) hl.1 rfl (Nat.le_of_ble_eq_true rfl) dX10_tick_53 ⟨Nat.zero_le _, Nat.zero_le _⟩ (fun r53 hr53 => ?_)
              subst hr53
              refine rn_eqB X (tgt := 81) dX10_tick_56 (by decide) (fun h56 => ?_) (fun h56 => ?_)
              · skip
                refine lv_iinc (v := nI (q + 1)) (lv' := [(5, .int (nI (q + 1))), (6, .int (nI (ln_df (N 3 q) S))), (0, .ref (a 0)), (2, .int (nI S)), (4, .int (nI x))]) X.1 X.2.1 dX10_tick_81 hl (k := 4) rfl rn_inc (by decide) rfl (fun ls hl => ?_)
                refine lv_goto (tgt := 28) X.1 X.2.1 dX10_tick_84 (by decide) ?_
                exact ih28 (q + 1) _ (by omega) (by omega) (by first | exact hxb | exact ln_or12 hxb (ln_df12 (hW.bh12 _))) (by first | exact ln_or0 hx (ln_tFf_a h56) | exact ln_or0 hx (ln_tFf_d h61) | exact ln_or0 hx (ln_tFf_b h71) | exact ln_or1 hx (ln_tFf_c h56 h71)) ls (lv_sub hl [2, 3, 4, 0] rfl)
              · skip
                refine lv_iload X.1 X.2.1 dX10_tick_59 (lv_at hl 0 rfl) ?_
                refine rn_eq0 X (ln_31 (ln_df_lt (hW.bh12 _))) (tgt := 81) dX10_tick_61 (by decide) (fun h61 => ?_) (fun h61 => ?_)
                · skip
                  refine lv_iinc (v := nI (q + 1)) (lv' := [(5, .int (nI (q + 1))), (6, .int (nI (ln_df (N 3 q) S))), (0, .ref (a 0)), (2, .int (nI S)), (4, .int (nI x))]) X.1 X.2.1 dX10_tick_81 hl (k := 4) rfl rn_inc (by decide) rfl (fun ls hl => ?_)
                  refine lv_goto (tgt := 28) X.1 X.2.1 dX10_tick_84 (by decide) ?_
                  exact ih28 (q + 1) _ (by omega) (by omega) (by first | exact hxb | exact ln_or12 hxb (ln_df12 (hW.bh12 _))) (by first | exact ln_or0 hx (ln_tFf_a h56) | exact ln_or0 hx (ln_tFf_d h61) | exact ln_or0 hx (ln_tFf_b h71) | exact ln_or1 hx (ln_tFf_c h56 h71)) ls (lv_sub hl [2, 3, 4, 0] rfl)
                · skip
                  refine lv_iload X.1 X.2.1 dX10_tick_64 (lv_at hl 0 rfl) ?_
                  refine lv_iload X.1 X.2.1 dX10_tick_66 (lv_at hl 0 rfl) ?_
                  refine lv_iconst (v := nI 1) X.1 X.2.1 dX10_tick_68 (by decide) ?_
                  refine lv_isub X.1 X.2.1 dX10_tick_69 ?_
                  refine rn_dec X dX10_tick_70 ?_
                  refine rn_ne0 X (ln_31 (ln_and_lt (ln_df_lt (hW.bh12 _)))) (tgt := 81) dX10_tick_71 (by decide) (fun h71 => ?_) (fun h71 => ?_)
                  · skip
                    refine lv_iinc (v := nI (q + 1)) (lv' := [(5, .int (nI (q + 1))), (6, .int (nI (ln_df (N 3 q) S))), (0, .ref (a 0)), (2, .int (nI S)), (4, .int (nI x))]) X.1 X.2.1 dX10_tick_81 hl (k := 4) rfl rn_inc (by decide) rfl (fun ls hl => ?_)
                    refine lv_goto (tgt := 28) X.1 X.2.1 dX10_tick_84 (by decide) ?_
                    exact ih28 (q + 1) _ (by omega) (by omega) (by first | exact hxb | exact ln_or12 hxb (ln_df12 (hW.bh12 _))) (by first | exact ln_or0 hx (ln_tFf_a h56) | exact ln_or0 hx (ln_tFf_d h61) | exact ln_or0 hx (ln_tFf_b h71) | exact ln_or1 hx (ln_tFf_c h56 h71)) ls (lv_sub hl [2, 3, 4, 0] rfl)
                  · skip
                    refine lv_iload X.1 X.2.1 dX10_tick_74 (lv_at hl 3 rfl) ?_
                    refine lv_iload X.1 X.2.1 dX10_tick_76 (lv_at hl 0 rfl) ?_
                    refine rn_or X dX10_tick_78 ?_
                    refine lv_istore (lv' := [(4, .int (nI (x ||| (ln_df (N 3 q) S)))), (6, .int (nI (ln_df (N 3 q) S))), (0, .ref (a 0)), (2, .int (nI S)), (5, .int (nI q))]) X.1 X.2.1 dX10_tick_79 hl (by decide) rfl (fun ls hl => ?_)
                    refine lv_iinc (v := nI (q + 1)) (lv' := [(5, .int (nI (q + 1))), (4, .int (nI (x ||| (ln_df (N 3 q) S)))), (6, .int (nI (ln_df (N 3 q) S))), (0, .ref (a 0)), (2, .int (nI S))]) X.1 X.2.1 dX10_tick_81 hl (k := 4) rfl rn_inc (by decide) rfl (fun ls hl => ?_)
                    refine lv_goto (tgt := 28) X.1 X.2.1 dX10_tick_84 (by decide) ?_
                    exact ih28 (q + 1) _ (by omega) (by omega) (by first | exact hxb | exact ln_or12 hxb (ln_df12 (hW.bh12 _))) (by first | exact ln_or0 hx (ln_tFf_a h56) | exact ln_or0 hx (ln_tFf_d h61) | exact ln_or0 hx (ln_tFf_b h71) | exact ln_or1 hx (ln_tFf_c h56 h71)) ls (lv_sub hl [3, 4, 1, 0] rfl)
        exact L28 _ 0 S (Nat.lt_succ_self _) (Nat.zero_le _) hS (by rw [show ln_oru (ln_tFf N S) 0 = 0 from rfl, Nat.or_zero]) ls (lv_sub hl [2, 4, 1, 0] rfl)
    · skip
      refine lv_iload_n X.1 X.2.1 dX10_tick_10 rfl (lv_at hl 2 rfl) ?_
      refine lv_aload_n X.1 X.2.1 dX10_tick_11 rfl (lv_at hl 0 rfl) ?_
      refine lv_iload_n X.1 X.2.1 dX10_tick_12 rfl (lv_at hl 2 rfl) ?_
      refine ln_vR X (c_X10_allBehind l D g a σ 1 N hW hN S hS (Nat.le_refl _)) hP 0 rfl rfl mM_X10_74 Y_X10_allBehind rfl (by omega) hl.1 rfl (Nat.le_of_ble_eq_true rfl) dX10_tick_13 ⟨Nat.zero_le _, Nat.zero_le _⟩ (fun r13 hr13 => ?_)
      subst hr13
      refine rn_or X dX10_tick_16 ?_
      subst hQ0
      exact ln_retR X hr hlk rfl (by unfold ln_tk; rw [if_pos ⟨h2, h7⟩]; rfl) dX10_tick_17
end
section
def ln_fs (f : Nat → Bool) : Nat → Nat
  | 0 => 0
  | k + 1 => if ln_fs f k < k then ln_fs f k else if f k then k else k + 1
theorem ln_fs_none {f : Nat → Bool} : ∀ {k : Nat}, (∀ j, j < k → f j = false) → ln_fs f k = k
  | 0, _ => rfl
  | k + 1, h => by
    show (if ln_fs f k < k then ln_fs f k else if f k then k else k + 1) = k + 1
    rw [ln_fs_none (fun j hj => h j (by omega)), if_neg (by omega), h k (by omega)]; rfl
theorem ln_fs_eq {f : Nat → Bool} {i : Nat} (hi : f i = true) (hj : ∀ j, j < i → f j = false) : ∀ {k : Nat}, i < k → ln_fs f k = i
  | 0, h => absurd h (Nat.not_lt_zero i)
  | k + 1, h => by
    show (if ln_fs f k < k then ln_fs f k else if f k then k else k + 1) = i
    by_cases hk : i = k
    · subst hk
      rw [ln_fs_none hj, if_neg (by omega), hi]; rfl
    · have h1 := ln_fs_eq hi hj (show i < k by omega)
      rw [h1, if_pos (by omega)]
theorem ln_fs_le (f : Nat → Bool) : ∀ k, ln_fs f k ≤ k
  | 0 => Nat.le_refl 0
  | k + 1 => by
    have h := ln_fs_le f k
    show (if ln_fs f k < k then ln_fs f k else if f k then k else k + 1) ≤ k + 1
    split
    · omega
    · split <;> omega
theorem ln_fs_yes {f : Nat → Bool} : ∀ {k : Nat}, ln_fs f k < k → f (ln_fs f k) = true
  | 0, h => absurd h (Nat.not_lt_zero _)
  | k + 1, h => by
    have e : ln_fs f (k + 1) = if ln_fs f k < k then ln_fs f k else if f k then k else k + 1 := rfl
    rw [e] at h ⊢
    by_cases h1 : ln_fs f k < k
    · rw [if_pos h1]; exact ln_fs_yes h1
    · rw [if_neg h1] at h ⊢
      cases hf : f k with
      | true => simpa using hf
      | false => rw [hf] at h; exact absurd h (by simp)
theorem ln_fs_no {f : Nat → Bool} : ∀ {k j : Nat}, j < ln_fs f k → f j = false
  | 0, j, h => absurd h (Nat.not_lt_zero j)
  | k + 1, j, h => by
    have e : ln_fs f (k + 1) = if ln_fs f k < k then ln_fs f k else if f k then k else k + 1 := rfl
    rw [e] at h
    by_cases h1 : ln_fs f k < k
    · rw [if_pos h1] at h; exact ln_fs_no h
    · rw [if_neg h1] at h
      have h2 : ln_fs f k = k := by have := ln_fs_le f k; omega
      by_cases hj : j < k
      · exact ln_fs_no (k := k) (by omega)
      · cases hf : f k with
        | true => rw [hf] at h; simp at h; omega
        | false => rw [hf] at h; simp at h; rw [show j = k by omega]; exact hf
theorem ln_fs_cong {f g : Nat → Bool} : ∀ {k : Nat}, (∀ j, j < k → f j = g j) → ln_fs f k = ln_fs g k
  | 0, _ => rfl
  | k + 1, h => by
    show (if ln_fs f k < k then ln_fs f k else if f k then k else k + 1) = (if ln_fs g k < k then ln_fs g k else if g k then k else k + 1)
    rw [ln_fs_cong (fun j hj => h j (by omega)), h k (by omega)]
def ln_fr (f : Nat → Bool) (k : Nat) : Int32 := if ln_fs f k < k then nI (ln_fs f k) else -1
theorem ln_fr_eq {f : Nat → Bool} {i k : Nat} (hi : f i = true) (hj : ∀ j, j < i → f j = false) (h : i < k) : nI i = ln_fr f k := by
  unfold ln_fr; rw [ln_fs_eq hi hj h, if_pos h]
theorem ln_fr_none {f : Nat → Bool} {k : Nat} (h : ∀ j, j < k → f j = false) : -1 = ln_fr f k := by
  unfold ln_fr; rw [ln_fs_none h, if_neg (by omega)]
theorem ln_fr_cases (f : Nat → Bool) (k : Nat) : (ln_fr f k = nI (ln_fs f k) ∧ ln_fs f k < k) ∨ (ln_fr f k = -1 ∧ ¬ ln_fs f k < k) := by
  unfold ln_fr
  by_cases h : ln_fs f k < k
  · exact Or.inl ⟨if_pos h, h⟩
  · exact Or.inr ⟨if_neg h, h⟩
def ln_stb (N : ln_N) (r S p : Nat) : Nat → Bool := fun t => (ln_st N r S t).testBit p
def ln_cm (N : ln_N) (r S p : Nat) : Int32 := ln_fr (ln_stb N r S p) (ln_et N r S + 1)
def ln_cb1 (N : ln_N) (on p : Nat) : Nat → Bool := fun q => on.testBit q && decide (ln_df (N 3 q) on = 2 ^ p)
def ln_pw (f : Nat → Bool) (k : Nat) : Nat := if ln_fs f k < k then 2 ^ ln_fs f k else 0
theorem ln_pw_eq {f : Nat → Bool} {i k : Nat} (hi : f i = true) (hj : ∀ j, j < i → f j = false) (h : i < k) : 2 ^ i = ln_pw f k := by
  unfold ln_pw; rw [ln_fs_eq hi hj h, if_pos h]
theorem ln_pw_none {f : Nat → Bool} {k : Nat} (h : ∀ j, j < k → f j = false) : 0 = ln_pw f k := by
  unfold ln_pw; rw [ln_fs_none h, if_neg (by omega)]
def ln_lw (x : Nat) : Nat := ln_pw x.testBit 12
set_option maxRecDepth 100000 in
theorem ln_lw_all : (List.range 4096).all (fun x => decide (nI x &&& (-(nI x)) = nI (ln_lw x))) = true := by decide +kernel
theorem ln_lw_ok {x : Nat} (h : x < 4096) : nI x &&& (-(nI x)) = nI (ln_lw x) := of_decide_eq_true (List.all_eq_true.mp ln_lw_all x (List.mem_range.mpr h))
/-- by what a post was brought on -/
def ln_br (N : ln_N) (r S p : Nat) : Int32 :=
  if ln_fs (ln_stb N r S p) (ln_et N r S + 1) < ln_et N r S + 1 then
    if ln_fs (ln_stb N r S p) (ln_et N r S + 1) = 0 then 0
    else if r = 0 then nI (ln_st N r S (ln_fs (ln_stb N r S p) (ln_et N r S + 1) - 1) &&& N 4 p)
    else if r = 2 ∧ ln_fs (ln_stb N r S p) (ln_et N r S + 1) = 1 then nI (ln_lw (ln_st N r S (ln_fs (ln_stb N r S p) (ln_et N r S + 1) - 1) &&& N 4 p))
    else nI (ln_pw (ln_cb1 N (ln_st N r S (ln_fs (ln_stb N r S p) (ln_et N r S + 1) - 1)) p) (N 0 0))
  else -1
theorem ln_lt_s {f : Nat → Bool} {i : Nat} (h : ∀ j, j < i → f j = false) (h2 : f i = false) : ∀ j, j < i + 1 → f j = false := fun j hj => by
  by_cases e : j = i
  · subst e; exact h2
  · exact h j (by omega)
theorem ln_cb1_t {N : ln_N} {on p q : Nat} (h : on.testBit q = true) (h2 : ln_df (N 3 q) on = 2 ^ p) : ln_cb1 N on p q = true := by unfold ln_cb1; rw [h, decide_eq_true h2]; rfl
theorem ln_cb1_f {N : ln_N} {on p q : Nat} (h : on.testBit q = false) : ln_cb1 N on p q = false := by unfold ln_cb1; rw [h]; rfl
theorem ln_cb1_g {N : ln_N} {on p q : Nat} (h2 : ln_df (N 3 q) on ≠ 2 ^ p) : ln_cb1 N on p q = false := by unfold ln_cb1; rw [decide_eq_false h2, Bool.and_false]
theorem ln_upd_n {f : Nat → Int32} {k j : Nat} {x : Int32} (h : j ≠ k) : upd f k x j = f j := if_neg h
theorem ln_upd_s {f : Nat → Int32} {k : Nat} {x : Int32} : upd f k x k = x := if_pos rfl
set_option maxHeartbeats 4000000 in
set_option maxRecDepth 100000 in
theorem c_X1_onAtEnd (l : Launch) (D : va_G) (g : Nat → ClassId) (a : Nat → Nat) (σ : ln_S) (d : Nat) (N : ln_N) (hW : ln_wf N) (hN : ln_nC N σ) (r S : Nat) (hS : S < 2 ^ N 0 0) (hR : ln_ran N r S (σ 11) (σ 10 0)) (hd : 0 ≤ d) : ln_R l D g (CW a g σ) yX1_onAtEnd (.code yX1_onAtEnd cX1_onAtEnd 1 (some .int)) d [.ref (a 10)] (fun z => z = nI (ln_end N r S)) := by
  have het := ln_et13 N r S
  refine ln_ofR (by decide +kernel) (Nat.le_of_ble_eq_true rfl) (fun prg env rum sta mid args below meth cod ls hr hlk X hP hl => ?_)
  have hl : lv_has ls 1 [(0, .ref (a 10))] := hl
  generalize hQ0 : (MQ below (vp_Si (fun z => z = nI (ln_end N r S))) args sta 0 0 (fun _ => False)) = Q0
  refine lv_aload_n X.1 X.2.1 dX1_onAtEnd_0 rfl (lv_at hl 0 rfl) ?_
  refine gC_10_2 X hP mF_X1_9 dX1_onAtEnd_1 ?_
  refine lv_aload_n X.1 X.2.1 dX1_onAtEnd_4 rfl (lv_at hl 0 rfl) ?_
  refine gC_10_3 X hP (v := nI (ln_et N r S)) hR.1 mF_X1_23 dX1_onAtEnd_5 ?_
  refine lC_11 X hP (by omega) (v := nI (ln_end N r S)) (by rw [hR.2 _ (Nat.le_refl _), ln_st_et]) dX1_onAtEnd_8 ?_
  subst hQ0
  exact ln_retR X hr hlk rfl rfl dX1_onAtEnd_9
set_option maxHeartbeats 4000000 in
set_option maxRecDepth 100000 in
theorem c_X1_tickOf (l : Launch) (D : va_G) (g : Nat → ClassId) (a : Nat → Nat) (σ : ln_S) (d : Nat) (N : ln_N) (hW : ln_wf N) (hN : ln_nC N σ) (r S p : Nat) (hS : S < 2 ^ N 0 0) (hp : p < 12) (hR : ln_ran N r S (σ 11) (σ 10 0)) (hd : 1 ≤ d) : ln_R l D g (CW a g σ) yX1_tickOf (.code yX1_tickOf cX1_tickOf 3 (some .int)) d [.ref (a 10), .int (nI p)] (fun z => z = ln_cm N r S p) := by
  have het := ln_et13 N r S
  refine ln_ofR (by decide +kernel) (Nat.le_of_ble_eq_true rfl) (fun prg env rum sta mid args below meth cod ls hr hlk X hP hl => ?_)
  have hl : lv_has ls 3 [(0, .ref (a 10)), (1, .int (nI p))] := hl
  generalize hQ0 : (MQ below (vp_Si (fun z => z = ln_cm N r S p)) args sta 0 0 (fun _ => False)) = Q0
  refine lv_iconst (v := nI 0) X.1 X.2.1 dX1_tickOf_0 (by decide) ?_
  refine lv_istore_n (lv' := [(2, .int (nI 0)), (0, .ref (a 10)), (1, .int (nI p))]) X.1 X.2.1 dX1_tickOf_1 rfl hl (by decide) rfl (fun ls hl => ?_)
  have L2 : ∀ (K : Nat) (t : Nat), ln_et N r S + 1 - t < K → (t ≤ ln_et N r S + 1) → (∀ j, j < t → ln_stb N r S p j = false) → ∀ ls : Array Slot, lv_has ls 3 [(0, .ref (a 10)), (1, .int (nI p)), (2, .int (nI t))] → W prg l env rum sta mid args below meth cod sta.heap [] 0 0 Q0 (F0 mid 2 ls []) := by
    intro K
    induction K with
    | zero => intro t hm; exact absurd hm (Nat.not_lt_zero _)
    | succ K ih2 =>
      intro t hm2 ht hj ls hl
      refine lv_iload_n X.1 X.2.1 dX1_tickOf_2 rfl (lv_at hl 2 rfl) ?_
      refine lv_aload_n X.1 X.2.1 dX1_tickOf_3 rfl (lv_at hl 0 rfl) ?_
      refine gC_10_3 X hP (v := nI (ln_et N r S)) hR.1 mF_X1_23 dX1_tickOf_4 ?_
      refine rn_gt X (by omega) (by omega) (tgt := 31) dX1_tickOf_7 (by decide) (fun h7 => ?_) (fun h7 => ?_)
      · skip
        refine lv_iconst (v := ((-1))) X.1 X.2.1 dX1_tickOf_31 (by decide) ?_
        subst hQ0
        exact ln_retR X hr hlk rfl (ln_fr_none (fun j hj2 => hj j (by omega))) dX1_tickOf_32
      · skip
        refine lv_aload_n X.1 X.2.1 dX1_tickOf_10 rfl (lv_at hl 0 rfl) ?_
        refine gC_10_2 X hP mF_X1_9 dX1_tickOf_11 ?_
        refine lv_iload_n X.1 X.2.1 dX1_tickOf_14 rfl (lv_at hl 2 rfl) ?_
        refine lC_11 X hP (by omega) (v := nI (ln_st N r S t)) (hR.2 t (by omega)) dX1_tickOf_15 ?_
        refine lv_iload_n X.1 X.2.1 dX1_tickOf_16 rfl (lv_at hl 1 rfl) ?_
        refine ln_nR X (c_X9_hasPost l D g 0 (ln_st N r S t) p (ln_31 (ln_st12 hW r hS t)) (by omega) (Nat.le_refl _)) ln_nil mM_X1_39 Y_X9_hasPost rfl (by omega) hl.1 rfl (Nat.le_of_ble_eq_true rfl) dX1_tickOf_17 ⟨Nat.zero_le _, Nat.zero_le _⟩ (fun r17 hr17 => ?_)
        subst hr17
        refine rn_eqB X (tgt := 25) dX1_tickOf_20 (by decide) (fun h20 => ?_) (fun h20 => ?_)
        · skip
          refine lv_iinc (v := nI (t + 1)) (lv' := [(2, .int (nI (t + 1))), (0, .ref (a 10)), (1, .int (nI p))]) X.1 X.2.1 dX1_tickOf_25 hl (k := 2) rfl rn_inc (by decide) rfl (fun ls hl => ?_)
          refine lv_goto (tgt := 2) X.1 X.2.1 dX1_tickOf_28 (by decide) ?_
          exact ih2 (t + 1) (by omega) (by omega) (ln_lt_s hj h20) ls (lv_sub hl [1, 2, 0] rfl)
        · skip
          refine lv_iload_n X.1 X.2.1 dX1_tickOf_23 rfl (lv_at hl 2 rfl) ?_
          subst hQ0
          exact ln_retR X hr hlk rfl (ln_fr_eq h20 hj (by omega)) dX1_tickOf_24
  exact L2 _ 0 (Nat.lt_succ_self _) (Nat.zero_le _) (fun j hj => absurd hj (Nat.not_lt_zero j)) ls (lv_sub hl [1, 2, 0] rfl)
set_option maxHeartbeats 4000000 in
set_option maxRecDepth 100000 in
theorem c_X1_leastForcing (l : Launch) (D : va_G) (g : Nat → ClassId) (a : Nat → Nat) (σ : ln_S) (d : Nat) (N : ln_N) (hW : ln_wf N) (hN : ln_nC N σ) (p on : Nat) (hp : p < 12) (hS : on < 4096) (hd : 1 ≤ d) : ln_R l D g (CW a g σ) yX1_leastForcing (.code yX1_leastForcing cX1_leastForcing 4 (some .int)) d [.ref (a 10), .int (nI p), .int (nI on)] (fun z => z = nI (ln_pw (ln_cb1 N on p) (N 0 0))) := by
  have hN12 := hW.n12
  have hp12 := hW.p12
  refine ln_ofR (by decide +kernel) (Nat.le_of_ble_eq_true rfl) (fun prg env rum sta mid args below meth cod ls hr hlk X hP hl => ?_)
  have hl : lv_has ls 4 [(0, .ref (a 10)), (1, .int (nI p)), (2, .int (nI on))] := hl
  generalize hQ0 : (MQ below (vp_Si (fun z => z = nI (ln_pw (ln_cb1 N on p) (N 0 0)))) args sta 0 0 (fun _ => False)) = Q0
  refine lv_iconst (v := nI 0) X.1 X.2.1 dX1_leastForcing_0 (by decide) ?_
  refine lv_istore_n (lv' := [(3, .int (nI 0)), (0, .ref (a 10)), (1, .int (nI p)), (2, .int (nI on))]) X.1 X.2.1 dX1_leastForcing_1 rfl hl (by decide) rfl (fun ls hl => ?_)
  have L2 : ∀ (K : Nat) (q : Nat), N 0 0 - q < K → (q ≤ N 0 0) → (∀ j, j < q → ln_cb1 N on p j = false) → ∀ ls : Array Slot, lv_has ls 4 [(0, .ref (a 10)), (1, .int (nI p)), (2, .int (nI on)), (3, .int (nI q))] → W prg l env rum sta mid args below meth cod sta.heap [] 0 0 Q0 (F0 mid 2 ls []) := by
    intro K
    induction K with
    | zero => intro q hm; exact absurd hm (Nat.not_lt_zero _)
    | succ K ih2 =>
      intro q hm2 hq hj ls hl
      refine lv_iload_n X.1 X.2.1 dX1_leastForcing_2 rfl (lv_at hl 3 rfl) ?_
      refine lv_aload_n X.1 X.2.1 dX1_leastForcing_3 rfl (lv_at hl 0 rfl) ?_
      refine gC_10_0 X hP mF_X1_15 dX1_leastForcing_4 ?_
      refine nC_1_0 X hP (v := nI (N 0 0)) hN.n mF_X1_52 dX1_leastForcing_7 ?_
      refine rn_ge X (by omega) (by omega) (tgt := 50) dX1_leastForcing_10 (by decide) (fun h10 => ?_) (fun h10 => ?_)
      · skip
        refine lv_iconst (v := nI 0) X.1 X.2.1 dX1_leastForcing_50 (by decide) ?_
        subst hQ0
        exact ln_retR X hr hlk rfl (by rw [← ln_pw_none (fun j hj2 => hj j (by omega))]) dX1_leastForcing_51
      · skip
        refine lv_iload_n X.1 X.2.1 dX1_leastForcing_13 rfl (lv_at hl 2 rfl) ?_
        refine lv_iload_n X.1 X.2.1 dX1_leastForcing_14 rfl (lv_at hl 3 rfl) ?_
        refine ln_nR X (c_X9_hasPost l D g 0 on q (ln_31 hS) (by omega) (Nat.le_refl _)) ln_nil mM_X1_39 Y_X9_hasPost rfl (by omega) hl.1 rfl (Nat.le_of_ble_eq_true rfl) dX1_leastForcing_15 ⟨Nat.zero_le _, Nat.zero_le _⟩ (fun r15 hr15 => ?_)
        subst hr15
        refine rn_eqB X (tgt := 44) dX1_leastForcing_18 (by decide) (fun h18 => ?_) (fun h18 => ?_)
        · skip
          refine lv_iinc (v := nI (q + 1)) (lv' := [(3, .int (nI (q + 1))), (0, .ref (a 10)), (1, .int (nI p)), (2, .int (nI on))]) X.1 X.2.1 dX1_leastForcing_44 hl (k := 3) rfl rn_inc (by decide) rfl (fun ls hl => ?_)
          refine lv_goto (tgt := 2) X.1 X.2.1 dX1_leastForcing_47 (by decide) ?_
          exact ih2 (q + 1) (by omega) (by omega) (ln_lt_s hj (by first | exact ln_cb1_f h18 | exact ln_cb1_g h37)) ls (lv_sub hl [1, 2, 3, 0] rfl)
        · skip
          refine lv_aload_n X.1 X.2.1 dX1_leastForcing_21 rfl (lv_at hl 0 rfl) ?_
          refine gC_10_0 X hP mF_X1_15 dX1_leastForcing_22 ?_
          refine nC_1_6 X hP mF_X1_55 dX1_leastForcing_25 ?_
          refine lv_iload_n X.1 X.2.1 dX1_leastForcing_28 rfl (lv_at hl 3 rfl) ?_
          refine lC_5 X hP (by omega) (v := nI (N 3 q)) (hN.bh (by omega)) dX1_leastForcing_29 ?_
          refine lv_iload_n X.1 X.2.1 dX1_leastForcing_30 rfl (lv_at hl 2 rfl) ?_
          refine lv_iconst (v := ((-1))) X.1 X.2.1 dX1_leastForcing_31 (by decide) ?_
          refine lv_ixor X.1 X.2.1 dX1_leastForcing_32 ?_
          refine rn_nt X dX1_leastForcing_33 ?_
          refine lv_iconst (v := nI 1) X.1 X.2.1 dX1_leastForcing_34 (by decide) ?_
          refine lv_iload_n X.1 X.2.1 dX1_leastForcing_35 rfl (lv_at hl 1 rfl) ?_
          refine rn_shl X (by omega) dX1_leastForcing_36 ?_
          refine rn_ne X (ln_31 (ln_df_lt (hW.bh12 _))) (ln_31 (ln_p12 (by omega))) (tgt := 44) dX1_leastForcing_37 (by decide) (fun h37 => ?_) (fun h37 => ?_)
          · skip
            refine lv_iinc (v := nI (q + 1)) (lv' := [(3, .int (nI (q + 1))), (0, .ref (a 10)), (1, .int (nI p)), (2, .int (nI on))]) X.1 X.2.1 dX1_leastForcing_44 hl (k := 3) rfl rn_inc (by decide) rfl (fun ls hl => ?_)
            refine lv_goto (tgt := 2) X.1 X.2.1 dX1_leastForcing_47 (by decide) ?_
            exact ih2 (q + 1) (by omega) (by omega) (ln_lt_s hj (by first | exact ln_cb1_f h18 | exact ln_cb1_g h37)) ls (lv_sub hl [1, 2, 3, 0] rfl)
          · skip
            refine lv_iconst (v := nI 1) X.1 X.2.1 dX1_leastForcing_40 (by decide) ?_
            refine lv_iload_n X.1 X.2.1 dX1_leastForcing_41 rfl (lv_at hl 3 rfl) ?_
            refine rn_shl X (by omega) dX1_leastForcing_42 ?_
            subst hQ0
            exact ln_retR X hr hlk rfl (by rw [ln_pw_eq (ln_cb1_t h18 h37) hj (by omega)]) dX1_leastForcing_43
  exact L2 _ 0 (Nat.lt_succ_self _) (Nat.zero_le _) (fun j hj => absurd hj (Nat.not_lt_zero j)) ls (lv_sub hl [1, 2, 3, 0] rfl)
set_option maxHeartbeats 4000000 in
set_option maxRecDepth 100000 in
theorem c_X1_bringersOf (l : Launch) (D : va_G) (g : Nat → ClassId) (a : Nat → Nat) (σ : ln_S) (d : Nat) (N : ln_N) (hW : ln_wf N) (hN : ln_nC N σ) (r S p : Nat) (hr3 : r < 3) (hS : S < 2 ^ N 0 0) (hp : p < N 0 0) (hR : ln_ran N r S (σ 11) (σ 10 0)) (hd : 2 ≤ d) : ln_R l D g (CW a g σ) yX1_bringersOf (.code yX1_bringersOf cX1_bringersOf 6 (some .int)) d [.ref (a 10), .int (nI r), .int (nI p)] (fun z => z = ln_br N r S p) := by
  have hN12 := hW.n12
  have hp12 := hW.p12
  have het := ln_et13 N r S
  refine ln_ofR (by decide +kernel) (Nat.le_of_ble_eq_true rfl) (fun prg env rum sta mid args below meth cod ls hr hlk X hP hl => ?_)
  have hl : lv_has ls 6 [(0, .ref (a 10)), (1, .int (nI r)), (2, .int (nI p))] := hl
  generalize hQ0 : (MQ below (vp_Si (fun z => z = ln_br N r S p)) args sta 0 0 (fun _ => False)) = Q0
  refine lv_aload_n X.1 X.2.1 dX1_bringersOf_0 rfl (lv_at hl 0 rfl) ?_
  refine lv_iload_n X.1 X.2.1 dX1_bringersOf_1 rfl (lv_at hl 2 rfl) ?_
  refine ln_vR X (c_X1_tickOf l D g a σ 1 N hW hN r S p hS (by omega) hR (Nat.le_refl _)) hP 10 rfl rfl mM_X1_43 Y_X1_tickOf rfl (by omega) hl.1 rfl (Nat.le_of_ble_eq_true rfl) dX1_bringersOf_2 ⟨Nat.zero_le _, Nat.zero_le _⟩ (fun r2 hr2 => ?_)
  subst hr2
  rcases ln_fr_cases (ln_stb N r S p) (ln_et N r S + 1) with ⟨ez, c1⟩ | ⟨ez, c1⟩
  · refine rn_top (y := nI (ln_fs (ln_stb N r S p) (ln_et N r S + 1))) ez ?_
    refine lv_istore_n (lv' := [(3, .int (nI (ln_fs (ln_stb N r S p) (ln_et N r S + 1)))), (0, .ref (a 10)), (1, .int (nI r)), (2, .int (nI p))]) X.1 X.2.1 dX1_bringersOf_5 rfl hl (by decide) rfl (fun ls hl => ?_)
    refine lv_iload_n X.1 X.2.1 dX1_bringersOf_6 rfl (lv_at hl 0 rfl) ?_
    refine rn_ge0 X (by omega) (tgt := 12) dX1_bringersOf_7 (by decide) ?_
    refine lv_iload_n X.1 X.2.1 dX1_bringersOf_12 rfl (lv_at hl 0 rfl) ?_
    refine rn_ne0 X (by omega) (tgt := 18) dX1_bringersOf_13 (by decide) (fun h13 => ?_) (fun h13 => ?_)
    · skip
      refine lv_aload_n X.1 X.2.1 dX1_bringersOf_18 rfl (lv_at hl 1 rfl) ?_
      refine gC_10_2 X hP mF_X1_9 dX1_bringersOf_19 ?_
      refine lv_iload_n X.1 X.2.1 dX1_bringersOf_22 rfl (lv_at hl 0 rfl) ?_
      refine lv_iconst (v := nI 1) X.1 X.2.1 dX1_bringersOf_23 (by decide) ?_
      refine rn_sub X (by omega) dX1_bringersOf_24 ?_
      refine lC_11 X hP (by omega) (v := nI (ln_st N r S (ln_fs (ln_stb N r S p) (ln_et N r S + 1) - 1))) (hR.2 _ (by omega)) dX1_bringersOf_25 ?_
      refine lv_istore (lv' := [(4, .int (nI (ln_st N r S (ln_fs (ln_stb N r S p) (ln_et N r S + 1) - 1)))), (3, .int (nI (ln_fs (ln_stb N r S p) (ln_et N r S + 1)))), (0, .ref (a 10)), (1, .int (nI r)), (2, .int (nI p))]) X.1 X.2.1 dX1_bringersOf_26 hl (by decide) rfl (fun ls hl => ?_)
      refine lv_iload X.1 X.2.1 dX1_bringersOf_28 (lv_at hl 0 rfl) ?_
      refine lv_aload_n X.1 X.2.1 dX1_bringersOf_30 rfl (lv_at hl 2 rfl) ?_
      refine gC_10_0 X hP mF_X1_15 dX1_bringersOf_31 ?_
      refine nC_1_7 X hP mF_X1_46 dX1_bringersOf_34 ?_
      refine lv_iload_n X.1 X.2.1 dX1_bringersOf_37 rfl (lv_at hl 4 rfl) ?_
      refine lC_6 X hP (by omega) (v := nI (N 4 p)) (hN.ah (by omega)) dX1_bringersOf_38 ?_
      refine rn_and X dX1_bringersOf_39 ?_
      refine lv_istore (lv' := [(5, .int (nI ((ln_st N r S (ln_fs (ln_stb N r S p) (ln_et N r S + 1) - 1)) &&& (N 4 p)))), (4, .int (nI (ln_st N r S (ln_fs (ln_stb N r S p) (ln_et N r S + 1) - 1)))), (3, .int (nI (ln_fs (ln_stb N r S p) (ln_et N r S + 1)))), (0, .ref (a 10)), (1, .int (nI r)), (2, .int (nI p))]) X.1 X.2.1 dX1_bringersOf_40 hl (by decide) rfl (fun ls hl => ?_)
      refine lv_iload_n X.1 X.2.1 dX1_bringersOf_42 rfl (lv_at hl 4 rfl) ?_
      refine rn_ne0 X (by omega) (tgt := 49) dX1_bringersOf_43 (by decide) (fun h43 => ?_) (fun h43 => ?_)
      · skip
        refine lv_iload_n X.1 X.2.1 dX1_bringersOf_49 rfl (lv_at hl 4 rfl) ?_
        refine lv_iconst (v := nI 2) X.1 X.2.1 dX1_bringersOf_50 (by decide) ?_
        refine rn_ne X (by omega) (by decide) (tgt := 68) dX1_bringersOf_51 (by decide) (fun h51 => ?_) (fun h51 => ?_)
        · skip
          refine lv_aload_n X.1 X.2.1 dX1_bringersOf_68 rfl (lv_at hl 3 rfl) ?_
          refine lv_iload_n X.1 X.2.1 dX1_bringersOf_69 rfl (lv_at hl 5 rfl) ?_
          refine lv_iload X.1 X.2.1 dX1_bringersOf_70 (lv_at hl 1 rfl) ?_
          refine ln_vR X (c_X1_leastForcing l D g a σ 1 N hW hN p (ln_st N r S (ln_fs (ln_stb N r S p) (ln_et N r S + 1) - 1)) (by omega) (ln_st12 hW r hS _) (Nat.le_refl _)) hP 10 rfl rfl mM_X1_49 Y_X1_leastForcing rfl (by omega) hl.1 rfl (Nat.le_of_ble_eq_true rfl) dX1_bringersOf_72 ⟨Nat.zero_le _, Nat.zero_le _⟩ (fun r72 hr72 => ?_)
          subst hr72
          subst hQ0
          exact ln_retR X hr hlk rfl (by unfold ln_br; rw [if_pos c1, if_neg h13, if_neg h43]; first | rw [if_neg (show ¬ (r = 2 ∧ ln_fs (ln_stb N r S p) (ln_et N r S + 1) = 1) by omega)] | rw [if_pos (show r = 2 ∧ ln_fs (ln_stb N r S p) (ln_et N r S + 1) = 1 from And.intro h51 h56)]) dX1_bringersOf_75
        · skip
          refine lv_iload_n X.1 X.2.1 dX1_bringersOf_54 rfl (lv_at hl 2 rfl) ?_
          refine lv_iconst (v := nI 1) X.1 X.2.1 dX1_bringersOf_55 (by decide) ?_
          refine rn_ne X (by omega) (by decide) (tgt := 68) dX1_bringersOf_56 (by decide) (fun h56 => ?_) (fun h56 => ?_)
          · skip
            refine lv_aload_n X.1 X.2.1 dX1_bringersOf_68 rfl (lv_at hl 3 rfl) ?_
            refine lv_iload_n X.1 X.2.1 dX1_bringersOf_69 rfl (lv_at hl 5 rfl) ?_
            refine lv_iload X.1 X.2.1 dX1_bringersOf_70 (lv_at hl 1 rfl) ?_
            refine ln_vR X (c_X1_leastForcing l D g a σ 1 N hW hN p (ln_st N r S (ln_fs (ln_stb N r S p) (ln_et N r S + 1) - 1)) (by omega) (ln_st12 hW r hS _) (Nat.le_refl _)) hP 10 rfl rfl mM_X1_49 Y_X1_leastForcing rfl (by omega) hl.1 rfl (Nat.le_of_ble_eq_true rfl) dX1_bringersOf_72 ⟨Nat.zero_le _, Nat.zero_le _⟩ (fun r72 hr72 => ?_)
            subst hr72
            subst hQ0
            exact ln_retR X hr hlk rfl (by unfold ln_br; rw [if_pos c1, if_neg h13, if_neg h43]; first | rw [if_neg (show ¬ (r = 2 ∧ ln_fs (ln_stb N r S p) (ln_et N r S + 1) = 1) by omega)] | rw [if_pos (show r = 2 ∧ ln_fs (ln_stb N r S p) (ln_et N r S + 1) = 1 from And.intro h51 h56)]) dX1_bringersOf_75
          · skip
            refine lv_iload X.1 X.2.1 dX1_bringersOf_59 (lv_at hl 0 rfl) ?_
            refine lv_iload X.1 X.2.1 dX1_bringersOf_61 (lv_at hl 0 rfl) ?_
            refine lv_ineg X.1 X.2.1 dX1_bringersOf_63 ?_
            refine lv_iand X.1 X.2.1 dX1_bringersOf_64 ?_
            refine rn_top (y := nI (ln_lw (ln_st N r S (ln_fs (ln_stb N r S p) (ln_et N r S + 1) - 1) &&& N 4 p))) (ln_lw_ok (ln_and_lt (ln_st12 hW r hS _))) ?_
            refine lv_goto (tgt := 75) X.1 X.2.1 dX1_bringersOf_65 (by decide) ?_
            subst hQ0
            exact ln_retR X hr hlk rfl (by unfold ln_br; rw [if_pos c1, if_neg h13, if_neg h43]; first | rw [if_neg (show ¬ (r = 2 ∧ ln_fs (ln_stb N r S p) (ln_et N r S + 1) = 1) by omega)] | rw [if_pos (show r = 2 ∧ ln_fs (ln_stb N r S p) (ln_et N r S + 1) = 1 from And.intro h51 h56)]) dX1_bringersOf_75
      · skip
        refine lv_iload X.1 X.2.1 dX1_bringersOf_46 (lv_at hl 0 rfl) ?_
        subst hQ0
        exact ln_retR X hr hlk rfl (by unfold ln_br; rw [if_pos c1, if_neg h13, if_pos h43]) dX1_bringersOf_48
    · skip
      refine lv_iconst (v := nI 0) X.1 X.2.1 dX1_bringersOf_16 (by decide) ?_
      subst hQ0
      exact ln_retR X hr hlk rfl (by unfold ln_br; rw [if_pos c1, if_pos h13]; rfl) dX1_bringersOf_17
  · refine rn_top (y := ((-1))) ez ?_
    refine lv_istore_n (lv' := [(3, .int ((-1))), (0, .ref (a 10)), (1, .int (nI r)), (2, .int (nI p))]) X.1 X.2.1 dX1_bringersOf_5 rfl hl (by decide) rfl (fun ls hl => ?_)
    refine lv_iload_n X.1 X.2.1 dX1_bringersOf_6 rfl (lv_at hl 0 rfl) ?_
    refine lv_if_ge (tgt := 12) X.1 X.2.1 dX1_bringersOf_7 (by decide) (fun h7 => absurd h7 (by decide)) (fun h7 => ?_)
    refine lv_iconst (v := ((-1))) X.1 X.2.1 dX1_bringersOf_10 (by decide) ?_
    subst hQ0
    exact ln_retR X hr hlk rfl (by unfold ln_br; rw [if_neg c1]) dX1_bringersOf_11
set_option maxHeartbeats 4000000 in
set_option maxRecDepth 100000 in
theorem c_X1_follow (l : Launch) (D : va_G) (g : Nat → ClassId) (a : Nat → Nat) (σ : ln_S) (d : Nat) (N : ln_N) (hW : ln_wf N) (hN : ln_nC N σ) (r S : Nat) (hr3 : r < 3) (hS : S < 2 ^ N 0 0) (hd : 3 ≤ d) : ln_V l D g (CW a g) yX1_follow (.code yX1_follow cX1_follow 6 none) d [.ref (a 10), .int (nI r), .int (nI S)] σ (fun τ => ln_ran N r S (τ 11) (τ 10 0) ∧ ∀ c, c ≠ 10 → c ≠ 11 → τ c = σ c) := by
  have hN12 := hW.n12
  have hp12 := hW.p12
  refine ln_ofV (by decide +kernel) (Nat.le_of_ble_eq_true rfl) (fun prg env rum sta mid args below meth cod ls A hr hlk X hA hP hDw hSw hl => ?_)
  have hl : lv_has ls 6 [(0, .ref (a 10)), (1, .int (nI r)), (2, .int (nI S))] := hl
  generalize hQ0 : (MQ below (va_Qv (fun τ => ln_ran N r S (τ 11) (τ 10 0) ∧ ∀ c, c ≠ 10 → c ≠ 11 → τ c = σ c) (fun τ t => va_P D ln_cl (CW a g τ) t.heap) A) args sta 0 0 A) = Q0
  obtain ⟨H, hH⟩ : ∃ H, H = sta.heap := ⟨_, rfl⟩
  obtain ⟨locs, hlo⟩ : ∃ x : List Loc, x = [] := ⟨_, rfl⟩
  rw [← hH] at hP
  have hSw : va_S A sta.heap H locs := by rw [hH, hlo]; exact hSw
  have goal : W prg l env rum sta mid args below meth cod H locs 0 0 Q0 (F0 mid 0 ls []) := ?_
  · rw [hH, hlo] at goal; exact goal
  clear hlo
  refine lv_aload_n X.1 X.2.1 dX1_follow_0 rfl (lv_at hl 0 rfl) ?_
  refine gC_10_2 X hP mF_X1_9 dX1_follow_1 ?_
  refine lv_iconst (v := nI 0) X.1 X.2.1 dX1_follow_4 (by decide) ?_
  refine lv_iload_n X.1 X.2.1 dX1_follow_5 rfl (lv_at hl 2 rfl) ?_
  refine sC_11 X hP hDw hSw (by decide) dX1_follow_6 (fun H locs hP hDw hSw => ?_)
  obtain ⟨σ1, hσ1⟩ : ∃ z : ln_S, z = (ln_up σ 11 (upd (σ 11) 0 (nI S))) := ⟨_, rfl⟩
  rw [← hσ1] at hP hDw
  refine lv_aload_n X.1 X.2.1 dX1_follow_7 rfl (lv_at hl 0 rfl) ?_
  refine lv_iconst (v := nI 0) X.1 X.2.1 dX1_follow_8 (by decide) ?_
  refine pC_10_3 X hP hDw hSw mF_X1_23 dX1_follow_9 (fun H locs hP hDw hSw => ?_)
  obtain ⟨σ2, hσ2⟩ : ∃ z : ln_S, z = (ln_up σ1 10 (upd (σ1 10) 0 (nI 0))) := ⟨_, rfl⟩
  rw [← hσ2] at hP hDw
  refine lv_iconst (v := nI 1) X.1 X.2.1 dX1_follow_12 (by decide) ?_
  refine lv_istore_n (lv' := [(3, .int (nI 1)), (0, .ref (a 10)), (1, .int (nI r)), (2, .int (nI S))]) X.1 X.2.1 dX1_follow_13 rfl hl (by decide) rfl (fun ls hl => ?_)
  have L14 : ∀ (K : Nat) (t : Nat) (τ : ln_S) (H : Heap) (locs : List Loc), 13 - t < K → (t ≤ 13) → (∀ j, j ≤ t → τ 11 j = nI (ln_st N r S j)) → (τ 10 0 = nI (ln_lc (ln_st N r S) t)) → (∀ c, c ≠ 10 → c ≠ 11 → τ c = σ c) → va_P D ln_cl (CW a g τ) H → va_D A (CW a g τ) → va_S A sta.heap H locs → ∀ ls : Array Slot, lv_has ls 6 [(0, .ref (a 10)), (1, .int (nI r)), (3, .int (nI (t + 1)))] → W prg l env rum sta mid args below meth cod H locs 0 0 Q0 (F0 mid 14 ls []) := by
    intro K
    induction K with
    | zero => intro t τ H locs hm; exact absurd hm (Nat.not_lt_zero _)
    | succ K ih14 =>
      intro t τ H locs hm14 ht hj he ho hP hDw hSw ls hl
      have hN : ln_nC N τ := hN.of (fun c hc => ho c (by omega) (by omega))
      refine lv_iload_n X.1 X.2.1 dX1_follow_14 rfl (lv_at hl 2 rfl) ?_
      refine lv_aload_n X.1 X.2.1 dX1_follow_15 rfl (lv_at hl 0 rfl) ?_
      refine gC_10_2 X hP mF_X1_9 dX1_follow_16 ?_
      refine va_alen X.1 X.2.1 X.2.2.2.2.1 hP 11 0 rfl rfl (v := nI 14) rfl dX1_follow_19 ?_
      refine rn_ge X (by omega) (by decide) (tgt := 114) dX1_follow_20 (by decide) (fun h20 => ?_) (fun h20 => ?_)
      · skip
        subst hQ0
        exact ln_retV X hr hlk hP hSw (by rw [show t = 13 by omega] at he hj; exact ⟨⟨he, fun j hq => hj j (by have := ln_et13 N r S; omega)⟩, ho⟩) dX1_follow_114
      · skip
        have ht12 : t ≤ 12 := by omega
        refine lv_aload_n X.1 X.2.1 dX1_follow_23 rfl (lv_at hl 0 rfl) ?_
        refine gC_10_2 X hP mF_X1_9 dX1_follow_24 ?_
        refine lv_iload_n X.1 X.2.1 dX1_follow_27 rfl (lv_at hl 2 rfl) ?_
        refine lv_iconst (v := nI 1) X.1 X.2.1 dX1_follow_28 (by decide) ?_
        refine rn_sub X (by omega) dX1_follow_29 ?_
        refine rn_top (y := nI t) rfl ?_
        refine lC_11 X hP (by omega) (v := nI (ln_st N r S t)) (hj t (Nat.le_refl t)) dX1_follow_30 ?_
        refine lv_istore (lv' := [(4, .int (nI (ln_st N r S t))), (0, .ref (a 10)), (1, .int (nI r)), (3, .int (nI (t + 1)))]) X.1 X.2.1 dX1_follow_31 hl (by decide) rfl (fun ls hl => ?_)
        refine lv_iload_n X.1 X.2.1 dX1_follow_33 rfl (lv_at hl 2 rfl) ?_
        refine lv_iconst (v := nI 2) X.1 X.2.1 dX1_follow_34 (by decide) ?_
        refine rn_ne X (by omega) (by decide) (tgt := 47) dX1_follow_35 (by decide) (fun h35 => ?_) (fun h35 => ?_)
        · skip
          refine lv_iconst (v := nI 0) X.1 X.2.1 dX1_follow_47 (by decide) ?_
          refine lv_istore (lv' := [(5, .int (nI 0)), (4, .int (nI (ln_st N r S t))), (0, .ref (a 10)), (1, .int (nI r)), (3, .int (nI (t + 1)))]) X.1 X.2.1 dX1_follow_48 hl (by decide) rfl (fun ls hl => ?_)
          refine lv_aload_n X.1 X.2.1 dX1_follow_50 rfl (lv_at hl 2 rfl) ?_
          refine gC_10_2 X hP mF_X1_9 dX1_follow_51 ?_
          refine lv_iload_n X.1 X.2.1 dX1_follow_54 rfl (lv_at hl 4 rfl) ?_
          refine lv_iload X.1 X.2.1 dX1_follow_55 (lv_at hl 0 rfl) ?_
          refine rn_eq0 X (by decide) (tgt := 72) dX1_follow_57 (by decide) (fun _ => ?_) (fun q => absurd (q) (by decide))
          refine lv_aload_n X.1 X.2.1 dX1_follow_72 rfl (lv_at hl 2 rfl) ?_
          refine gC_10_1 X hP mF_X1_19 dX1_follow_73 ?_
          refine lv_iload_n X.1 X.2.1 dX1_follow_76 rfl (lv_at hl 3 rfl) ?_
          refine lv_iload X.1 X.2.1 dX1_follow_77 (lv_at hl 1 rfl) ?_
          refine ln_vR X (c_X6_afterTick l D g a τ 2 N hW hN r (ln_st N r S t) (by omega) (ln_st12 hW r hS t) (Nat.le_refl _)) hP 7 rfl rfl mM_X1_33 Y_X6_afterTick rfl (by omega) hl.1 rfl (Nat.le_of_ble_eq_true rfl) dX1_follow_79 ⟨Nat.zero_le _, Nat.zero_le _⟩ (fun r79 hr79 => ?_)
          subst hr79
          refine rn_top (y := nI (ln_st N r S (t + 1))) (by show nI (ln_tp N r (ln_st N r S t)) = nI (ln_tk N r (t + 1) (ln_st N r S t)); unfold ln_tk; rw [if_neg (by omega)]) ?_
          refine sC_11 X hP hDw hSw (by omega) dX1_follow_82 (fun H locs hP hDw hSw => ?_)
          obtain ⟨τ1, hτ1⟩ : ∃ z : ln_S, z = (ln_up τ 11 (upd (τ 11) (t + 1) (nI (ln_st N r S (t + 1))))) := ⟨_, rfl⟩
          rw [← hτ1] at hP hDw
          have hj1 : ∀ j, j ≤ t + 1 → τ1 11 j = nI (ln_st N r S j) := fun j hj2 => by
                                  rw [hτ1, ln_up_s]
                                  by_cases e : j = t + 1
                                  · subst e; exact ln_upd_s
                                  · rw [ln_upd_n e]; exact hj j (by omega)
          have he1 : τ1 10 0 = nI (ln_lc (ln_st N r S) t) := by rw [hτ1, ln_up_n _ _ (by decide)]; exact he
          have ho1 : ∀ c, c ≠ 10 → c ≠ 11 → τ1 c = σ c := fun c h1 h2 => by rw [hτ1, ln_up_n _ _ h2]; exact ho c h1 h2
          refine lv_aload_n X.1 X.2.1 dX1_follow_83 rfl (lv_at hl 2 rfl) ?_
          refine gC_10_2 X hP mF_X1_9 dX1_follow_84 ?_
          refine lv_iload_n X.1 X.2.1 dX1_follow_87 rfl (lv_at hl 4 rfl) ?_
          refine lC_11 X hP (by omega) (v := nI (ln_st N r S (t + 1))) (hj1 _ (Nat.le_refl _)) dX1_follow_88 ?_
          refine lv_iload X.1 X.2.1 dX1_follow_89 (lv_at hl 1 rfl) ?_
          refine rn_eq X (ln_31 (ln_st12 hW r hS (t + 1))) (ln_31 (ln_st12 hW r hS t)) (tgt := 102) dX1_follow_91 (by decide) (fun h91 => ?_) (fun h91 => ?_)
          · skip
            refine lv_iload X.1 X.2.1 dX1_follow_102 (lv_at hl 0 rfl) ?_
            refine rn_ne0 X (by decide) (tgt := 108) dX1_follow_104 (by decide) (fun q => absurd q (by decide)) (fun _ => ?_)
            subst hQ0
            exact ln_retV X hr hlk hP hSw ⟨⟨by rw [he1, (ln_stop ht12 (by omega) h91).1], fun j hq => hj1 j (by have := ln_lc_le (ln_st N r S) t; rw [← (ln_stop ht12 (by omega) h91).1] at hq; omega)⟩, ho1⟩ dX1_follow_107
          · skip
            refine lv_aload_n X.1 X.2.1 dX1_follow_94 rfl (lv_at hl 2 rfl) ?_
            refine lv_iload_n X.1 X.2.1 dX1_follow_95 rfl (lv_at hl 4 rfl) ?_
            refine pC_10_3 X hP hDw hSw mF_X1_23 dX1_follow_96 (fun H locs hP hDw hSw => ?_)
            obtain ⟨τ2, hτ2⟩ : ∃ z : ln_S, z = (ln_up τ1 10 (upd (τ1 10) 0 (nI (t + 1)))) := ⟨_, rfl⟩
            rw [← hτ2] at hP hDw
            have hj2 : ∀ j, j ≤ t + 1 → τ2 11 j = nI (ln_st N r S j) := fun j hq => by rw [hτ2, ln_up_n _ _ (by decide)]; exact hj1 j hq
            have he2 : τ2 10 0 = nI (ln_lc (ln_st N r S) (t + 1)) := by rw [hτ2, ln_up_s, ln_upd_s, ln_lc_n h91]
            have ho2 : ∀ c, c ≠ 10 → c ≠ 11 → τ2 c = σ c := fun c h1 h2 => by rw [hτ2, ln_up_n _ _ h1]; exact ho1 c h1 h2
            refine lv_goto (tgt := 108) X.1 X.2.1 dX1_follow_99 (by decide) ?_
            refine lv_iinc (v := nI (t + 1 + 1)) (lv' := [(3, .int (nI (t + 1 + 1))), (5, .int (nI 0)), (4, .int (nI (ln_st N r S t))), (0, .ref (a 10)), (1, .int (nI r))]) X.1 X.2.1 dX1_follow_108 hl (k := 4) rfl rn_inc (by decide) rfl (fun ls hl => ?_)
            refine lv_goto (tgt := 14) X.1 X.2.1 dX1_follow_111 (by decide) ?_
            exact ih14 (t + 1) τ2 H locs (by omega) (by omega) (by first | exact hj2 | exact hj1) (by first | exact he2 | (rw [he1, ln_lc_s h91])) (by first | exact ho2 | exact ho1) hP hDw hSw ls (lv_sub hl [3, 4, 0] rfl)
        · skip
          refine lv_iload_n X.1 X.2.1 dX1_follow_38 rfl (lv_at hl 3 rfl) ?_
          refine lv_iconst (v := nI 1) X.1 X.2.1 dX1_follow_39 (by decide) ?_
          refine rn_ne X (by omega) (by decide) (tgt := 47) dX1_follow_40 (by decide) (fun h40 => ?_) (fun h40 => ?_)
          · skip
            refine lv_iconst (v := nI 0) X.1 X.2.1 dX1_follow_47 (by decide) ?_
            refine lv_istore (lv' := [(5, .int (nI 0)), (4, .int (nI (ln_st N r S t))), (0, .ref (a 10)), (1, .int (nI r)), (3, .int (nI (t + 1)))]) X.1 X.2.1 dX1_follow_48 hl (by decide) rfl (fun ls hl => ?_)
            refine lv_aload_n X.1 X.2.1 dX1_follow_50 rfl (lv_at hl 2 rfl) ?_
            refine gC_10_2 X hP mF_X1_9 dX1_follow_51 ?_
            refine lv_iload_n X.1 X.2.1 dX1_follow_54 rfl (lv_at hl 4 rfl) ?_
            refine lv_iload X.1 X.2.1 dX1_follow_55 (lv_at hl 0 rfl) ?_
            refine rn_eq0 X (by decide) (tgt := 72) dX1_follow_57 (by decide) (fun _ => ?_) (fun q => absurd (q) (by decide))
            refine lv_aload_n X.1 X.2.1 dX1_follow_72 rfl (lv_at hl 2 rfl) ?_
            refine gC_10_1 X hP mF_X1_19 dX1_follow_73 ?_
            refine lv_iload_n X.1 X.2.1 dX1_follow_76 rfl (lv_at hl 3 rfl) ?_
            refine lv_iload X.1 X.2.1 dX1_follow_77 (lv_at hl 1 rfl) ?_
            refine ln_vR X (c_X6_afterTick l D g a τ 2 N hW hN r (ln_st N r S t) (by omega) (ln_st12 hW r hS t) (Nat.le_refl _)) hP 7 rfl rfl mM_X1_33 Y_X6_afterTick rfl (by omega) hl.1 rfl (Nat.le_of_ble_eq_true rfl) dX1_follow_79 ⟨Nat.zero_le _, Nat.zero_le _⟩ (fun r79 hr79 => ?_)
            subst hr79
            refine rn_top (y := nI (ln_st N r S (t + 1))) (by show nI (ln_tp N r (ln_st N r S t)) = nI (ln_tk N r (t + 1) (ln_st N r S t)); unfold ln_tk; rw [if_neg (by omega)]) ?_
            refine sC_11 X hP hDw hSw (by omega) dX1_follow_82 (fun H locs hP hDw hSw => ?_)
            obtain ⟨τ1, hτ1⟩ : ∃ z : ln_S, z = (ln_up τ 11 (upd (τ 11) (t + 1) (nI (ln_st N r S (t + 1))))) := ⟨_, rfl⟩
            rw [← hτ1] at hP hDw
            have hj1 : ∀ j, j ≤ t + 1 → τ1 11 j = nI (ln_st N r S j) := fun j hj2 => by
                                  rw [hτ1, ln_up_s]
                                  by_cases e : j = t + 1
                                  · subst e; exact ln_upd_s
                                  · rw [ln_upd_n e]; exact hj j (by omega)
            have he1 : τ1 10 0 = nI (ln_lc (ln_st N r S) t) := by rw [hτ1, ln_up_n _ _ (by decide)]; exact he
            have ho1 : ∀ c, c ≠ 10 → c ≠ 11 → τ1 c = σ c := fun c h1 h2 => by rw [hτ1, ln_up_n _ _ h2]; exact ho c h1 h2
            refine lv_aload_n X.1 X.2.1 dX1_follow_83 rfl (lv_at hl 2 rfl) ?_
            refine gC_10_2 X hP mF_X1_9 dX1_follow_84 ?_
            refine lv_iload_n X.1 X.2.1 dX1_follow_87 rfl (lv_at hl 4 rfl) ?_
            refine lC_11 X hP (by omega) (v := nI (ln_st N r S (t + 1))) (hj1 _ (Nat.le_refl _)) dX1_follow_88 ?_
            refine lv_iload X.1 X.2.1 dX1_follow_89 (lv_at hl 1 rfl) ?_
            refine rn_eq X (ln_31 (ln_st12 hW r hS (t + 1))) (ln_31 (ln_st12 hW r hS t)) (tgt := 102) dX1_follow_91 (by decide) (fun h91 => ?_) (fun h91 => ?_)
            · skip
              refine lv_iload X.1 X.2.1 dX1_follow_102 (lv_at hl 0 rfl) ?_
              refine rn_ne0 X (by decide) (tgt := 108) dX1_follow_104 (by decide) (fun q => absurd q (by decide)) (fun _ => ?_)
              subst hQ0
              exact ln_retV X hr hlk hP hSw ⟨⟨by rw [he1, (ln_stop ht12 (by omega) h91).1], fun j hq => hj1 j (by have := ln_lc_le (ln_st N r S) t; rw [← (ln_stop ht12 (by omega) h91).1] at hq; omega)⟩, ho1⟩ dX1_follow_107
            · skip
              refine lv_aload_n X.1 X.2.1 dX1_follow_94 rfl (lv_at hl 2 rfl) ?_
              refine lv_iload_n X.1 X.2.1 dX1_follow_95 rfl (lv_at hl 4 rfl) ?_
              refine pC_10_3 X hP hDw hSw mF_X1_23 dX1_follow_96 (fun H locs hP hDw hSw => ?_)
              obtain ⟨τ2, hτ2⟩ : ∃ z : ln_S, z = (ln_up τ1 10 (upd (τ1 10) 0 (nI (t + 1)))) := ⟨_, rfl⟩
              rw [← hτ2] at hP hDw
              have hj2 : ∀ j, j ≤ t + 1 → τ2 11 j = nI (ln_st N r S j) := fun j hq => by rw [hτ2, ln_up_n _ _ (by decide)]; exact hj1 j hq
              have he2 : τ2 10 0 = nI (ln_lc (ln_st N r S) (t + 1)) := by rw [hτ2, ln_up_s, ln_upd_s, ln_lc_n h91]
              have ho2 : ∀ c, c ≠ 10 → c ≠ 11 → τ2 c = σ c := fun c h1 h2 => by rw [hτ2, ln_up_n _ _ h1]; exact ho1 c h1 h2
              refine lv_goto (tgt := 108) X.1 X.2.1 dX1_follow_99 (by decide) ?_
              refine lv_iinc (v := nI (t + 1 + 1)) (lv' := [(3, .int (nI (t + 1 + 1))), (5, .int (nI 0)), (4, .int (nI (ln_st N r S t))), (0, .ref (a 10)), (1, .int (nI r))]) X.1 X.2.1 dX1_follow_108 hl (k := 4) rfl rn_inc (by decide) rfl (fun ls hl => ?_)
              refine lv_goto (tgt := 14) X.1 X.2.1 dX1_follow_111 (by decide) ?_
              exact ih14 (t + 1) τ2 H locs (by omega) (by omega) (by first | exact hj2 | exact hj1) (by first | exact he2 | (rw [he1, ln_lc_s h91])) (by first | exact ho2 | exact ho1) hP hDw hSw ls (lv_sub hl [3, 4, 0] rfl)
          · skip
            refine lv_iconst (v := nI 1) X.1 X.2.1 dX1_follow_43 (by decide) ?_
            refine lv_goto (tgt := 48) X.1 X.2.1 dX1_follow_44 (by decide) ?_
            refine lv_istore (lv' := [(5, .int (nI 1)), (4, .int (nI (ln_st N r S t))), (0, .ref (a 10)), (1, .int (nI r)), (3, .int (nI (t + 1)))]) X.1 X.2.1 dX1_follow_48 hl (by decide) rfl (fun ls hl => ?_)
            refine lv_aload_n X.1 X.2.1 dX1_follow_50 rfl (lv_at hl 2 rfl) ?_
            refine gC_10_2 X hP mF_X1_9 dX1_follow_51 ?_
            refine lv_iload_n X.1 X.2.1 dX1_follow_54 rfl (lv_at hl 4 rfl) ?_
            refine lv_iload X.1 X.2.1 dX1_follow_55 (lv_at hl 0 rfl) ?_
            refine rn_eq0 X (by decide) (tgt := 72) dX1_follow_57 (by decide) (fun q => absurd q (by decide)) (fun _ => ?_)
            refine lv_aload_n X.1 X.2.1 dX1_follow_60 rfl (lv_at hl 2 rfl) ?_
            refine gC_10_0 X hP mF_X1_15 dX1_follow_61 ?_
            refine lv_iload X.1 X.2.1 dX1_follow_64 (lv_at hl 1 rfl) ?_
            refine ln_vR X (c_X4_withBehind l D g a τ 1 N hW hN (ln_st N r S t) (ln_st12 hW r hS t) (Nat.le_refl _)) hP 1 rfl rfl mM_X1_27 Y_X4_withBehind rfl (by omega) hl.1 rfl (Nat.le_of_ble_eq_true rfl) dX1_follow_66 ⟨Nat.zero_le _, Nat.zero_le _⟩ (fun r66 hr66 => ?_)
            subst hr66
            refine rn_top (y := nI (ln_st N r S (t + 1))) (by show nI (ln_wb N (ln_st N r S t)) = nI (ln_tk N r (t + 1) (ln_st N r S t)); unfold ln_tk; rw [if_pos ⟨h35, h40⟩]) ?_
            refine lv_goto (tgt := 82) X.1 X.2.1 dX1_follow_69 (by decide) ?_
            refine sC_11 X hP hDw hSw (by omega) dX1_follow_82 (fun H locs hP hDw hSw => ?_)
            obtain ⟨τ1, hτ1⟩ : ∃ z : ln_S, z = (ln_up τ 11 (upd (τ 11) (t + 1) (nI (ln_st N r S (t + 1))))) := ⟨_, rfl⟩
            rw [← hτ1] at hP hDw
            have hj1 : ∀ j, j ≤ t + 1 → τ1 11 j = nI (ln_st N r S j) := fun j hj2 => by
                                  rw [hτ1, ln_up_s]
                                  by_cases e : j = t + 1
                                  · subst e; exact ln_upd_s
                                  · rw [ln_upd_n e]; exact hj j (by omega)
            have he1 : τ1 10 0 = nI (ln_lc (ln_st N r S) t) := by rw [hτ1, ln_up_n _ _ (by decide)]; exact he
            have ho1 : ∀ c, c ≠ 10 → c ≠ 11 → τ1 c = σ c := fun c h1 h2 => by rw [hτ1, ln_up_n _ _ h2]; exact ho c h1 h2
            refine lv_aload_n X.1 X.2.1 dX1_follow_83 rfl (lv_at hl 2 rfl) ?_
            refine gC_10_2 X hP mF_X1_9 dX1_follow_84 ?_
            refine lv_iload_n X.1 X.2.1 dX1_follow_87 rfl (lv_at hl 4 rfl) ?_
            refine lC_11 X hP (by omega) (v := nI (ln_st N r S (t + 1))) (hj1 _ (Nat.le_refl _)) dX1_follow_88 ?_
            refine lv_iload X.1 X.2.1 dX1_follow_89 (lv_at hl 1 rfl) ?_
            refine rn_eq X (ln_31 (ln_st12 hW r hS (t + 1))) (ln_31 (ln_st12 hW r hS t)) (tgt := 102) dX1_follow_91 (by decide) (fun h91 => ?_) (fun h91 => ?_)
            · skip
              refine lv_iload X.1 X.2.1 dX1_follow_102 (lv_at hl 0 rfl) ?_
              refine rn_ne0 X (by decide) (tgt := 108) dX1_follow_104 (by decide) (fun _ => ?_) (fun q => absurd q (by decide))
              refine lv_iinc (v := nI (t + 1 + 1)) (lv' := [(3, .int (nI (t + 1 + 1))), (5, .int (nI 1)), (4, .int (nI (ln_st N r S t))), (0, .ref (a 10)), (1, .int (nI r))]) X.1 X.2.1 dX1_follow_108 hl (k := 4) rfl rn_inc (by decide) rfl (fun ls hl => ?_)
              refine lv_goto (tgt := 14) X.1 X.2.1 dX1_follow_111 (by decide) ?_
              exact ih14 (t + 1) τ1 H locs (by omega) (by omega) (by first | exact hj2 | exact hj1) (by first | exact he2 | (rw [he1, ln_lc_s h91])) (by first | exact ho2 | exact ho1) hP hDw hSw ls (lv_sub hl [3, 4, 0] rfl)
            · skip
              refine lv_aload_n X.1 X.2.1 dX1_follow_94 rfl (lv_at hl 2 rfl) ?_
              refine lv_iload_n X.1 X.2.1 dX1_follow_95 rfl (lv_at hl 4 rfl) ?_
              refine pC_10_3 X hP hDw hSw mF_X1_23 dX1_follow_96 (fun H locs hP hDw hSw => ?_)
              obtain ⟨τ2, hτ2⟩ : ∃ z : ln_S, z = (ln_up τ1 10 (upd (τ1 10) 0 (nI (t + 1)))) := ⟨_, rfl⟩
              rw [← hτ2] at hP hDw
              have hj2 : ∀ j, j ≤ t + 1 → τ2 11 j = nI (ln_st N r S j) := fun j hq => by rw [hτ2, ln_up_n _ _ (by decide)]; exact hj1 j hq
              have he2 : τ2 10 0 = nI (ln_lc (ln_st N r S) (t + 1)) := by rw [hτ2, ln_up_s, ln_upd_s, ln_lc_n h91]
              have ho2 : ∀ c, c ≠ 10 → c ≠ 11 → τ2 c = σ c := fun c h1 h2 => by rw [hτ2, ln_up_n _ _ h1]; exact ho1 c h1 h2
              refine lv_goto (tgt := 108) X.1 X.2.1 dX1_follow_99 (by decide) ?_
              refine lv_iinc (v := nI (t + 1 + 1)) (lv' := [(3, .int (nI (t + 1 + 1))), (5, .int (nI 1)), (4, .int (nI (ln_st N r S t))), (0, .ref (a 10)), (1, .int (nI r))]) X.1 X.2.1 dX1_follow_108 hl (k := 4) rfl rn_inc (by decide) rfl (fun ls hl => ?_)
              refine lv_goto (tgt := 14) X.1 X.2.1 dX1_follow_111 (by decide) ?_
              exact ih14 (t + 1) τ2 H locs (by omega) (by omega) (by first | exact hj2 | exact hj1) (by first | exact he2 | (rw [he1, ln_lc_s h91])) (by first | exact ho2 | exact ho1) hP hDw hSw ls (lv_sub hl [3, 4, 0] rfl)
  exact L14 _ 0 σ2 H locs (Nat.lt_succ_self _) (by decide) (fun j hj => by rw [show j = 0 by omega, hσ2, hσ1]; rfl) (by rw [hσ2]; rfl) (fun c h1 h2 => by rw [hσ2, hσ1, ln_up_n _ _ h1, ln_up_n _ _ h2]) hP hDw hSw ls (lv_sub hl [1, 2, 0] rfl)
end
section
/-! what the tables hold, as numbers -/
def ln_dn {α : Type} (F : (Nat → α) → Nat → α) (z : α) : Nat → Nat → α
  | 0, _ => z
  | k + 1, S => F (ln_dn F z k) S
def ln_dv {α : Type} (F : (Nat → α) → Nat → α) (z : α) (M S : Nat) : α := ln_dn F z (M - S) S
theorem ln_dn_st {α : Type} {F : (Nat → α) → Nat → α} {z : α} {M : Nat} (hF : ∀ (f g : Nat → α) (S : Nat), S < M → (∀ T, S < T → T < M → f T = g T) → F f S = F g S) : ∀ (k j S : Nat), S < M → M - S ≤ k → M - S ≤ j → ln_dn F z k S = ln_dn F z j S
  | 0, j, S, h1, h2, h3 => by omega
  | k + 1, 0, S, h1, h2, h3 => by omega
  | k + 1, j + 1, S, h1, h2, h3 => hF _ _ S h1 (fun T hT hM => ln_dn_st hF k j T hM (by omega) (by omega))
theorem ln_dv_eq {α : Type} {F : (Nat → α) → Nat → α} {z : α} {M : Nat} (hF : ∀ (f g : Nat → α) (S : Nat), S < M → (∀ T, S < T → T < M → f T = g T) → F f S = F g S) {S : Nat} (hS : S < M) : ln_dv F z M S = F (ln_dv F z M) S := by
  unfold ln_dv
  obtain ⟨k, hk⟩ : ∃ k, M - S = k + 1 := ⟨M - S - 1, by omega⟩
  rw [hk]
  show F (ln_dn F z k) S = _
  exact hF _ _ S hS (fun T hT hM => ln_dn_st hF k (M - T) T hM (by omega) (Nat.le_refl _))
theorem ln_sb_le {a b : Nat} (h : ln_sb a b) : a ≤ b := Nat.le_of_testBit h
theorem ln_sb_lt {a b : Nat} (h : ln_sb a b) (hne : a ≠ b) : a < b := Nat.lt_of_le_of_ne (ln_sb_le h) hne
theorem ln_sb_put {a : Nat} {p : Nat} (h : a.testBit p = false) : a < a ||| 2 ^ p := ln_sb_lt (ln_sb_or _ _) (fun q => by
  have h1 : (a ||| 2 ^ p).testBit p = true := by rw [Nat.testBit_or, Nat.testBit_two_pow_self, Bool.or_true]
  rw [← q, h] at h1
  exact absurd h1 (by decide))
theorem ln_sb_tr {a b c : Nat} (h : ln_sb a b) (h2 : ln_sb b c) : ln_sb a c := fun i q => h2 i (h i q)
theorem ln_sb_rf (a : Nat) : ln_sb a a := fun _ h => h
theorem ln_sb_st (N : ln_N) (r S : Nat) : ∀ t, ln_sb S (ln_st N r S t)
  | 0 => ln_sb_rf S
  | t + 1 => ln_sb_tr (ln_sb_st N r S t) (ln_sb_tk N r (t + 1) _)
theorem ln_sb_end (N : ln_N) (r S : Nat) : ln_sb S (ln_end N r S) := ln_sb_st N r S 13
theorem ln_end_lt {N : ln_N} (hW : ln_wf N) (r : Nat) {S : Nat} (hS : S < 2 ^ N 0 0) : ln_end N r S < 2 ^ N 0 0 := ln_st_lt hW r hS 13
theorem ln_end12 {N : ln_N} (hW : ln_wf N) (r : Nat) {S : Nat} (hS : S < 2 ^ N 0 0) : ln_end N r S < 4096 := ln_n12 hW (ln_end_lt hW r hS)
def ln_al (N : ln_N) : Nat := 2 ^ N 0 0 - 1
def ln_go (N : ln_N) (r S : Nat) : Bool := decide (ln_end N r S = 2 ^ N 0 0 - 1)
/-- the least of g over those below k that c takes; a million without one -/
def ln_mn (g : Nat → Nat) (c : Nat → Bool) : Nat → Nat
  | 0 => 1000000
  | k + 1 => if c k = true ∧ g k < ln_mn g c k then g k else ln_mn g c k
def ln_mx (g : Nat → Nat) (c : Nat → Bool) : Nat → Nat
  | 0 => 0
  | k + 1 => if c k = true ∧ ln_mx g c k < g k then g k else ln_mx g c k
def ln_btF (N : ln_N) (f : Nat → Nat) (S : Nat) : Nat := if S = 2 ^ N 0 0 - 1 then 0 else if ln_wb N S = 2 ^ N 0 0 - 1 then 1 else 1 + ln_mn (fun p => f (ln_wb N S ||| 2 ^ p)) (fun p => !(ln_wb N S).testBit p) (N 0 0)
def ln_bt (N : ln_N) (S : Nat) : Nat := ln_dv (ln_btF N) 0 4096 S
def ln_wnf (N : ln_N) (r : Nat) (f : Nat → Bool) (S : Nat) : Nat → Bool := fun p => !S.testBit p && !f (ln_end N r (S ||| 2 ^ p))
def ln_wnF (N : ln_N) (r : Nat) (f : Nat → Bool) (S : Nat) : Bool := decide (ln_fs (ln_wnf N r f S) (N 0 0) < N 0 0)
def ln_wn (N : ln_N) (r S : Nat) : Bool := ln_dv (ln_wnF N r) false (2 ^ N 0 0) S
def ln_nx (N : ln_N) (b w : Nat) : Nat := b ||| ln_df (ln_bhs N b (N 0 0)) w
def ln_bw (N : ln_N) (f : Nat → Nat → Nat) (b w : Nat) : Nat := if ln_nx N b w = b then N 0 0 - ln_pc b else f (ln_nx N b w) w
def ln_svF (N : ln_N) (f : Nat → Nat → Nat) (b : Nat) : Nat → Nat := fun w => if b ||| w = 2 ^ N 0 0 - 1 then N 0 0 - ln_pc b else ln_mx (fun p => ln_bw N f b (w ||| 2 ^ p)) (fun p => !(b ||| w).testBit p) (N 0 0)
def ln_sv (N : ln_N) (b w : Nat) : Nat := ln_dv (ln_svF N) (fun _ => 0) 4096 b w
def ln_ft (N : ln_N) (r S : Nat) : Bool := decide (S ≠ 0 ∧ ln_tp N r (ln_df (2 ^ N 0 0 - 1) S) = ln_df (2 ^ N 0 0 - 1) S)
def ln_lf (N : ln_N) (r S : Nat) : Bool := decide (ln_ft N r S = true ∧ ∀ P, P < S → P ≠ 0 → P &&& S = P → ln_ft N r P = false)
/-- k forts apart within S -/
def ln_pk (N : ln_N) (r : Nat) : Nat → Nat → Prop
  | 0, _ => True
  | k + 1, S => ∃ F, ln_ft N r F = true ∧ F &&& S = F ∧ ln_pk N r k (ln_df S F)
def ln_isA (N : ln_N) (r S v : Nat) : Prop := ln_pk N r v S ∧ ¬ ln_pk N r (v + 1) S
def ln_an (N : ln_N) (h : Nat → Bool) (S p : Nat) : Nat → Bool := fun q => (S.testBit q && decide (0 < N (5 + q) p)) && h (ln_df S (2 ^ q) ||| 2 ^ p)
def ln_aa (N : ln_N) (h : Nat → Bool) (S : Nat) : Bool := decide (∀ p, p < N 0 0 → S.testBit p = false → ln_fs (ln_an N h S p) (N 0 0) < N 0 0)
def ln_gs (N : ln_N) (h : Nat → Bool) : Nat → Nat → Bool
  | 0 => h
  | S + 1 => fun T => if T = S then ln_gs N h S S && ln_aa N (ln_gs N h S) S else ln_gs N h S T
def ln_gr (N : ln_N) : Nat → Nat → Bool
  | 0 => fun _ => true
  | k + 1 => ln_gs N (ln_gr N k) (2 ^ N 0 0)
def ln_hd (N : ln_N) : Nat → Bool := ln_gr N 4097
/-- a table with a version: e was its version when it was filled, w is the net's now -/
def ln_vt (x : Int32) (w : Nat) (P : Prop) : Prop := ∃ e, x = nI e ∧ e ≤ w ∧ (e = w → P)
def ln_ver (rv bv r : Nat) : Nat := if r = 0 then rv + bv else rv
def ln_vs (σ : ln_S) (rv bv : Nat) : Prop := σ 1 1 = nI rv ∧ σ 1 2 = nI bv ∧ 1 ≤ rv ∧ rv + bv < 1000000
theorem ln_ver_lt {σ : ln_S} {rv bv : Nat} (h : ln_vs σ rv bv) (r : Nat) : ln_ver rv bv r < 1000000 := by
  have := h.2.2.2
  unfold ln_ver; split <;> omega
def ln_eT (N : ln_N) (σ : ln_S) (r : Nat) : Prop := ∀ S, S < 2 ^ N 0 0 → σ (37 + r) S = nI (ln_end N r S)
def ln_eK (N : ln_N) (σ : ln_S) (rv bv : Nat) : Prop := ∀ r, r < 3 → ln_vt (σ 9 r) (ln_ver rv bv r) (ln_eT N σ r)
def ln_aK (N : ln_N) (σ : ln_S) (rv bv : Nat) : Prop := ∀ r, r < 2 → ln_vt (σ 16 r) (ln_ver rv bv r) (∃ z, z ≤ 12 ∧ σ 15 r = nI z ∧ ln_isA N r (2 ^ N 0 0 - 1) z)
def ln_tT (N : ln_N) (σ : ln_S) : Prop := ∀ S, S < 2 ^ N 0 0 → σ 18 S = nI (ln_bt N S)
def ln_tK (N : ln_N) (σ : ln_S) (rv : Nat) : Prop := ln_vt (σ 17 0) rv (ln_tT N σ)
def ln_hT (N : ln_N) (σ : ln_S) : Prop := ∀ S, S < 2 ^ N 0 0 → σ 21 S = ln_b (ln_hd N S)
def ln_hK (N : ln_N) (σ : ln_S) (rv : Nat) : Prop := ln_vt (σ 20 0) rv (ln_hT N σ)
def ln_wT (N : ln_N) (σ : ln_S) (r : Nat) : Prop := ∀ S, S < 2 ^ N 0 0 → σ (40 + r) S = ln_b (ln_wn N r S)
def ln_wK (N : ln_N) (σ : ln_S) (rv bv : Nat) : Prop := ∀ r, r < 3 → ln_vt (σ 24 r) (ln_ver rv bv r) (ln_wT N σ r)
/-- the class's state fits a net; v bounds its versions -/
def ln_CI (N : ln_N) (v : Nat) (σ : ln_S) : Prop := ln_wf N ∧ ln_nC N σ ∧ ∃ rv bv, ln_vs σ rv bv ∧ rv + bv ≤ v ∧ ln_eK N σ rv bv ∧ ln_aK N σ rv bv ∧ ln_tK N σ rv ∧ ln_hK N σ rv ∧ ln_wK N σ rv bv
def ln_mT (N : ln_N) (σ : ln_S) (k : Nat) : Prop :=
  if k < 3 then ∀ S, S < 2 ^ N 0 0 → σ 6 (4096 * k + S) = nI (ln_end N k S)
  else if k < 6 then ∀ S, S < 2 ^ N 0 0 → σ 12 (4096 * (k - 3) + S) = ln_b (ln_wn N (k - 3) S)
  else if k < 8 then ∀ S, S < 2 ^ N 0 0 → σ 7 (4096 * (k - 6) + S) = ln_b (ln_lf N (k - 6) S)
  else if k = 8 then ∀ S, S < 2 ^ N 0 0 → σ 9 S = nI (ln_bt N S)
  else if k = 9 then ∀ b w, b < 2 ^ N 0 0 → w < 2 ^ N 0 0 → b &&& w = 0 → σ 10 (1024 * b + w) = nI (ln_sv N b w)
  else ∀ S, S < 2 ^ N 0 0 → σ 11 S = ln_b (ln_hd N S)
theorem ln_mT_e {N : ln_N} {σ : ln_S} {r : Nat} (hr : r < 3) : ln_mT N σ r = (∀ S, S < 2 ^ N 0 0 → σ 6 (4096 * r + S) = nI (ln_end N r S)) := if_pos hr
theorem ln_mT_w {N : ln_N} {σ : ln_S} {r : Nat} (hr : r < 3) : ln_mT N σ (3 + r) = (∀ S, S < 2 ^ N 0 0 → σ 12 (4096 * r + S) = ln_b (ln_wn N r S)) := by
  unfold ln_mT; rw [if_neg (by omega), if_pos (by omega), Nat.add_sub_cancel_left]
theorem ln_mT_f {N : ln_N} {σ : ln_S} {r : Nat} (hr : r < 2) : ln_mT N σ (6 + r) = (∀ S, S < 2 ^ N 0 0 → σ 7 (4096 * r + S) = ln_b (ln_lf N r S)) := by
  unfold ln_mT; rw [if_neg (by omega), if_neg (by omega), if_pos (by omega), Nat.add_sub_cancel_left]
theorem ln_mT_b {N : ln_N} {σ : ln_S} : ln_mT N σ 8 = (∀ S, S < 2 ^ N 0 0 → σ 9 S = nI (ln_bt N S)) := rfl
theorem ln_mT_s {N : ln_N} {σ : ln_S} : ln_mT N σ 9 = (∀ b w, b < 2 ^ N 0 0 → w < 2 ^ N 0 0 → b &&& w = 0 → σ 10 (1024 * b + w) = nI (ln_sv N b w)) := rfl
theorem ln_mT_h {N : ln_N} {σ : ln_S} : ln_mT N σ 10 = (∀ S, S < 2 ^ N 0 0 → σ 11 S = ln_b (ln_hd N S)) := rfl
/-- the model's known tables are right, but for the one that is being filled -/
def ln_MK (N : ln_N) (σ : ln_S) (E : Nat) : Prop := ∃ K, σ 0 1 = nI K ∧ K < 2048 ∧ ∀ k, k ≠ E → K.testBit k = true → ln_mT N σ k
def ln_MI (N : ln_N) (σ : ln_S) : Prop := ln_wf N ∧ ln_nM N σ ∧ ln_MK N σ 99
/-- a table hangs on its own cells alone -/
theorem ln_mT.of {N : ln_N} {σ τ : ln_S} {k : Nat} (h : ln_mT N σ k) (ho : ∀ c, (k < 3 ∧ c = 6) ∨ (3 ≤ k ∧ k < 6 ∧ c = 12) ∨ (6 ≤ k ∧ k < 8 ∧ c = 7) ∨ (k = 8 ∧ c = 9) ∨ (k = 9 ∧ c = 10) ∨ (10 ≤ k ∧ c = 11) → τ c = σ c) : ln_mT N τ k := by
  unfold ln_mT at h ⊢
  split
  · rename_i h1; rw [if_pos h1] at h; rw [ho 6 (by omega)]; exact h
  · rename_i h1
    rw [if_neg h1] at h
    split
    · rename_i h2; rw [if_pos h2] at h; rw [ho 12 (by omega)]; exact h
    · rename_i h2
      rw [if_neg h2] at h
      split
      · rename_i h3; rw [if_pos h3] at h; rw [ho 7 (by omega)]; exact h
      · rename_i h3
        rw [if_neg h3] at h
        split
        · rename_i h4; rw [if_pos h4] at h; rw [ho 9 (by omega)]; exact h
        · rename_i h4
          rw [if_neg h4] at h
          split
          · rename_i h5; rw [if_pos h5] at h; rw [ho 10 (by omega)]; exact h
          · rename_i h5; rw [if_neg h5] at h; rw [ho 11 (by omega)]; exact h
/-- the course of a rule, begun a tick later -/
theorem ln_st_sh {N : ln_N} {r : Nat} (hr : r ≠ 2) (S : Nat) : ∀ t, ln_st N r S (t + 1) = ln_st N r (ln_tp N r S) t
  | 0 => by
    show ln_tk N r 1 S = ln_tp N r S
    unfold ln_tk; rw [if_neg (by omega)]
  | t + 1 => by
    show ln_tk N r (t + 1 + 1) (ln_st N r S (t + 1)) = ln_tk N r (t + 1) (ln_st N r (ln_tp N r S) t)
    rw [ln_st_sh hr S t]
    unfold ln_tk; rw [if_neg (by omega), if_neg (by omega)]
theorem ln_end_step {N : ln_N} (hW : ln_wf N) {r : Nat} (hr : r ≠ 2) {S : Nat} (hS : S < 2 ^ N 0 0) : ln_end N r S = ln_end N r (ln_tp N r S) := by
  have h1 : ln_end N r S = ln_st N r (ln_tp N r S) 12 := ln_st_sh hr S 12
  have h2 : ln_end N r (ln_tp N r S) = ln_st N r (ln_tp N r S) 12 := ln_st_fix hW (ln_tp_lt hW r hS) 12 (Nat.le_refl 12)
  rw [h1, h2]
theorem ln_end_fix {N : ln_N} {r : Nat} (hr : r ≠ 2) {S : Nat} (h : ln_tp N r S = S) : ln_end N r S = S := by
  have key : ∀ t, ln_st N r S t = S := by
    intro t
    induction t with
    | zero => rfl
    | succ t ih =>
      show ln_tk N r (t + 1) (ln_st N r S t) = S
      rw [ih]; unfold ln_tk; rw [if_neg (by omega)]; exact h
  exact key 13
theorem ln_st_seen {N : ln_N} (S : Nat) : ∀ t, ln_st N 2 S (t + 1) = ln_st N 1 (ln_wb N S) t
  | 0 => rfl
  | t + 1 => by
    show ln_tk N 2 (t + 1 + 1) (ln_st N 2 S (t + 1)) = ln_tk N 1 (t + 1) (ln_st N 1 (ln_wb N S) t)
    rw [ln_st_seen S t]
    unfold ln_tk ln_tp
    rw [if_neg (show ¬ (2 = 2 ∧ t + 1 + 1 = 1) by omega), if_neg (show ¬ (1 = 2 ∧ t + 1 = 1) by omega), if_neg (by decide), if_neg (by decide)]
theorem ln_end_seen {N : ln_N} (hW : ln_wf N) {S : Nat} (hS : S < 2 ^ N 0 0) : ln_end N 2 S = ln_end N 1 (ln_wb N S) := by
  have h1 : ln_end N 2 S = ln_st N 1 (ln_wb N S) 12 := ln_st_seen S 12
  have h2 : ln_end N 1 (ln_wb N S) = ln_st N 1 (ln_wb N S) 12 := ln_st_fix hW (ln_wb_lt hW hS) 12 (Nat.le_refl 12)
  rw [h1, h2]
theorem ln_sb_tp (N : ln_N) (r S : Nat) : ln_sb S (ln_tp N r S) := by unfold ln_tp; split <;> exact ln_sb_or _ _
theorem ln_m1p (n : Nat) : nI (2 ^ n - 1) = nI (2 ^ n) - 1 := (pk_sub (ln_pos2 n)).symm
theorem rn_inn {k : Nat} : nI k + Int32.ofInt (-1) = nI k - 1 := by rw [Int32.sub_eq_add_neg]; rfl
theorem ln_m1_0 : nI 0 - 1 = -1 := by decide
theorem ln_m1_cases (k : Nat) : (k = 0 ∧ nI k - 1 = -1) ∨ ∃ j, k = j + 1 ∧ nI k - 1 = nI j := by
  cases k with
  | zero => exact Or.inl ⟨rfl, ln_m1_0⟩
  | succ j => exact Or.inr ⟨j, rfl, nI_pred j⟩
end
section
theorem ln_vs.of {σ τ : ln_S} {rv bv : Nat} (h : ln_vs σ rv bv) (h1 : τ 1 = σ 1) : ln_vs τ rv bv := by unfold ln_vs; rw [h1]; exact h
theorem ln_eK_fill {N : ln_N} {σ τ : ln_S} {rv bv r : Nat} (hE : ln_eK N σ rv bv) (hr : r < 3) (hT : ln_eT N τ r) (h9 : τ 9 = upd (σ 9) r (nI (ln_ver rv bv r))) (ho : ∀ c, c ≠ 9 → c ≠ 37 + r → τ c = σ c) : ln_eK N τ rv bv := by
  intro q hq
  by_cases e : q = r
  · subst e
    exact ⟨_, by rw [h9, ln_upd_s], Nat.le_refl _, fun _ => hT⟩
  · obtain ⟨x, h1, h2, h3⟩ := hE q hq
    refine ⟨x, by rw [h9, ln_upd_n e]; exact h1, h2, fun h S hS => ?_⟩
    rw [ho _ (by omega) (by omega)]
    exact h3 h S hS
theorem ln_m1_lt {k : Nat} : (-1 : Int32) < 0 := by decide
theorem ln_or_bit (K r k : Nat) : (K ||| 2 ^ r).testBit k = (K.testBit k || decide (r = k)) := by rw [Nat.testBit_or, Nat.testBit_two_pow]
theorem ln_K11 {K r : Nat} (h : K < 2048) (hr : r < 11) : K ||| 2 ^ r < 2048 := Nat.or_lt_two_pow (n := 11) h (Nat.pow_lt_pow_right (a := 2) (by decide) hr)
theorem ln_MK.of {N : ln_N} {σ τ : ln_S} {E : Nat} (h : ln_MK N σ E) (h0 : τ 0 1 = σ 0 1) (ho : ∀ c, 6 ≤ c → c ≤ 12 → c ≠ 8 → τ c = σ c) : ln_MK N τ E := by
  obtain ⟨K, h1, h2, h3⟩ := h
  exact ⟨K, h0.trans h1, h2, fun k hk hb => (h3 k hk hb).of (fun c hc => ho c (by omega) (by omega) (by omega))⟩
set_option maxHeartbeats 4000000 in
set_option maxRecDepth 100000 in
theorem c_X4_versionOf (l : Launch) (D : va_G) (g : Nat → ClassId) (a : Nat → Nat) (σ : ln_S) (d : Nat) (rv bv : Nat) (hV : ln_vs σ rv bv) (r : Nat) (hr3 : r < 3) (hd : 0 ≤ d) : ln_R l D g (CW a g σ) yX4_versionOf (.code yX4_versionOf cX4_versionOf 2 (some .int)) d [.ref (a 1), .int (nI r)] (fun z => z = nI (ln_ver rv bv r)) := by
  refine ln_ofR (by decide +kernel) (Nat.le_of_ble_eq_true rfl) (fun prg env rum sta mid args below meth cod ls hr hlk X hP hl => ?_)
  have hl : lv_has ls 2 [(0, .ref (a 1)), (1, .int (nI r))] := hl
  generalize hQ0 : (MQ below (vp_Si (fun z => z = nI (ln_ver rv bv r))) args sta 0 0 (fun _ => False)) = Q0
  refine lv_iload_n X.1 X.2.1 dX4_versionOf_0 rfl (lv_at hl 1 rfl) ?_
  refine rn_ne0 X (by omega) (tgt := 16) dX4_versionOf_1 (by decide) (fun h1 => ?_) (fun h1 => ?_)
  · skip
    refine lv_aload_n X.1 X.2.1 dX4_versionOf_16 rfl (lv_at hl 0 rfl) ?_
    refine gC_1_1 X hP (v := nI rv) hV.1 mF_X4_9 dX4_versionOf_17 ?_
    subst hQ0
    exact ln_retR X hr hlk rfl (by unfold ln_ver; first | rw [if_neg h1] | rw [if_pos h1]) dX4_versionOf_20
  · skip
    refine lv_aload_n X.1 X.2.1 dX4_versionOf_4 rfl (lv_at hl 0 rfl) ?_
    refine gC_1_1 X hP (v := nI rv) hV.1 mF_X4_9 dX4_versionOf_5 ?_
    refine lv_aload_n X.1 X.2.1 dX4_versionOf_8 rfl (lv_at hl 0 rfl) ?_
    refine gC_1_2 X hP (v := nI bv) hV.2.1 mF_X4_40 dX4_versionOf_9 ?_
    refine rn_add X dX4_versionOf_12 ?_
    refine lv_goto (tgt := 20) X.1 X.2.1 dX4_versionOf_13 (by decide) ?_
    subst hQ0
    exact ln_retR X hr hlk rfl (by unfold ln_ver; first | rw [if_neg h1] | rw [if_pos h1]) dX4_versionOf_20
set_option maxHeartbeats 4000000 in
set_option maxRecDepth 100000 in
theorem c_X6_fillPlain (l : Launch) (D : va_G) (g : Nat → ClassId) (a : Nat → Nat) (σ : ln_S) (d : Nat) (N : ln_N) (hW : ln_wf N) (hN : ln_nC N σ) (rv bv : Nat) (hV : ln_vs σ rv bv) (r : Nat) (hr2 : r < 2) (hd : 3 ≤ d) : ln_V l D g (CW a g) yX6_fillPlain (.code yX6_fillPlain cX6_fillPlain 5 none) d [.ref (a 7), .int (nI r)] σ (fun τ => ln_eT N τ r ∧ τ 9 = upd (σ 9) r (nI (ln_ver rv bv r)) ∧ ∀ c, c ≠ 9 → c ≠ 37 + r → τ c = σ c) := by
  have hN12 := hW.n12
  have hp12 := hW.p12
  refine ln_ofV (by decide +kernel) (Nat.le_of_ble_eq_true rfl) (fun prg env rum sta mid args below meth cod ls A hr hlk X hA hP hDw hSw hl => ?_)
  have hl : lv_has ls 5 [(0, .ref (a 7)), (1, .int (nI r))] := hl
  generalize hQ0 : (MQ below (va_Qv (fun τ => ln_eT N τ r ∧ τ 9 = upd (σ 9) r (nI (ln_ver rv bv r)) ∧ ∀ c, c ≠ 9 → c ≠ 37 + r → τ c = σ c) (fun τ t => va_P D ln_cl (CW a g τ) t.heap) A) args sta 0 0 A) = Q0
  obtain ⟨H, hH⟩ : ∃ H, H = sta.heap := ⟨_, rfl⟩
  obtain ⟨locs, hlo⟩ : ∃ x : List Loc, x = [] := ⟨_, rfl⟩
  rw [← hH] at hP
  have hSw : va_S A sta.heap H locs := by rw [hH, hlo]; exact hSw
  have goal : W prg l env rum sta mid args below meth cod H locs 0 0 Q0 (F0 mid 0 ls []) := ?_
  · rw [hH, hlo] at goal; exact goal
  clear hlo
  refine lv_aload_n X.1 X.2.1 dX6_fillPlain_0 rfl (lv_at hl 0 rfl) ?_
  refine gC_7_1 X hP mF_X6_11 dX6_fillPlain_1 ?_
  refine lv_iload_n X.1 X.2.1 dX6_fillPlain_4 rfl (lv_at hl 1 rfl) ?_
  refine oC_8 X hP (by omega) dX6_fillPlain_5 ?_
  refine lv_astore_n (lv' := [(2, .ref (a (37 + r))), (0, .ref (a 7)), (1, .int (nI r))]) X.1 X.2.1 dX6_fillPlain_6 rfl hl (by decide) rfl (fun ls hl => ?_)
  refine lv_aload_n X.1 X.2.1 dX6_fillPlain_7 rfl (lv_at hl 1 rfl) ?_
  refine gC_7_0 X hP mF_X6_20 dX6_fillPlain_8 ?_
  refine ln_vR X (c_X4_allPosts l D g a σ 0 N hW hN (Nat.le_refl _)) hP 1 rfl rfl mM_X6_61 Y_X4_allPosts rfl (by omega) hl.1 rfl (Nat.le_of_ble_eq_true rfl) dX6_fillPlain_11 ⟨Nat.zero_le _, Nat.zero_le _⟩ (fun r11 hr11 => ?_)
  subst hr11
  refine rn_top (y := (nI (2 ^ N 0 0) - 1)) (ln_m1p _) ?_
  refine lv_istore_n (lv' := [(3, .int (nI (2 ^ N 0 0) - 1)), (2, .ref (a (37 + r))), (0, .ref (a 7)), (1, .int (nI r))]) X.1 X.2.1 dX6_fillPlain_14 rfl hl (by decide) rfl (fun ls hl => ?_)
  have L15 : ∀ (K : Nat) (k : Nat) (τ : ln_S) (H : Heap) (locs : List Loc), k < K → (k ≤ 2 ^ N 0 0) → (∀ S, k ≤ S → S < 2 ^ N 0 0 → τ (37 + r) S = nI (ln_end N r S)) → (∀ c, c ≠ 37 + r → τ c = σ c) → va_P D ln_cl (CW a g τ) H → va_D A (CW a g τ) → va_S A sta.heap H locs → ∀ ls : Array Slot, lv_has ls 5 [(0, .ref (a 7)), (1, .int (nI r)), (2, .ref (a (37 + r))), (3, .int (nI k - 1))] → W prg l env rum sta mid args below meth cod H locs 0 0 Q0 (F0 mid 15 ls []) := by
    intro K
    induction K with
    | zero => intro k τ H locs hm; exact absurd hm (Nat.not_lt_zero _)
    | succ K ih15 =>
      intro k τ H locs hm15 hk hT ho hP hDw hSw ls hl
      have hN : ln_nC N τ := hN.of (fun c hc => ho c (by omega))
      refine lv_iload_n X.1 X.2.1 dX6_fillPlain_15 rfl (lv_at hl 3 rfl) ?_
      rcases ln_m1_cases k with ⟨ek, e1⟩ | ⟨j, ek, e1⟩
      · refine rn_top (y := ((-1))) e1 ?_
        refine lv_if_lt (tgt := 50) X.1 X.2.1 dX6_fillPlain_16 (by decide) (fun h16 => ?_) (fun h16 => absurd (by decide) h16)
        have hV : ln_vs τ rv bv := hV.of (ho 1 (by omega))
        refine lv_aload_n X.1 X.2.1 dX6_fillPlain_50 rfl (lv_at hl 0 rfl) ?_
        refine gC_7_2 X hP mF_X6_16 dX6_fillPlain_51 ?_
        refine lv_iload_n X.1 X.2.1 dX6_fillPlain_54 rfl (lv_at hl 1 rfl) ?_
        refine lv_aload_n X.1 X.2.1 dX6_fillPlain_55 rfl (lv_at hl 0 rfl) ?_
        refine gC_7_0 X hP mF_X6_20 dX6_fillPlain_56 ?_
        refine lv_iload_n X.1 X.2.1 dX6_fillPlain_59 rfl (lv_at hl 1 rfl) ?_
        refine ln_vR X (c_X4_versionOf l D g a τ 0 rv bv hV r (by omega) (Nat.le_refl _)) hP 1 rfl rfl mM_X6_51 Y_X4_versionOf rfl (by omega) hl.1 rfl (Nat.le_of_ble_eq_true rfl) dX6_fillPlain_60 ⟨Nat.zero_le _, Nat.zero_le _⟩ (fun r60 hr60 => ?_)
        subst hr60
        refine sC_9 X hP hDw hSw (by omega) dX6_fillPlain_63 (fun H locs hP hDw hSw => ?_)
        obtain ⟨τ2, hτ2⟩ : ∃ z : ln_S, z = (ln_up τ 9 (upd (τ 9) r (nI (ln_ver rv bv r)))) := ⟨_, rfl⟩
        rw [← hτ2] at hP hDw
        subst hQ0
        exact ln_retV X hr hlk hP hSw (by subst ek; refine ⟨fun S h2 => ?_, ?_, fun c h1 h2 => ?_⟩; (· rw [hτ2, ln_up_n _ _ (by omega)]; exact hT S (Nat.zero_le _) h2); (· rw [hτ2, ln_up_s, ho 9 (by omega)]); (· rw [hτ2, ln_up_n _ _ h1]; exact ho c h2)) dX6_fillPlain_64
      · refine rn_top (y := nI j) e1 ?_
        subst ek
        rw [nI_pred] at hl
        refine rn_lt0 X (ln_31 (show j < 4096 by omega)) (tgt := 50) dX6_fillPlain_16 (by decide) ?_
        refine lv_aload_n X.1 X.2.1 dX6_fillPlain_19 rfl (lv_at hl 0 rfl) ?_
        refine lv_iload_n X.1 X.2.1 dX6_fillPlain_20 rfl (lv_at hl 1 rfl) ?_
        refine lv_iload_n X.1 X.2.1 dX6_fillPlain_21 rfl (lv_at hl 3 rfl) ?_
        refine ln_vR X (c_X6_afterTick l D g a τ 2 N hW hN r j (by omega) (show j < 4096 by omega) (Nat.le_refl _)) hP 7 rfl rfl mM_X6_65 Y_X6_afterTick rfl (by omega) hl.1 rfl (Nat.le_of_ble_eq_true rfl) dX6_fillPlain_22 ⟨Nat.zero_le _, Nat.zero_le _⟩ (fun r22 hr22 => ?_)
        subst hr22
        refine lv_istore (lv' := [(4, .int (nI (ln_tp N r j))), (0, .ref (a 7)), (1, .int (nI r)), (2, .ref (a (37 + r))), (3, .int (nI j))]) X.1 X.2.1 dX6_fillPlain_25 hl (by decide) rfl (fun ls hl => ?_)
        refine lv_aload_n X.1 X.2.1 dX6_fillPlain_27 rfl (lv_at hl 3 rfl) ?_
        refine lv_iload_n X.1 X.2.1 dX6_fillPlain_28 rfl (lv_at hl 4 rfl) ?_
        refine lv_iload X.1 X.2.1 dX6_fillPlain_29 (lv_at hl 0 rfl) ?_
        refine lv_iload_n X.1 X.2.1 dX6_fillPlain_31 rfl (lv_at hl 4 rfl) ?_
        refine rn_ne X (ln_31 (ln_n12 hW (ln_tp_lt hW r (show j < 2 ^ N 0 0 by omega)))) (ln_31 (show j < 4096 by omega)) (tgt := 39) dX6_fillPlain_32 (by decide) (fun h32 => ?_) (fun h32 => ?_)
        · skip
          refine lv_aload_n X.1 X.2.1 dX6_fillPlain_39 rfl (lv_at hl 3 rfl) ?_
          refine lv_iload X.1 X.2.1 dX6_fillPlain_40 (lv_at hl 0 rfl) ?_
          refine lC_r37 X hP (by omega) (ln_n12 hW (ln_tp_lt hW r (show j < 2 ^ N 0 0 by omega))) (v := nI (ln_end N r j)) (by rw [hT _ (ln_sb_lt (ln_sb_tp N r j) (Ne.symm h32)) (ln_tp_lt hW r (by omega)), ← ln_end_step hW (by omega) (by omega)]) dX6_fillPlain_42 ?_
          refine sC_r37 X hP hDw hSw (by omega) (by omega) dX6_fillPlain_43 (fun H locs hP hDw hSw => ?_)
          obtain ⟨τ1, hτ1⟩ : ∃ z : ln_S, z = (ln_up τ (37 + r) (upd (τ (37 + r)) j (nI (ln_end N r j)))) := ⟨_, rfl⟩
          rw [← hτ1] at hP hDw
          have hT1 : ∀ S, j ≤ S → S < 2 ^ N 0 0 → τ1 (37 + r) S = nI (ln_end N r S) := fun S h1 h2 => by rw [hτ1, ln_up_s]; by_cases e : S = j; (· subst e; exact ln_upd_s); (· rw [ln_upd_n e]; exact hT S (by omega) h2)
          have ho1 : ∀ c, c ≠ 37 + r → τ1 c = σ c := fun c h1 => by rw [hτ1, ln_up_n _ _ h1]; exact ho c h1
          refine lv_iinc (v := (nI j - 1)) (lv' := [(3, .int (nI j - 1)), (4, .int (nI (ln_tp N r j))), (0, .ref (a 7)), (1, .int (nI r)), (2, .ref (a (37 + r)))]) X.1 X.2.1 dX6_fillPlain_44 hl (k := 4) rfl rn_inn (by decide) rfl (fun ls hl => ?_)
          refine lv_goto (tgt := 15) X.1 X.2.1 dX6_fillPlain_47 (by decide) ?_
          exact ih15 j τ1 H locs (by omega) (by omega) hT1 ho1 hP hDw hSw ls (lv_sub hl [2, 3, 4, 0] rfl)
        · skip
          refine lv_iload_n X.1 X.2.1 dX6_fillPlain_35 rfl (lv_at hl 4 rfl) ?_
          refine rn_top (y := nI (ln_end N r j)) (by rw [ln_end_fix (by omega) h32]) ?_
          refine lv_goto (tgt := 43) X.1 X.2.1 dX6_fillPlain_36 (by decide) ?_
          refine sC_r37 X hP hDw hSw (by omega) (by omega) dX6_fillPlain_43 (fun H locs hP hDw hSw => ?_)
          obtain ⟨τ1, hτ1⟩ : ∃ z : ln_S, z = (ln_up τ (37 + r) (upd (τ (37 + r)) j (nI (ln_end N r j)))) := ⟨_, rfl⟩
          rw [← hτ1] at hP hDw
          have hT1 : ∀ S, j ≤ S → S < 2 ^ N 0 0 → τ1 (37 + r) S = nI (ln_end N r S) := fun S h1 h2 => by rw [hτ1, ln_up_s]; by_cases e : S = j; (· subst e; exact ln_upd_s); (· rw [ln_upd_n e]; exact hT S (by omega) h2)
          have ho1 : ∀ c, c ≠ 37 + r → τ1 c = σ c := fun c h1 => by rw [hτ1, ln_up_n _ _ h1]; exact ho c h1
          refine lv_iinc (v := (nI j - 1)) (lv' := [(3, .int (nI j - 1)), (4, .int (nI (ln_tp N r j))), (0, .ref (a 7)), (1, .int (nI r)), (2, .ref (a (37 + r)))]) X.1 X.2.1 dX6_fillPlain_44 hl (k := 4) rfl rn_inn (by decide) rfl (fun ls hl => ?_)
          refine lv_goto (tgt := 15) X.1 X.2.1 dX6_fillPlain_47 (by decide) ?_
          exact ih15 j τ1 H locs (by omega) (by omega) hT1 ho1 hP hDw hSw ls (lv_sub hl [2, 3, 4, 0] rfl)
  exact L15 _ (2 ^ N 0 0) σ H locs (Nat.lt_succ_self _) (Nat.le_refl _) (fun S h1 h2 => absurd h2 (by omega)) (fun c hc => rfl) hP hDw hSw ls (lv_sub hl [2, 3, 1, 0] rfl)
set_option maxHeartbeats 4000000 in
set_option maxRecDepth 100000 in
theorem c_X6_fillSeen (l : Launch) (D : va_G) (g : Nat → ClassId) (a : Nat → Nat) (σ : ln_S) (d : Nat) (N : ln_N) (hW : ln_wf N) (hN : ln_nC N σ) (rv bv : Nat) (hV : ln_vs σ rv bv) (hE1 : ln_eT N σ 1) (hd : 3 ≤ d) : ln_V l D g (CW a g) yX6_fillSeen (.code yX6_fillSeen cX6_fillSeen 3 none) d [.ref (a 7)] σ (fun τ => ln_eT N τ 2 ∧ τ 9 = upd (σ 9) 2 (nI (ln_ver rv bv 2)) ∧ ∀ c, c ≠ 9 → c ≠ 37 + 2 → τ c = σ c) := by
  have hN12 := hW.n12
  have hp12 := hW.p12
  have hs1 := ln_sub1 (N 0 0)
  refine ln_ofV (by decide +kernel) (Nat.le_of_ble_eq_true rfl) (fun prg env rum sta mid args below meth cod ls A hr hlk X hA hP hDw hSw hl => ?_)
  have hl : lv_has ls 3 [(0, .ref (a 7))] := hl
  generalize hQ0 : (MQ below (va_Qv (fun τ => ln_eT N τ 2 ∧ τ 9 = upd (σ 9) 2 (nI (ln_ver rv bv 2)) ∧ ∀ c, c ≠ 9 → c ≠ 37 + 2 → τ c = σ c) (fun τ t => va_P D ln_cl (CW a g τ) t.heap) A) args sta 0 0 A) = Q0
  obtain ⟨H, hH⟩ : ∃ H, H = sta.heap := ⟨_, rfl⟩
  obtain ⟨locs, hlo⟩ : ∃ x : List Loc, x = [] := ⟨_, rfl⟩
  rw [← hH] at hP
  have hSw : va_S A sta.heap H locs := by rw [hH, hlo]; exact hSw
  have goal : W prg l env rum sta mid args below meth cod H locs 0 0 Q0 (F0 mid 0 ls []) := ?_
  · rw [hH, hlo] at goal; exact goal
  clear hlo
  refine lv_aload_n X.1 X.2.1 dX6_fillSeen_0 rfl (lv_at hl 0 rfl) ?_
  refine gC_7_0 X hP mF_X6_20 dX6_fillSeen_1 ?_
  refine ln_vR X (c_X4_allPosts l D g a σ 0 N hW hN (Nat.le_refl _)) hP 1 rfl rfl mM_X6_61 Y_X4_allPosts rfl (by omega) hl.1 rfl (Nat.le_of_ble_eq_true rfl) dX6_fillSeen_4 ⟨Nat.zero_le _, Nat.zero_le _⟩ (fun r4 hr4 => ?_)
  subst hr4
  refine lv_istore_n (lv' := [(1, .int (nI (2 ^ N 0 0 - 1))), (0, .ref (a 7))]) X.1 X.2.1 dX6_fillSeen_7 rfl hl (by decide) rfl (fun ls hl => ?_)
  refine lv_iconst (v := nI 0) X.1 X.2.1 dX6_fillSeen_8 (by decide) ?_
  refine lv_istore_n (lv' := [(2, .int (nI 0)), (1, .int (nI (2 ^ N 0 0 - 1))), (0, .ref (a 7))]) X.1 X.2.1 dX6_fillSeen_9 rfl hl (by decide) rfl (fun ls hl => ?_)
  have L10 : ∀ (K : Nat) (k : Nat) (τ : ln_S) (H : Heap) (locs : List Loc), 2 ^ N 0 0 - k < K → (k ≤ 2 ^ N 0 0) → (∀ S, S < k → τ (37 + 2) S = nI (ln_end N 2 S)) → (∀ c, c ≠ 37 + 2 → τ c = σ c) → va_P D ln_cl (CW a g τ) H → va_D A (CW a g τ) → va_S A sta.heap H locs → ∀ ls : Array Slot, lv_has ls 3 [(0, .ref (a 7)), (1, .int (nI (2 ^ N 0 0 - 1))), (2, .int (nI k))] → W prg l env rum sta mid args below meth cod H locs 0 0 Q0 (F0 mid 10 ls []) := by
    intro K
    induction K with
    | zero => intro k τ H locs hm; exact absurd hm (Nat.not_lt_zero _)
    | succ K ih10 =>
      intro k τ H locs hm10 hk hT ho hP hDw hSw ls hl
      have hN : ln_nC N τ := hN.of (fun c hc => ho c (by omega))
      refine lv_iload_n X.1 X.2.1 dX6_fillSeen_10 rfl (lv_at hl 2 rfl) ?_
      refine lv_iload_n X.1 X.2.1 dX6_fillSeen_11 rfl (lv_at hl 1 rfl) ?_
      refine rn_gt X (by omega) (ln_31 (Nat.lt_of_lt_of_le (Nat.sub_lt (ln_pos2 _) (by decide)) hp12)) (tgt := 44) dX6_fillSeen_12 (by decide) (fun h12 => ?_) (fun h12 => ?_)
      · skip
        have hV : ln_vs τ rv bv := hV.of (ho 1 (by omega))
        refine lv_aload_n X.1 X.2.1 dX6_fillSeen_44 rfl (lv_at hl 0 rfl) ?_
        refine gC_7_2 X hP mF_X6_16 dX6_fillSeen_45 ?_
        refine lv_iconst (v := nI 2) X.1 X.2.1 dX6_fillSeen_48 (by decide) ?_
        refine lv_aload_n X.1 X.2.1 dX6_fillSeen_49 rfl (lv_at hl 0 rfl) ?_
        refine gC_7_0 X hP mF_X6_20 dX6_fillSeen_50 ?_
        refine lv_iconst (v := nI 2) X.1 X.2.1 dX6_fillSeen_53 (by decide) ?_
        refine ln_vR X (c_X4_versionOf l D g a τ 0 rv bv hV 2 (by omega) (Nat.le_refl _)) hP 1 rfl rfl mM_X6_51 Y_X4_versionOf rfl (by omega) hl.1 rfl (Nat.le_of_ble_eq_true rfl) dX6_fillSeen_54 ⟨Nat.zero_le _, Nat.zero_le _⟩ (fun r54 hr54 => ?_)
        subst hr54
        refine sC_9 X hP hDw hSw (by omega) dX6_fillSeen_57 (fun H locs hP hDw hSw => ?_)
        obtain ⟨τ2, hτ2⟩ : ∃ z : ln_S, z = (ln_up τ 9 (upd (τ 9) 2 (nI (ln_ver rv bv 2)))) := ⟨_, rfl⟩
        rw [← hτ2] at hP hDw
        subst hQ0
        exact ln_retV X hr hlk hP hSw (by refine ⟨fun S h2 => ?_, ?_, fun c h1 h2 => ?_⟩; (· rw [hτ2, ln_up_n _ _ (by omega)]; exact hT S (by omega)); (· rw [hτ2, ln_up_s, ho 9 (by omega)]); (· rw [hτ2, ln_up_n _ _ h1]; exact ho c h2)) dX6_fillSeen_58
      · skip
        refine lv_aload_n X.1 X.2.1 dX6_fillSeen_15 rfl (lv_at hl 0 rfl) ?_
        refine gC_7_1 X hP mF_X6_11 dX6_fillSeen_16 ?_
        refine lv_iconst (v := nI 2) X.1 X.2.1 dX6_fillSeen_19 (by decide) ?_
        refine oC_8 X hP (by omega) dX6_fillSeen_20 ?_
        refine lv_iload_n X.1 X.2.1 dX6_fillSeen_21 rfl (lv_at hl 2 rfl) ?_
        refine lv_aload_n X.1 X.2.1 dX6_fillSeen_22 rfl (lv_at hl 0 rfl) ?_
        refine gC_7_1 X hP mF_X6_11 dX6_fillSeen_23 ?_
        refine lv_iconst (v := nI 1) X.1 X.2.1 dX6_fillSeen_26 (by decide) ?_
        refine oC_8 X hP (by omega) dX6_fillSeen_27 ?_
        refine lv_aload_n X.1 X.2.1 dX6_fillSeen_28 rfl (lv_at hl 0 rfl) ?_
        refine gC_7_0 X hP mF_X6_20 dX6_fillSeen_29 ?_
        refine lv_iload_n X.1 X.2.1 dX6_fillSeen_32 rfl (lv_at hl 2 rfl) ?_
        refine ln_vR X (c_X4_withBehind l D g a τ 1 N hW hN k (show k < 4096 by omega) (Nat.le_refl _)) hP 1 rfl rfl mM_X6_68 Y_X4_withBehind rfl (by omega) hl.1 rfl (Nat.le_of_ble_eq_true rfl) dX6_fillSeen_33 ⟨Nat.zero_le _, Nat.zero_le _⟩ (fun r33 hr33 => ?_)
        subst hr33
        refine lC_r37 X hP (by omega) (ln_wb12 hW (show k < 4096 by omega)) (v := nI (ln_end N 2 k)) (by rw [ho (37 + 1) (by decide), hE1 _ (ln_wb_lt hW (show k < 2 ^ N 0 0 by omega)), ← ln_end_seen hW (by omega)]) dX6_fillSeen_36 ?_
        refine sC_r37 X hP hDw hSw (by omega) (by omega) dX6_fillSeen_37 (fun H locs hP hDw hSw => ?_)
        obtain ⟨τ1, hτ1⟩ : ∃ z : ln_S, z = (ln_up τ (37 + 2) (upd (τ (37 + 2)) k (nI (ln_end N 2 k)))) := ⟨_, rfl⟩
        rw [← hτ1] at hP hDw
        have hT1 : ∀ S, S < k + 1 → τ1 (37 + 2) S = nI (ln_end N 2 S) := fun S h1 => by rw [hτ1, ln_up_s]; by_cases e : S = k; (· subst e; exact ln_upd_s); (· rw [ln_upd_n e]; exact hT S (by omega))
        have ho1 : ∀ c, c ≠ 37 + 2 → τ1 c = σ c := fun c h1 => by rw [hτ1, ln_up_n _ _ h1]; exact ho c h1
        refine lv_iinc (v := nI (k + 1)) (lv' := [(2, .int (nI (k + 1))), (0, .ref (a 7)), (1, .int (nI (2 ^ N 0 0 - 1)))]) X.1 X.2.1 dX6_fillSeen_38 hl (k := 2) rfl rn_inc (by decide) rfl (fun ls hl => ?_)
        refine lv_goto (tgt := 10) X.1 X.2.1 dX6_fillSeen_41 (by decide) ?_
        exact ih10 (k + 1) τ1 H locs (by omega) (by omega) hT1 ho1 hP hDw hSw ls (lv_sub hl [1, 2, 0] rfl)
  exact L10 _ 0 σ H locs (Nat.lt_succ_self _) (Nat.zero_le _) (fun S h1 => absurd h1 (Nat.not_lt_zero S)) (fun c hc => rfl) hP hDw hSw ls (lv_sub hl [2, 1, 0] rfl)
set_option maxHeartbeats 4000000 in
set_option maxRecDepth 100000 in
theorem c_X6_endsOf (l : Launch) (D : va_G) (g : Nat → ClassId) (a : Nat → Nat) (σ : ln_S) (d : Nat) (N : ln_N) (hW : ln_wf N) (hN : ln_nC N σ) (rv bv : Nat) (hV : ln_vs σ rv bv) (hE : ln_eK N σ rv bv) (r : Nat) (hr3 : r < 3) (hd : 4 ≤ d) : ln_F l D g (CW a g) yX6_endsOf (.code yX6_endsOf cX6_endsOf 2 (some (.array .int))) d [.ref (a 7), .int (nI r)] σ (a (37 + r)) (fun τ => ln_eT N τ r ∧ ln_eK N τ rv bv ∧ ∀ c, c ≠ 9 → c ≠ 37 → c ≠ 38 → c ≠ 39 → τ c = σ c) := by
  have hN12 := hW.n12
  have hp12 := hW.p12
  obtain ⟨e0, he0, hle, himp⟩ := hE r hr3
  have hvl := ln_ver_lt hV r
  refine ln_ofF (by decide +kernel) (Nat.le_of_ble_eq_true rfl) (fun prg env rum sta mid args below meth cod ls A hr hlk X hA hP hDw hSw hl => ?_)
  have hl : lv_has ls 2 [(0, .ref (a 7)), (1, .int (nI r))] := hl
  generalize hQ0 : (MQ below (va_Qr (fun τ => ln_eT N τ r ∧ ln_eK N τ rv bv ∧ ∀ c, c ≠ 9 → c ≠ 37 → c ≠ 38 → c ≠ 39 → τ c = σ c) (fun τ a1 t => a1 = a (37 + r) ∧ va_P D ln_cl (CW a g τ) t.heap) A) args sta 0 0 A) = Q0
  obtain ⟨H, hH⟩ : ∃ H, H = sta.heap := ⟨_, rfl⟩
  obtain ⟨locs, hlo⟩ : ∃ x : List Loc, x = [] := ⟨_, rfl⟩
  rw [← hH] at hP
  have hSw : va_S A sta.heap H locs := by rw [hH, hlo]; exact hSw
  have goal : W prg l env rum sta mid args below meth cod H locs 0 0 Q0 (F0 mid 0 ls []) := ?_
  · rw [hH, hlo] at goal; exact goal
  clear hlo
  refine lv_aload_n X.1 X.2.1 dX6_endsOf_0 rfl (lv_at hl 0 rfl) ?_
  refine gC_7_2 X hP mF_X6_16 dX6_endsOf_1 ?_
  refine lv_iload_n X.1 X.2.1 dX6_endsOf_4 rfl (lv_at hl 1 rfl) ?_
  refine lC_9 X hP (by omega) (v := nI e0) he0 dX6_endsOf_5 ?_
  refine lv_aload_n X.1 X.2.1 dX6_endsOf_6 rfl (lv_at hl 0 rfl) ?_
  refine gC_7_0 X hP mF_X6_20 dX6_endsOf_7 ?_
  refine lv_iload_n X.1 X.2.1 dX6_endsOf_10 rfl (lv_at hl 1 rfl) ?_
  refine ln_vR X (c_X4_versionOf l D g a σ 0 rv bv hV r (by omega) (Nat.le_refl _)) hP 1 rfl rfl mM_X6_51 Y_X4_versionOf rfl (by omega) hl.1 rfl (Nat.le_of_ble_eq_true rfl) dX6_endsOf_11 ⟨Nat.zero_le _, Nat.zero_le _⟩ (fun r11 hr11 => ?_)
  subst hr11
  refine rn_eq X (by omega) (by omega) (tgt := 39) dX6_endsOf_14 (by decide) (fun h14 => ?_) (fun h14 => ?_)
  · skip
    refine lv_aload_n X.1 X.2.1 dX6_endsOf_39 rfl (lv_at hl 0 rfl) ?_
    refine gC_7_1 X hP mF_X6_11 dX6_endsOf_40 ?_
    refine lv_iload_n X.1 X.2.1 dX6_endsOf_43 rfl (lv_at hl 1 rfl) ?_
    refine oC_8 X hP (by omega) dX6_endsOf_44 ?_
    subst hQ0
    exact ln_retF X hr hlk hP hSw (by first | exact ⟨himp h14, hE, fun c _ _ _ _ => rfl⟩ | exact ⟨q1, ln_eK_fill hE (by omega) q1 q2 q3, fun c h1 h2 h3 h4 => q3 c h1 (by omega)⟩ | (subst h19; exact ⟨p1, ln_eK_fill (ln_eK_fill hE (by decide) q1 q2 q3) (by decide) p1 p2 p3, fun c h1 h2 h3 h4 => (p3 c h1 h4).trans (q3 c h1 h3)⟩)) dX6_endsOf_45
  · skip
    refine lv_iload_n X.1 X.2.1 dX6_endsOf_17 rfl (lv_at hl 1 rfl) ?_
    refine lv_iconst (v := nI 2) X.1 X.2.1 dX6_endsOf_18 (by decide) ?_
    refine rn_ne X (by omega) (by decide) (tgt := 34) dX6_endsOf_19 (by decide) (fun h19 => ?_) (fun h19 => ?_)
    · skip
      refine lv_aload_n X.1 X.2.1 dX6_endsOf_34 rfl (lv_at hl 0 rfl) ?_
      refine lv_iload_n X.1 X.2.1 dX6_endsOf_35 rfl (lv_at hl 1 rfl) ?_
      refine ln_vV X (CW_ad a g) hA (c_X6_fillPlain l D g a σ 3 N hW hN rv bv hV r (by omega) (Nat.le_refl _)) hP hDw hSw 7 rfl rfl mM_X6_54 Y_X6_fillPlain rfl (by omega) hl.1 rfl (Nat.le_of_ble_eq_true rfl) dX6_endsOf_36 ⟨Nat.zero_le _, Nat.zero_le _⟩ (fun τ36 H locs hr36 hP hDw hSw => ?_)
      obtain ⟨q1, q2, q3⟩ := hr36
      refine lv_aload_n X.1 X.2.1 dX6_endsOf_39 rfl (lv_at hl 0 rfl) ?_
      refine gC_7_1 X hP mF_X6_11 dX6_endsOf_40 ?_
      refine lv_iload_n X.1 X.2.1 dX6_endsOf_43 rfl (lv_at hl 1 rfl) ?_
      refine oC_8 X hP (by omega) dX6_endsOf_44 ?_
      subst hQ0
      exact ln_retF X hr hlk hP hSw (by first | exact ⟨himp h14, hE, fun c _ _ _ _ => rfl⟩ | exact ⟨q1, ln_eK_fill hE (by omega) q1 q2 q3, fun c h1 h2 h3 h4 => q3 c h1 (by omega)⟩ | (subst h19; exact ⟨p1, ln_eK_fill (ln_eK_fill hE (by decide) q1 q2 q3) (by decide) p1 p2 p3, fun c h1 h2 h3 h4 => (p3 c h1 h4).trans (q3 c h1 h3)⟩)) dX6_endsOf_45
    · skip
      refine lv_aload_n X.1 X.2.1 dX6_endsOf_22 rfl (lv_at hl 0 rfl) ?_
      refine lv_iconst (v := nI 1) X.1 X.2.1 dX6_endsOf_23 (by decide) ?_
      refine ln_vV X (CW_ad a g) hA (c_X6_fillPlain l D g a σ 3 N hW hN rv bv hV 1 (by omega) (Nat.le_refl _)) hP hDw hSw 7 rfl rfl mM_X6_54 Y_X6_fillPlain rfl (by omega) hl.1 rfl (Nat.le_of_ble_eq_true rfl) dX6_endsOf_24 ⟨Nat.zero_le _, Nat.zero_le _⟩ (fun τ24 H locs hr24 hP hDw hSw => ?_)
      obtain ⟨q1, q2, q3⟩ := hr24
      have hN1 : ln_nC N τ24 := hN.of (fun c hc => q3 c (by omega) (by omega))
      have hV1 : ln_vs τ24 rv bv := hV.of (q3 1 (by omega) (by omega))
      refine lv_aload_n X.1 X.2.1 dX6_endsOf_27 rfl (lv_at hl 0 rfl) ?_
      refine ln_vV X (CW_ad a g) hA (c_X6_fillSeen l D g a τ24 3 N hW hN1 rv bv hV1 q1 (Nat.le_refl _)) hP hDw hSw 7 rfl rfl mM_X6_58 Y_X6_fillSeen rfl (by omega) hl.1 rfl (Nat.le_of_ble_eq_true rfl) dX6_endsOf_28 ⟨Nat.zero_le _, Nat.zero_le _⟩ (fun τ28 H locs hr28 hP hDw hSw => ?_)
      obtain ⟨p1, p2, p3⟩ := hr28
      refine lv_goto (tgt := 39) X.1 X.2.1 dX6_endsOf_31 (by decide) ?_
      refine lv_aload_n X.1 X.2.1 dX6_endsOf_39 rfl (lv_at hl 0 rfl) ?_
      refine gC_7_1 X hP mF_X6_11 dX6_endsOf_40 ?_
      refine lv_iload_n X.1 X.2.1 dX6_endsOf_43 rfl (lv_at hl 1 rfl) ?_
      refine oC_8 X hP (by omega) dX6_endsOf_44 ?_
      subst hQ0
      exact ln_retF X hr hlk hP hSw (by first | exact ⟨himp h14, hE, fun c _ _ _ _ => rfl⟩ | exact ⟨q1, ln_eK_fill hE (by omega) q1 q2 q3, fun c h1 h2 h3 h4 => q3 c h1 (by omega)⟩ | (subst h19; exact ⟨p1, ln_eK_fill (ln_eK_fill hE (by decide) q1 q2 q3) (by decide) p1 p2 p3, fun c h1 h2 h3 h4 => (p3 c h1 h4).trans (q3 c h1 h3)⟩)) dX6_endsOf_45
set_option maxHeartbeats 4000000 in
set_option maxRecDepth 100000 in
theorem c_X10_isKnown (l : Launch) (D : va_G) (g : Nat → ClassId) (a : Nat → Nat) (σ : ln_S) (d : Nat) (K k : Nat) (h0 : σ 0 1 = nI K) (hK : K < 2048) (hk : k < 11) (hd : 0 ≤ d) : ln_U l D g (MW a g) yX10_isKnown (.code yX10_isKnown cX10_isKnown 3 (some .boolean)) d [.ref (a 0), .int (nI k)] σ (fun z τ => z = ln_b (K.testBit k) ∧ τ = ln_up σ 0 (upd (σ 0) 1 (nI (K ||| 2 ^ k)))) := by
  refine ln_ofU (by decide +kernel) (Nat.le_of_ble_eq_true rfl) (fun prg env rum sta mid args below meth cod ls A hr hlk X hA hP hDw hSw hl => ?_)
  have hl : lv_has ls 3 [(0, .ref (a 0)), (1, .int (nI k))] := hl
  generalize hQ0 : (MQ below (va_Qi (fun z τ => z = ln_b (K.testBit k) ∧ τ = ln_up σ 0 (upd (σ 0) 1 (nI (K ||| 2 ^ k)))) (fun τ t => va_P D ln_cl (MW a g τ) t.heap) A) args sta 0 0 A) = Q0
  obtain ⟨H, hH⟩ : ∃ H, H = sta.heap := ⟨_, rfl⟩
  obtain ⟨locs, hlo⟩ : ∃ x : List Loc, x = [] := ⟨_, rfl⟩
  rw [← hH] at hP
  have hSw : va_S A sta.heap H locs := by rw [hH, hlo]; exact hSw
  have goal : W prg l env rum sta mid args below meth cod H locs 0 0 Q0 (F0 mid 0 ls []) := ?_
  · rw [hH, hlo] at goal; exact goal
  clear hlo
  refine lv_aload_n X.1 X.2.1 dX10_isKnown_0 rfl (lv_at hl 0 rfl) ?_
  refine gM_0_5 X hP (v := nI K) h0 mF_X10_56 dX10_isKnown_1 ?_
  refine lv_iload_n X.1 X.2.1 dX10_isKnown_4 rfl (lv_at hl 1 rfl) ?_
  refine rn_shr X (by omega) (by omega) dX10_isKnown_5 ?_
  refine lv_iconst (v := nI 1) X.1 X.2.1 dX10_isKnown_6 (by decide) ?_
  refine rn_and X dX10_isKnown_7 ?_
  refine rn_top (y := nI ((if K.testBit k then 1 else 0))) (by rw [ln_shr_and]) ?_
  refine lv_iconst (v := nI 1) X.1 X.2.1 dX10_isKnown_8 (by decide) ?_
  refine rn_ne X (by split <;> decide) (by decide) (tgt := 16) dX10_isKnown_9 (by decide) (fun h9 => ?_) (fun h9 => ?_)
  · skip
    have h9b : K.testBit k = false := by cases hq : K.testBit k with | false => rfl | true => rw [hq] at h9; exact absurd rfl h9
    refine lv_iconst (v := nI 0) X.1 X.2.1 dX10_isKnown_16 (by decide) ?_
    refine lv_istore_n (lv' := [(2, .int (nI 0)), (0, .ref (a 0)), (1, .int (nI k))]) X.1 X.2.1 dX10_isKnown_17 rfl hl (by decide) rfl (fun ls hl => ?_)
    refine lv_aload_n X.1 X.2.1 dX10_isKnown_18 rfl (lv_at hl 1 rfl) ?_
    refine lv_dup X.1 X.2.1 dX10_isKnown_19 rfl ?_
    refine gM_0_5 X hP (v := nI K) h0 mF_X10_56 dX10_isKnown_20 ?_
    refine lv_iconst (v := nI 1) X.1 X.2.1 dX10_isKnown_23 (by decide) ?_
    refine lv_iload_n X.1 X.2.1 dX10_isKnown_24 rfl (lv_at hl 2 rfl) ?_
    refine rn_shl X (by omega) dX10_isKnown_25 ?_
    refine rn_or X dX10_isKnown_26 ?_
    refine pM_0_5 X hP hDw hSw mF_X10_56 dX10_isKnown_27 (fun H locs hP hDw hSw => ?_)
    refine lv_iload_n X.1 X.2.1 dX10_isKnown_30 rfl (lv_at hl 0 rfl) ?_
    subst hQ0
    exact ln_retU X hr hlk hP hSw rfl ⟨by rw [h9b]; rfl, rfl⟩ dX10_isKnown_31
  · skip
    have h9b : K.testBit k = true := by cases hq : K.testBit k with | true => rfl | false => rw [hq] at h9; exact absurd h9 (by decide)
    refine lv_iconst (v := nI 1) X.1 X.2.1 dX10_isKnown_12 (by decide) ?_
    refine lv_goto (tgt := 17) X.1 X.2.1 dX10_isKnown_13 (by decide) ?_
    refine lv_istore_n (lv' := [(2, .int (nI 1)), (0, .ref (a 0)), (1, .int (nI k))]) X.1 X.2.1 dX10_isKnown_17 rfl hl (by decide) rfl (fun ls hl => ?_)
    refine lv_aload_n X.1 X.2.1 dX10_isKnown_18 rfl (lv_at hl 1 rfl) ?_
    refine lv_dup X.1 X.2.1 dX10_isKnown_19 rfl ?_
    refine gM_0_5 X hP (v := nI K) h0 mF_X10_56 dX10_isKnown_20 ?_
    refine lv_iconst (v := nI 1) X.1 X.2.1 dX10_isKnown_23 (by decide) ?_
    refine lv_iload_n X.1 X.2.1 dX10_isKnown_24 rfl (lv_at hl 2 rfl) ?_
    refine rn_shl X (by omega) dX10_isKnown_25 ?_
    refine rn_or X dX10_isKnown_26 ?_
    refine pM_0_5 X hP hDw hSw mF_X10_56 dX10_isKnown_27 (fun H locs hP hDw hSw => ?_)
    refine lv_iload_n X.1 X.2.1 dX10_isKnown_30 rfl (lv_at hl 0 rfl) ?_
    subst hQ0
    exact ln_retU X hr hlk hP hSw rfl ⟨by rw [h9b]; rfl, rfl⟩ dX10_isKnown_31
set_option maxHeartbeats 4000000 in
set_option maxRecDepth 100000 in
theorem c_X10_runs (l : Launch) (D : va_G) (g : Nat → ClassId) (a : Nat → Nat) (σ : ln_S) (d : Nat) (N : ln_N) (hW : ln_wf N) (hN : ln_nM N σ) (r S : Nat) (hr3 : r < 3) (hS : S < 2 ^ N 0 0) (hd : 3 ≤ d) : ln_U l D g (MW a g) yX10_runs (.code yX10_runs cX10_runs 6 (some .int)) d [.ref (a 0), .int (nI r), .int (nI S)] σ (fun z τ => z = nI (ln_end N r S) ∧ ln_ran N r S (τ 5) (τ 0 2) ∧ (∀ c, c ≠ 0 → c ≠ 5 → τ c = σ c) ∧ ∀ j, j ≠ 2 → τ 0 j = σ 0 j) := by
  have hN12 := hW.n12
  have hp12 := hW.p12
  refine ln_ofU (by decide +kernel) (Nat.le_of_ble_eq_true rfl) (fun prg env rum sta mid args below meth cod ls A hr hlk X hA hP hDw hSw hl => ?_)
  have hl : lv_has ls 6 [(0, .ref (a 0)), (1, .int (nI r)), (2, .int (nI S))] := hl
  generalize hQ0 : (MQ below (va_Qi (fun z τ => z = nI (ln_end N r S) ∧ ln_ran N r S (τ 5) (τ 0 2) ∧ (∀ c, c ≠ 0 → c ≠ 5 → τ c = σ c) ∧ ∀ j, j ≠ 2 → τ 0 j = σ 0 j) (fun τ t => va_P D ln_cl (MW a g τ) t.heap) A) args sta 0 0 A) = Q0
  obtain ⟨H, hH⟩ : ∃ H, H = sta.heap := ⟨_, rfl⟩
  obtain ⟨locs, hlo⟩ : ∃ x : List Loc, x = [] := ⟨_, rfl⟩
  rw [← hH] at hP
  have hSw : va_S A sta.heap H locs := by rw [hH, hlo]; exact hSw
  have goal : W prg l env rum sta mid args below meth cod H locs 0 0 Q0 (F0 mid 0 ls []) := ?_
  · rw [hH, hlo] at goal; exact goal
  clear hlo
  refine lv_aload_n X.1 X.2.1 dX10_runs_0 rfl (lv_at hl 0 rfl) ?_
  refine gM_0_6 X hP mF_X10_22 dX10_runs_1 ?_
  refine lv_iconst (v := nI 0) X.1 X.2.1 dX10_runs_4 (by decide) ?_
  refine lv_iload_n X.1 X.2.1 dX10_runs_5 rfl (lv_at hl 2 rfl) ?_
  refine sM_5 X hP hDw hSw (by decide) dX10_runs_6 (fun H locs hP hDw hSw => ?_)
  obtain ⟨σ1, hσ1⟩ : ∃ z : ln_S, z = (ln_up σ 5 (upd (σ 5) 0 (nI S))) := ⟨_, rfl⟩
  rw [← hσ1] at hP hDw
  refine lv_aload_n X.1 X.2.1 dX10_runs_7 rfl (lv_at hl 0 rfl) ?_
  refine lv_iconst (v := nI 0) X.1 X.2.1 dX10_runs_8 (by decide) ?_
  refine pM_0_7 X hP hDw hSw mF_X10_77 dX10_runs_9 (fun H locs hP hDw hSw => ?_)
  obtain ⟨σ2, hσ2⟩ : ∃ z : ln_S, z = (ln_up σ1 0 (upd (σ1 0) 2 (nI 0))) := ⟨_, rfl⟩
  rw [← hσ2] at hP hDw
  refine lv_iconst (v := nI 0) X.1 X.2.1 dX10_runs_12 (by decide) ?_
  refine lv_istore_n (lv' := [(3, .int (nI 0)), (0, .ref (a 0)), (1, .int (nI r)), (2, .int (nI S))]) X.1 X.2.1 dX10_runs_13 rfl hl (by decide) rfl (fun ls hl => ?_)
  refine lv_iconst (v := ln_b true) X.1 X.2.1 dX10_runs_14 (by decide) ?_
  refine lv_istore (lv' := [(4, .int (ln_b true)), (3, .int (nI 0)), (0, .ref (a 0)), (1, .int (nI r)), (2, .int (nI S))]) X.1 X.2.1 dX10_runs_15 hl (by decide) rfl (fun ls hl => ?_)
  have L17 : ∀ (K : Nat) (t : Nat) (b : Bool) (τ : ln_S) (H : Heap) (locs : List Loc), 13 - t + (if b then 1 else 0) < K → (t ≤ 13) → (∀ j, j ≤ t → τ 5 j = nI (ln_st N r S j)) → (τ 0 2 = nI (ln_lc (ln_st N r S) t)) → (b = true → t ≤ 12) → (b = false → ln_lc (ln_st N r S) t = ln_et N r S ∧ ln_st N r S t = ln_end N r S) → (∀ c, c ≠ 0 → c ≠ 5 → τ c = σ c) → (∀ j, j ≠ 2 → τ 0 j = σ 0 j) → va_P D ln_cl (MW a g τ) H → va_D A (MW a g τ) → va_S A sta.heap H locs → ∀ ls : Array Slot, lv_has ls 6 [(0, .ref (a 0)), (1, .int (nI r)), (3, .int (nI t)), (4, .int (ln_b b))] → W prg l env rum sta mid args below meth cod H locs 0 0 Q0 (F0 mid 17 ls []) := by
    intro K
    induction K with
    | zero => intro t b τ H locs hm; exact absurd hm (Nat.not_lt_zero _)
    | succ K ih17 =>
      intro t b τ H locs hm17 ht hj he hb1 hb2 ho ho2 hP hDw hSw ls hl
      have hN : ln_nM N τ := hN.of (ho2 0 (by decide)) (fun c h1 h2 => ho c (by omega) (by omega))
      refine lv_iload X.1 X.2.1 dX10_runs_17 (lv_at hl 3 rfl) ?_
      refine rn_eqB X (tgt := 104) dX10_runs_19 (by decide) (fun h19 => ?_) (fun h19 => ?_)
      · skip
        refine lv_aload_n X.1 X.2.1 dX10_runs_104 rfl (lv_at hl 0 rfl) ?_
        refine gM_0_6 X hP mF_X10_22 dX10_runs_105 ?_
        refine lv_iload_n X.1 X.2.1 dX10_runs_108 rfl (lv_at hl 2 rfl) ?_
        refine lM_5 X hP (by omega) (v := nI (ln_end N r S)) (by rw [hj t (Nat.le_refl t), (hb2 h19).2]) dX10_runs_109 ?_
        subst hQ0
        exact ln_retU X hr hlk hP hSw rfl ⟨rfl, ⟨by rw [he, (hb2 h19).1], fun j hq => hj j (by have := ln_lc_le (ln_st N r S) t; rw [← (hb2 h19).1] at hq; omega)⟩, ho, ho2⟩ dX10_runs_110
      · skip
        have ht12 : t ≤ 12 := hb1 h19
        refine lv_iinc (v := nI (t + 1)) (lv' := [(3, .int (nI (t + 1))), (0, .ref (a 0)), (1, .int (nI r)), (4, .int (ln_b b))]) X.1 X.2.1 dX10_runs_22 hl (k := 2) rfl rn_inc (by decide) rfl (fun ls hl => ?_)
        refine lv_aload_n X.1 X.2.1 dX10_runs_25 rfl (lv_at hl 1 rfl) ?_
        refine gM_0_6 X hP mF_X10_22 dX10_runs_26 ?_
        refine lv_iload_n X.1 X.2.1 dX10_runs_29 rfl (lv_at hl 0 rfl) ?_
        refine lv_aload_n X.1 X.2.1 dX10_runs_30 rfl (lv_at hl 1 rfl) ?_
        refine lv_iload_n X.1 X.2.1 dX10_runs_31 rfl (lv_at hl 2 rfl) ?_
        refine lv_aload_n X.1 X.2.1 dX10_runs_32 rfl (lv_at hl 1 rfl) ?_
        refine gM_0_6 X hP mF_X10_22 dX10_runs_33 ?_
        refine lv_iload_n X.1 X.2.1 dX10_runs_36 rfl (lv_at hl 0 rfl) ?_
        refine lv_iconst (v := nI 1) X.1 X.2.1 dX10_runs_37 (by decide) ?_
        refine rn_sub X (by omega) dX10_runs_38 ?_
        refine rn_top (y := nI t) rfl ?_
        refine lM_5 X hP (by omega) (v := nI (ln_st N r S t)) (hj t (Nat.le_refl t)) dX10_runs_39 ?_
        refine lv_iload_n X.1 X.2.1 dX10_runs_40 rfl (lv_at hl 0 rfl) ?_
        refine ln_vR X (c_X10_tick l D g a τ 2 N hW hN r (ln_st N r S t) (t + 1) (by omega) (ln_st12 hW r hS t) (by omega) (Nat.le_refl _)) hP 0 rfl rfl mM_X10_80 Y_X10_tick rfl (by omega) hl.1 rfl (Nat.le_of_ble_eq_true rfl) dX10_runs_41 ⟨Nat.zero_le _, Nat.zero_le _⟩ (fun r41 hr41 => ?_)
        subst hr41
        refine rn_top (y := nI (ln_st N r S (t + 1))) rfl ?_
        refine sM_5 X hP hDw hSw (by omega) dX10_runs_44 (fun H locs hP hDw hSw => ?_)
        obtain ⟨τ1, hτ1⟩ : ∃ z : ln_S, z = (ln_up τ 5 (upd (τ 5) (t + 1) (nI (ln_st N r S (t + 1))))) := ⟨_, rfl⟩
        rw [← hτ1] at hP hDw
        have hj1 : ∀ j, j ≤ t + 1 → τ1 5 j = nI (ln_st N r S j) := fun j hj2 => by rw [hτ1, ln_up_s]; by_cases e : j = t + 1; (· subst e; exact ln_upd_s); (· rw [ln_upd_n e]; exact hj j (by omega))
        have he1 : τ1 0 2 = nI (ln_lc (ln_st N r S) t) := by rw [hτ1, ln_up_n _ _ (by decide)]; exact he
        have hq1 : ∀ c, c ≠ 0 → c ≠ 5 → τ1 c = σ c := fun c h1 h2 => by rw [hτ1, ln_up_n _ _ h2]; exact ho c h1 h2
        have hu1 : ∀ j, j ≠ 2 → τ1 0 j = σ 0 j := fun j h1 => by rw [hτ1, ln_up_n _ _ (by decide)]; exact ho2 j h1
        refine lv_aload_n X.1 X.2.1 dX10_runs_45 rfl (lv_at hl 1 rfl) ?_
        refine gM_0_6 X hP mF_X10_22 dX10_runs_46 ?_
        refine lv_iload_n X.1 X.2.1 dX10_runs_49 rfl (lv_at hl 0 rfl) ?_
        refine lM_5 X hP (by omega) (v := nI (ln_st N r S (t + 1))) (hj1 _ (Nat.le_refl _)) dX10_runs_50 ?_
        refine lv_aload_n X.1 X.2.1 dX10_runs_51 rfl (lv_at hl 1 rfl) ?_
        refine gM_0_6 X hP mF_X10_22 dX10_runs_52 ?_
        refine lv_iload_n X.1 X.2.1 dX10_runs_55 rfl (lv_at hl 0 rfl) ?_
        refine lv_iconst (v := nI 1) X.1 X.2.1 dX10_runs_56 (by decide) ?_
        refine rn_sub X (by omega) dX10_runs_57 ?_
        refine rn_top (y := nI t) rfl ?_
        refine lM_5 X hP (by omega) (v := nI (ln_st N r S t)) (hj1 t (by omega)) dX10_runs_58 ?_
        refine rn_eq X (ln_31 (ln_st12 hW r hS (t + 1))) (ln_31 (ln_st12 hW r hS t)) (tgt := 66) dX10_runs_59 (by decide) (fun h59 => ?_) (fun h59 => ?_)
        · skip
          refine lv_iconst (v := nI 0) X.1 X.2.1 dX10_runs_66 (by decide) ?_
          refine lv_istore (lv' := [(5, .int (nI 0)), (3, .int (nI (t + 1))), (0, .ref (a 0)), (1, .int (nI r)), (4, .int (ln_b b))]) X.1 X.2.1 dX10_runs_67 hl (by decide) rfl (fun ls hl => ?_)
          refine lv_iload X.1 X.2.1 dX10_runs_69 (lv_at hl 0 rfl) ?_
          refine rn_eq0 X (by decide) (tgt := 79) dX10_runs_71 (by decide) (fun _ => ?_) (fun q => absurd (q) (by decide))
          refine lv_iload X.1 X.2.1 dX10_runs_79 (lv_at hl 0 rfl) ?_
          refine rn_ne0 X (by decide) (tgt := 94) dX10_runs_81 (by decide) (fun q => absurd q (by decide)) (fun _ => ?_)
          refine lv_iload_n X.1 X.2.1 dX10_runs_84 rfl (lv_at hl 3 rfl) ?_
          refine lv_iconst (v := nI 2) X.1 X.2.1 dX10_runs_85 (by decide) ?_
          refine rn_ne X (by omega) (by decide) (tgt := 98) dX10_runs_86 (by decide) (fun h86 => ?_) (fun h86 => ?_)
          · skip
            refine lv_iconst (v := ln_b false) X.1 X.2.1 dX10_runs_98 (by decide) ?_
            refine lv_istore (lv' := [(4, .int (ln_b false)), (5, .int (nI 0)), (3, .int (nI (t + 1))), (0, .ref (a 0)), (1, .int (nI r))]) X.1 X.2.1 dX10_runs_99 hl (by decide) rfl (fun ls hl => ?_)
            refine lv_goto (tgt := 17) X.1 X.2.1 dX10_runs_101 (by decide) ?_
            exact ih17 (t + 1) _ τ1 H locs (by subst h19; simp at hm17 ⊢; omega) (by omega) (by first | exact hj2 | exact hj1) (by first | exact he2 | (rw [he1, ln_lc_s h59])) (by first | (intro q; exact absurd q (by decide)) | (intro _; exact hs12) | (intro _; omega)) (by first | (intro q; exact absurd q (by decide)) | (intro _; rw [ln_lc_s h59, h59]; exact ln_stop ht12 (by omega) h59)) (by first | exact hq2 | exact hq1) (by first | exact hu2 | exact hu1) hP hDw hSw ls (lv_sub hl [3, 4, 2, 0] rfl)
          · skip
            refine lv_iload_n X.1 X.2.1 dX10_runs_89 rfl (lv_at hl 1 rfl) ?_
            refine lv_iconst (v := nI 1) X.1 X.2.1 dX10_runs_90 (by decide) ?_
            refine rn_ne X (by omega) (by decide) (tgt := 98) dX10_runs_91 (by decide) (fun h91 => ?_) (fun h91 => ?_)
            · skip
              refine lv_iconst (v := ln_b false) X.1 X.2.1 dX10_runs_98 (by decide) ?_
              refine lv_istore (lv' := [(4, .int (ln_b false)), (5, .int (nI 0)), (3, .int (nI (t + 1))), (0, .ref (a 0)), (1, .int (nI r))]) X.1 X.2.1 dX10_runs_99 hl (by decide) rfl (fun ls hl => ?_)
              refine lv_goto (tgt := 17) X.1 X.2.1 dX10_runs_101 (by decide) ?_
              exact ih17 (t + 1) _ τ1 H locs (by subst h19; simp at hm17 ⊢; omega) (by omega) (by first | exact hj2 | exact hj1) (by first | exact he2 | (rw [he1, ln_lc_s h59])) (by first | (intro q; exact absurd q (by decide)) | (intro _; exact hs12) | (intro _; omega)) (by first | (intro q; exact absurd q (by decide)) | (intro _; rw [ln_lc_s h59, h59]; exact ln_stop ht12 (by omega) h59)) (by first | exact hq2 | exact hq1) (by first | exact hu2 | exact hu1) hP hDw hSw ls (lv_sub hl [3, 4, 2, 0] rfl)
            · skip
              refine lv_iconst (v := ln_b true) X.1 X.2.1 dX10_runs_94 (by decide) ?_
              refine lv_goto (tgt := 99) X.1 X.2.1 dX10_runs_95 (by decide) ?_
              refine lv_istore (lv' := [(4, .int (ln_b true)), (5, .int (nI 0)), (3, .int (nI (t + 1))), (0, .ref (a 0)), (1, .int (nI r))]) X.1 X.2.1 dX10_runs_99 hl (by decide) rfl (fun ls hl => ?_)
              refine lv_goto (tgt := 17) X.1 X.2.1 dX10_runs_101 (by decide) ?_
              exact ih17 (t + 1) _ τ1 H locs (by subst h19; simp at hm17 ⊢; omega) (by omega) (by first | exact hj2 | exact hj1) (by first | exact he2 | (rw [he1, ln_lc_s h59])) (by first | (intro q; exact absurd q (by decide)) | (intro _; exact hs12) | (intro _; omega)) (by first | (intro q; exact absurd q (by decide)) | (intro _; rw [ln_lc_s h59, h59]; exact ln_stop ht12 (by omega) h59)) (by first | exact hq2 | exact hq1) (by first | exact hu2 | exact hu1) hP hDw hSw ls (lv_sub hl [3, 4, 2, 0] rfl)
        · skip
          have hs12 : t + 1 ≤ 12 := Nat.lt_of_le_of_ne ht12 (fun q => by subst q; exact h59 (ln_st_fix hW hS 12 (Nat.le_refl 12)))
          refine lv_iconst (v := nI 1) X.1 X.2.1 dX10_runs_62 (by decide) ?_
          refine lv_goto (tgt := 67) X.1 X.2.1 dX10_runs_63 (by decide) ?_
          refine lv_istore (lv' := [(5, .int (nI 1)), (3, .int (nI (t + 1))), (0, .ref (a 0)), (1, .int (nI r)), (4, .int (ln_b b))]) X.1 X.2.1 dX10_runs_67 hl (by decide) rfl (fun ls hl => ?_)
          refine lv_iload X.1 X.2.1 dX10_runs_69 (lv_at hl 0 rfl) ?_
          refine rn_eq0 X (by decide) (tgt := 79) dX10_runs_71 (by decide) (fun q => absurd q (by decide)) (fun _ => ?_)
          refine lv_aload_n X.1 X.2.1 dX10_runs_74 rfl (lv_at hl 2 rfl) ?_
          refine lv_iload_n X.1 X.2.1 dX10_runs_75 rfl (lv_at hl 1 rfl) ?_
          refine pM_0_7 X hP hDw hSw mF_X10_77 dX10_runs_76 (fun H locs hP hDw hSw => ?_)
          obtain ⟨τ2, hτ2⟩ : ∃ z : ln_S, z = (ln_up τ1 0 (upd (τ1 0) 2 (nI (t + 1)))) := ⟨_, rfl⟩
          rw [← hτ2] at hP hDw
          have hj2 : ∀ j, j ≤ t + 1 → τ2 5 j = nI (ln_st N r S j) := fun j hq => by rw [hτ2, ln_up_n _ _ (by decide)]; exact hj1 j hq
          have he2 : τ2 0 2 = nI (ln_lc (ln_st N r S) (t + 1)) := by rw [hτ2, ln_up_s, ln_upd_s, ln_lc_n h59]
          have hq2 : ∀ c, c ≠ 0 → c ≠ 5 → τ2 c = σ c := fun c h1 h2 => by rw [hτ2, ln_up_n _ _ h1]; exact hq1 c h1 h2
          have hu2 : ∀ j, j ≠ 2 → τ2 0 j = σ 0 j := fun j h1 => by rw [hτ2, ln_up_s, ln_upd_n h1]; exact hu1 j h1
          refine lv_iload X.1 X.2.1 dX10_runs_79 (lv_at hl 0 rfl) ?_
          refine rn_ne0 X (by decide) (tgt := 94) dX10_runs_81 (by decide) (fun _ => ?_) (fun q => absurd q (by decide))
          refine lv_iconst (v := ln_b true) X.1 X.2.1 dX10_runs_94 (by decide) ?_
          refine lv_goto (tgt := 99) X.1 X.2.1 dX10_runs_95 (by decide) ?_
          refine lv_istore (lv' := [(4, .int (ln_b true)), (5, .int (nI 1)), (3, .int (nI (t + 1))), (0, .ref (a 0)), (1, .int (nI r))]) X.1 X.2.1 dX10_runs_99 hl (by decide) rfl (fun ls hl => ?_)
          refine lv_goto (tgt := 17) X.1 X.2.1 dX10_runs_101 (by decide) ?_
          exact ih17 (t + 1) _ τ2 H locs (by subst h19; simp at hm17 ⊢; omega) (by omega) (by first | exact hj2 | exact hj1) (by first | exact he2 | (rw [he1, ln_lc_s h59])) (by first | (intro q; exact absurd q (by decide)) | (intro _; exact hs12) | (intro _; omega)) (by first | (intro q; exact absurd q (by decide)) | (intro _; rw [ln_lc_s h59, h59]; exact ln_stop ht12 (by omega) h59)) (by first | exact hq2 | exact hq1) (by first | exact hu2 | exact hu1) hP hDw hSw ls (lv_sub hl [3, 4, 2, 0] rfl)
  exact L17 _ 0 true σ2 H locs (Nat.lt_succ_self _) (by decide) (fun j hj => by rw [show j = 0 by omega, hσ2, hσ1]; rfl) (by rw [hσ2]; rfl) (fun _ => by decide) (fun h => absurd h (by decide)) (fun c h1 h2 => by rw [hσ2, hσ1, ln_up_n _ _ h1, ln_up_n _ _ h2]) (fun j h1 => by rw [hσ2, ln_up_s, ln_upd_n h1, hσ1]; rfl) hP hDw hSw ls (lv_sub hl [2, 3, 1, 0] rfl)
set_option maxHeartbeats 4000000 in
set_option maxRecDepth 100000 in
theorem c_X10_comes (l : Launch) (D : va_G) (g : Nat → ClassId) (a : Nat → Nat) (σ : ln_S) (d : Nat) (N : ln_N) (hW : ln_wf N) (r S p : Nat) (hS : S < 2 ^ N 0 0) (hp : p < 12) (hR : ln_ran N r S (σ 5) (σ 0 2)) (hd : 1 ≤ d) : ln_R l D g (MW a g σ) yX10_comes (.code yX10_comes cX10_comes 3 (some .int)) d [.ref (a 0), .int (nI p)] (fun z => z = ln_cm N r S p) := by
  have het := ln_et13 N r S
  refine ln_ofR (by decide +kernel) (Nat.le_of_ble_eq_true rfl) (fun prg env rum sta mid args below meth cod ls hr hlk X hP hl => ?_)
  have hl : lv_has ls 3 [(0, .ref (a 0)), (1, .int (nI p))] := hl
  generalize hQ0 : (MQ below (vp_Si (fun z => z = ln_cm N r S p)) args sta 0 0 (fun _ => False)) = Q0
  refine lv_iconst (v := nI 0) X.1 X.2.1 dX10_comes_0 (by decide) ?_
  refine lv_istore_n (lv' := [(2, .int (nI 0)), (0, .ref (a 0)), (1, .int (nI p))]) X.1 X.2.1 dX10_comes_1 rfl hl (by decide) rfl (fun ls hl => ?_)
  have L2 : ∀ (K : Nat) (t : Nat), ln_et N r S + 1 - t < K → (t ≤ ln_et N r S + 1) → (∀ j, j < t → ln_stb N r S p j = false) → ∀ ls : Array Slot, lv_has ls 3 [(0, .ref (a 0)), (1, .int (nI p)), (2, .int (nI t))] → W prg l env rum sta mid args below meth cod sta.heap [] 0 0 Q0 (F0 mid 2 ls []) := by
    intro K
    induction K with
    | zero => intro t hm; exact absurd hm (Nat.not_lt_zero _)
    | succ K ih2 =>
      intro t hm2 ht hj ls hl
      refine lv_iload_n X.1 X.2.1 dX10_comes_2 rfl (lv_at hl 2 rfl) ?_
      refine lv_aload_n X.1 X.2.1 dX10_comes_3 rfl (lv_at hl 0 rfl) ?_
      refine gM_0_7 X hP (v := nI (ln_et N r S)) hR.1 mF_X10_77 dX10_comes_4 ?_
      refine rn_gt X (by omega) (by omega) (tgt := 31) dX10_comes_7 (by decide) (fun h7 => ?_) (fun h7 => ?_)
      · skip
        refine lv_iconst (v := ((-1))) X.1 X.2.1 dX10_comes_31 (by decide) ?_
        subst hQ0
        exact ln_retR X hr hlk rfl (ln_fr_none (fun j hj2 => hj j (by omega))) dX10_comes_32
      · skip
        refine lv_aload_n X.1 X.2.1 dX10_comes_10 rfl (lv_at hl 0 rfl) ?_
        refine gM_0_6 X hP mF_X10_22 dX10_comes_11 ?_
        refine lv_iload_n X.1 X.2.1 dX10_comes_14 rfl (lv_at hl 2 rfl) ?_
        refine lM_5 X hP (by omega) (v := nI (ln_st N r S t)) (hR.2 t (by omega)) dX10_comes_15 ?_
        refine lv_iload_n X.1 X.2.1 dX10_comes_16 rfl (lv_at hl 1 rfl) ?_
        refine ln_sR X (c_X10_has l D g 0 (ln_st N r S t) p (ln_31 (ln_st12 hW r hS t)) (by omega) (Nat.le_refl _)) ln_nil mM_X10_70 Y_X10_has rfl (by omega) hl.1 rfl (Nat.le_of_ble_eq_true rfl) dX10_comes_17 ⟨Nat.zero_le _, Nat.zero_le _⟩ (fun r17 hr17 => ?_)
        subst hr17
        refine rn_eqB X (tgt := 25) dX10_comes_20 (by decide) (fun h20 => ?_) (fun h20 => ?_)
        · skip
          refine lv_iinc (v := nI (t + 1)) (lv' := [(2, .int (nI (t + 1))), (0, .ref (a 0)), (1, .int (nI p))]) X.1 X.2.1 dX10_comes_25 hl (k := 2) rfl rn_inc (by decide) rfl (fun ls hl => ?_)
          refine lv_goto (tgt := 2) X.1 X.2.1 dX10_comes_28 (by decide) ?_
          exact ih2 (t + 1) (by omega) (by omega) (ln_lt_s hj h20) ls (lv_sub hl [1, 2, 0] rfl)
        · skip
          refine lv_iload_n X.1 X.2.1 dX10_comes_23 rfl (lv_at hl 2 rfl) ?_
          subst hQ0
          exact ln_retR X hr hlk rfl (ln_fr_eq h20 hj (by omega)) dX10_comes_24
  exact L2 _ 0 (Nat.lt_succ_self _) (Nat.zero_le _) (fun j hj => absurd hj (Nat.not_lt_zero j)) ls (lv_sub hl [1, 2, 0] rfl)
end
