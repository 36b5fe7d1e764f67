section
-- ===== PART A: goes FIRST, ahead of the names: the tables' words, and 'selects' of the private methods out of them =====
/-- a private method of a class that the tables say can be made, by its rows of tables_1 -/
def lw_okq (q : MethodName × Nat) : Prop := (q.1.cls ≠ "java/lang/invoke/MethodHandle" ∧ q.1.cls ≠ "java/lang/invoke/VarHandle") ∧ Cond.instantiable q.1.cls q.2 ∈ tables_1 ∧ Cond.privateMethod q.1 ∈ tables_1 ∧ Cond.instanceMethod q.1 ∈ tables_1
theorem lw_p0 : lw_okq (⟨"LampNet$Spread", "afterTickOfBars", "(I)I"⟩, 3) := ⟨⟨by decide +kernel, by decide +kernel⟩, List.mem_of_getElem? (i := 77) (by decide +kernel), List.mem_of_getElem? (i := 309) (by decide +kernel), List.mem_of_getElem? (i := 310) (by decide +kernel)⟩
theorem lw_p1 : lw_okq (⟨"LampNet$Spread", "afterTickOfForced", "(I)I"⟩, 3) := ⟨⟨by decide +kernel, by decide +kernel⟩, List.mem_of_getElem? (i := 77) (by decide +kernel), List.mem_of_getElem? (i := 318) (by decide +kernel), List.mem_of_getElem? (i := 319) (by decide +kernel)⟩
theorem lw_p2 : lw_okq (⟨"LampNet$Course", "leastForcing", "(II)I"⟩, 4) := ⟨⟨by decide +kernel, by decide +kernel⟩, List.mem_of_getElem? (i := 94) (by decide +kernel), List.mem_of_getElem? (i := 348) (by decide +kernel), List.mem_of_getElem? (i := 349) (by decide +kernel)⟩
theorem lw_p3 : lw_okq (⟨"LampNet$Spread", "fillPlain", "(I)V"⟩, 3) := ⟨⟨by decide +kernel, by decide +kernel⟩, List.mem_of_getElem? (i := 77) (by decide +kernel), List.mem_of_getElem? (i := 371) (by decide +kernel), List.mem_of_getElem? (i := 372) (by decide +kernel)⟩
theorem lw_p4 : lw_okq (⟨"LampNet$Spread", "fillSeen", "()V"⟩, 3) := ⟨⟨by decide +kernel, by decide +kernel⟩, List.mem_of_getElem? (i := 77) (by decide +kernel), List.mem_of_getElem? (i := 377) (by decide +kernel), List.mem_of_getElem? (i := 378) (by decide +kernel)⟩
theorem lw_p5 : lw_okq (⟨"LampNet$Strongholds", "fortsWithin", "([II)I"⟩, 5) := ⟨⟨by decide +kernel, by decide +kernel⟩, List.mem_of_getElem? (i := 124) (by decide +kernel), List.mem_of_getElem? (i := 382) (by decide +kernel), List.mem_of_getElem? (i := 383) (by decide +kernel)⟩
theorem lw_p6 : lw_okq (⟨"LampNet$Strongholds", "isLeast", "([II)Z"⟩, 5) := ⟨⟨by decide +kernel, by decide +kernel⟩, List.mem_of_getElem? (i := 124) (by decide +kernel), List.mem_of_getElem? (i := 395) (by decide +kernel), List.mem_of_getElem? (i := 396) (by decide +kernel)⟩
theorem lw_p7 : lw_okq (⟨"LampNet$Strongholds", "mostWithin", "([II)I"⟩, 5) := ⟨⟨by decide +kernel, by decide +kernel⟩, List.mem_of_getElem? (i := 124) (by decide +kernel), List.mem_of_getElem? (i := 415) (by decide +kernel), List.mem_of_getElem? (i := 416) (by decide +kernel)⟩
theorem lw_p8 : lw_okq (⟨"LampNet$Strongholds", "mostByLowest", "([II)I"⟩, 5) := ⟨⟨by decide +kernel, by decide +kernel⟩, List.mem_of_getElem? (i := 124) (by decide +kernel), List.mem_of_getElem? (i := 419) (by decide +kernel), List.mem_of_getElem? (i := 420) (by decide +kernel)⟩
theorem lw_p9 : lw_okq (⟨"LampNet$Burning", "renewTicks", "()V"⟩, 3) := ⟨⟨by decide +kernel, by decide +kernel⟩, List.mem_of_getElem? (i := 146) (by decide +kernel), List.mem_of_getElem? (i := 474) (by decide +kernel), List.mem_of_getElem? (i := 475) (by decide +kernel)⟩
theorem lw_p10 : lw_okq (⟨"LampNet$Burning", "bestPost", "(I)I"⟩, 3) := ⟨⟨by decide +kernel, by decide +kernel⟩, List.mem_of_getElem? (i := 146) (by decide +kernel), List.mem_of_getElem? (i := 480) (by decide +kernel), List.mem_of_getElem? (i := 481) (by decide +kernel)⟩
theorem lw_p11 : lw_okq (⟨"LampNet$Fire", "mostSaved", "(III)I"⟩, 1) := ⟨⟨by decide +kernel, by decide +kernel⟩, List.mem_of_getElem? (i := 162) (by decide +kernel), List.mem_of_getElem? (i := 511) (by decide +kernel), List.mem_of_getElem? (i := 512) (by decide +kernel)⟩
theorem lw_p12 : lw_okq (⟨"LampNet$Fire", "savedBehind", "(III)I"⟩, 1) := ⟨⟨by decide +kernel, by decide +kernel⟩, List.mem_of_getElem? (i := 162) (by decide +kernel), List.mem_of_getElem? (i := 518) (by decide +kernel), List.mem_of_getElem? (i := 519) (by decide +kernel)⟩
theorem lw_p13 : lw_okq (⟨"LampNet$Fire", "afterTick", "(II)I"⟩, 1) := ⟨⟨by decide +kernel, by decide +kernel⟩, List.mem_of_getElem? (i := 162) (by decide +kernel), List.mem_of_getElem? (i := 522) (by decide +kernel), List.mem_of_getElem? (i := 523) (by decide +kernel)⟩
theorem lw_p14 : lw_okq (⟨"LampNet$Fire", "bestPost", "(II)I"⟩, 1) := ⟨⟨by decide +kernel, by decide +kernel⟩, List.mem_of_getElem? (i := 162) (by decide +kernel), List.mem_of_getElem? (i := 536) (by decide +kernel), List.mem_of_getElem? (i := 537) (by decide +kernel)⟩
theorem lw_p15 : lw_okq (⟨"LampNet$Watch", "fillHolding", "()V"⟩, 3) := ⟨⟨by decide +kernel, by decide +kernel⟩, List.mem_of_getElem? (i := 172) (by decide +kernel), List.mem_of_getElem? (i := 548) (by decide +kernel), List.mem_of_getElem? (i := 549) (by decide +kernel)⟩
def lw_privs_1 : List (MethodName × Nat) := [(⟨"LampNet$Spread", "afterTickOfBars", "(I)I"⟩, 3), (⟨"LampNet$Spread", "afterTickOfForced", "(I)I"⟩, 3), (⟨"LampNet$Course", "leastForcing", "(II)I"⟩, 4), (⟨"LampNet$Spread", "fillPlain", "(I)V"⟩, 3), (⟨"LampNet$Spread", "fillSeen", "()V"⟩, 3), (⟨"LampNet$Strongholds", "fortsWithin", "([II)I"⟩, 5), (⟨"LampNet$Strongholds", "isLeast", "([II)Z"⟩, 5), (⟨"LampNet$Strongholds", "mostWithin", "([II)I"⟩, 5), (⟨"LampNet$Strongholds", "mostByLowest", "([II)I"⟩, 5), (⟨"LampNet$Burning", "renewTicks", "()V"⟩, 3), (⟨"LampNet$Burning", "bestPost", "(I)I"⟩, 3), (⟨"LampNet$Fire", "mostSaved", "(III)I"⟩, 1), (⟨"LampNet$Fire", "savedBehind", "(III)I"⟩, 1), (⟨"LampNet$Fire", "afterTick", "(II)I"⟩, 1), (⟨"LampNet$Fire", "bestPost", "(II)I"⟩, 1), (⟨"LampNet$Watch", "fillHolding", "()V"⟩, 3)]
theorem lw_r1 : ∀ q ∈ lw_privs_1, lw_okq q := List.forall_mem_cons.mpr ⟨lw_p0, List.forall_mem_cons.mpr ⟨lw_p1, List.forall_mem_cons.mpr ⟨lw_p2, List.forall_mem_cons.mpr ⟨lw_p3, List.forall_mem_cons.mpr ⟨lw_p4, List.forall_mem_cons.mpr ⟨lw_p5, List.forall_mem_cons.mpr ⟨lw_p6, List.forall_mem_cons.mpr ⟨lw_p7, List.forall_mem_cons.mpr ⟨lw_p8, List.forall_mem_cons.mpr ⟨lw_p9, List.forall_mem_cons.mpr ⟨lw_p10, List.forall_mem_cons.mpr ⟨lw_p11, List.forall_mem_cons.mpr ⟨lw_p12, List.forall_mem_cons.mpr ⟨lw_p13, List.forall_mem_cons.mpr ⟨lw_p14, List.forall_mem_cons.mpr ⟨lw_p15, fun _ h => absurd h List.not_mem_nil⟩⟩⟩⟩⟩⟩⟩⟩⟩⟩⟩⟩⟩⟩⟩⟩
theorem lw_p16 : lw_okq (⟨"LampNet$Watch", "takeFailingAway", "(I)Z"⟩, 3) := ⟨⟨by decide +kernel, by decide +kernel⟩, List.mem_of_getElem? (i := 172) (by decide +kernel), List.mem_of_getElem? (i := 553) (by decide +kernel), List.mem_of_getElem? (i := 554) (by decide +kernel)⟩
theorem lw_p17 : lw_okq (⟨"LampNet$Watch", "answersAll", "(I)Z"⟩, 3) := ⟨⟨by decide +kernel, by decide +kernel⟩, List.mem_of_getElem? (i := 172) (by decide +kernel), List.mem_of_getElem? (i := 557) (by decide +kernel), List.mem_of_getElem? (i := 558) (by decide +kernel)⟩
theorem lw_p18 : lw_okq (⟨"LampNet$Watch", "leastAnswer", "(II)I"⟩, 3) := ⟨⟨by decide +kernel, by decide +kernel⟩, List.mem_of_getElem? (i := 172) (by decide +kernel), List.mem_of_getElem? (i := 562) (by decide +kernel), List.mem_of_getElem? (i := 563) (by decide +kernel)⟩
theorem lw_p19 : lw_okq (⟨"LampNetModel", "isPost", "(I)Z"⟩, 15) := ⟨⟨by decide +kernel, by decide +kernel⟩, List.mem_of_getElem? (i := 612) (by decide +kernel), List.mem_of_getElem? (i := 673) (by decide +kernel), List.mem_of_getElem? (i := 674) (by decide +kernel)⟩
theorem lw_p20 : lw_okq (⟨"LampNetModel", "behind", "(I)I"⟩, 15) := ⟨⟨by decide +kernel, by decide +kernel⟩, List.mem_of_getElem? (i := 612) (by decide +kernel), List.mem_of_getElem? (i := 692) (by decide +kernel), List.mem_of_getElem? (i := 693) (by decide +kernel)⟩
theorem lw_p21 : lw_okq (⟨"LampNetModel", "ahead", "(I)I"⟩, 15) := ⟨⟨by decide +kernel, by decide +kernel⟩, List.mem_of_getElem? (i := 612) (by decide +kernel), List.mem_of_getElem? (i := 696) (by decide +kernel), List.mem_of_getElem? (i := 697) (by decide +kernel)⟩
theorem lw_p22 : lw_okq (⟨"LampNetModel", "isSet", "(I)Z"⟩, 15) := ⟨⟨by decide +kernel, by decide +kernel⟩, List.mem_of_getElem? (i := 612) (by decide +kernel), List.mem_of_getElem? (i := 707) (by decide +kernel), List.mem_of_getElem? (i := 708) (by decide +kernel)⟩
theorem lw_p23 : lw_okq (⟨"LampNetModel", "runs", "(II)I"⟩, 15) := ⟨⟨by decide +kernel, by decide +kernel⟩, List.mem_of_getElem? (i := 612) (by decide +kernel), List.mem_of_getElem? (i := 711) (by decide +kernel), List.mem_of_getElem? (i := 712) (by decide +kernel)⟩
theorem lw_p24 : lw_okq (⟨"LampNetModel", "tick", "(III)I"⟩, 15) := ⟨⟨by decide +kernel, by decide +kernel⟩, List.mem_of_getElem? (i := 612) (by decide +kernel), List.mem_of_getElem? (i := 715) (by decide +kernel), List.mem_of_getElem? (i := 716) (by decide +kernel)⟩
theorem lw_p25 : lw_okq (⟨"LampNetModel", "allBehind", "(I)I"⟩, 15) := ⟨⟨by decide +kernel, by decide +kernel⟩, List.mem_of_getElem? (i := 612) (by decide +kernel), List.mem_of_getElem? (i := 719) (by decide +kernel), List.mem_of_getElem? (i := 720) (by decide +kernel)⟩
theorem lw_p26 : lw_okq (⟨"LampNetModel", "comes", "(I)I"⟩, 15) := ⟨⟨by decide +kernel, by decide +kernel⟩, List.mem_of_getElem? (i := 612) (by decide +kernel), List.mem_of_getElem? (i := 734) (by decide +kernel), List.mem_of_getElem? (i := 735) (by decide +kernel)⟩
theorem lw_p27 : lw_okq (⟨"LampNetModel", "isFort", "(II)Z"⟩, 15) := ⟨⟨by decide +kernel, by decide +kernel⟩, List.mem_of_getElem? (i := 612) (by decide +kernel), List.mem_of_getElem? (i := 746) (by decide +kernel), List.mem_of_getElem? (i := 747) (by decide +kernel)⟩
theorem lw_p28 : lw_okq (⟨"LampNetModel", "all", "()I"⟩, 15) := ⟨⟨by decide +kernel, by decide +kernel⟩, List.mem_of_getElem? (i := 612) (by decide +kernel), List.mem_of_getElem? (i := 750) (by decide +kernel), List.mem_of_getElem? (i := 751) (by decide +kernel)⟩
theorem lw_p29 : lw_okq (⟨"LampNetModel", "findForts", "(I)V"⟩, 15) := ⟨⟨by decide +kernel, by decide +kernel⟩, List.mem_of_getElem? (i := 612) (by decide +kernel), List.mem_of_getElem? (i := 758) (by decide +kernel), List.mem_of_getElem? (i := 759) (by decide +kernel)⟩
theorem lw_p30 : lw_okq (⟨"LampNetModel", "isKnown", "(I)Z"⟩, 15) := ⟨⟨by decide +kernel, by decide +kernel⟩, List.mem_of_getElem? (i := 612) (by decide +kernel), List.mem_of_getElem? (i := 762) (by decide +kernel), List.mem_of_getElem? (i := 763) (by decide +kernel)⟩
theorem lw_p31 : lw_okq (⟨"LampNetModel", "setsGoing", "(II)Z"⟩, 15) := ⟨⟨by decide +kernel, by decide +kernel⟩, List.mem_of_getElem? (i := 612) (by decide +kernel), List.mem_of_getElem? (i := 777) (by decide +kernel), List.mem_of_getElem? (i := 778) (by decide +kernel)⟩
def lw_privs_2 : List (MethodName × Nat) := [(⟨"LampNet$Watch", "takeFailingAway", "(I)Z"⟩, 3), (⟨"LampNet$Watch", "answersAll", "(I)Z"⟩, 3), (⟨"LampNet$Watch", "leastAnswer", "(II)I"⟩, 3), (⟨"LampNetModel", "isPost", "(I)Z"⟩, 15), (⟨"LampNetModel", "behind", "(I)I"⟩, 15), (⟨"LampNetModel", "ahead", "(I)I"⟩, 15), (⟨"LampNetModel", "isSet", "(I)Z"⟩, 15), (⟨"LampNetModel", "runs", "(II)I"⟩, 15), (⟨"LampNetModel", "tick", "(III)I"⟩, 15), (⟨"LampNetModel", "allBehind", "(I)I"⟩, 15), (⟨"LampNetModel", "comes", "(I)I"⟩, 15), (⟨"LampNetModel", "isFort", "(II)Z"⟩, 15), (⟨"LampNetModel", "all", "()I"⟩, 15), (⟨"LampNetModel", "findForts", "(I)V"⟩, 15), (⟨"LampNetModel", "isKnown", "(I)Z"⟩, 15), (⟨"LampNetModel", "setsGoing", "(II)Z"⟩, 15)]
theorem lw_r2 : ∀ q ∈ lw_privs_2, lw_okq q := List.forall_mem_cons.mpr ⟨lw_p16, List.forall_mem_cons.mpr ⟨lw_p17, List.forall_mem_cons.mpr ⟨lw_p18, List.forall_mem_cons.mpr ⟨lw_p19, List.forall_mem_cons.mpr ⟨lw_p20, List.forall_mem_cons.mpr ⟨lw_p21, List.forall_mem_cons.mpr ⟨lw_p22, List.forall_mem_cons.mpr ⟨lw_p23, List.forall_mem_cons.mpr ⟨lw_p24, List.forall_mem_cons.mpr ⟨lw_p25, List.forall_mem_cons.mpr ⟨lw_p26, List.forall_mem_cons.mpr ⟨lw_p27, List.forall_mem_cons.mpr ⟨lw_p28, List.forall_mem_cons.mpr ⟨lw_p29, List.forall_mem_cons.mpr ⟨lw_p30, List.forall_mem_cons.mpr ⟨lw_p31, fun _ h => absurd h List.not_mem_nil⟩⟩⟩⟩⟩⟩⟩⟩⟩⟩⟩⟩⟩⟩⟩⟩
theorem lw_p32 : lw_okq (⟨"LampNetModel", "endOf", "(II)I"⟩, 15) := ⟨⟨by decide +kernel, by decide +kernel⟩, List.mem_of_getElem? (i := 612) (by decide +kernel), List.mem_of_getElem? (i := 781) (by decide +kernel), List.mem_of_getElem? (i := 782) (by decide +kernel)⟩
theorem lw_p33 : lw_okq (⟨"LampNetModel", "burns", "()V"⟩, 15) := ⟨⟨by decide +kernel, by decide +kernel⟩, List.mem_of_getElem? (i := 612) (by decide +kernel), List.mem_of_getElem? (i := 803) (by decide +kernel), List.mem_of_getElem? (i := 804) (by decide +kernel)⟩
theorem lw_p34 : lw_okq (⟨"LampNetModel", "saves", "()V"⟩, 15) := ⟨⟨by decide +kernel, by decide +kernel⟩, List.mem_of_getElem? (i := 612) (by decide +kernel), List.mem_of_getElem? (i := 820) (by decide +kernel), List.mem_of_getElem? (i := 821) (by decide +kernel)⟩
theorem lw_p35 : lw_okq (⟨"LampNetModel", "behindWall", "(II)I"⟩, 15) := ⟨⟨by decide +kernel, by decide +kernel⟩, List.mem_of_getElem? (i := 612) (by decide +kernel), List.mem_of_getElem? (i := 824) (by decide +kernel), List.mem_of_getElem? (i := 825) (by decide +kernel)⟩
theorem lw_p36 : lw_okq (⟨"LampNetModel", "next", "(II)I"⟩, 15) := ⟨⟨by decide +kernel, by decide +kernel⟩, List.mem_of_getElem? (i := 612) (by decide +kernel), List.mem_of_getElem? (i := 828) (by decide +kernel), List.mem_of_getElem? (i := 829) (by decide +kernel)⟩
theorem lw_p37 : lw_okq (⟨"LampNetModel", "guard", "()V"⟩, 15) := ⟨⟨by decide +kernel, by decide +kernel⟩, List.mem_of_getElem? (i := 612) (by decide +kernel), List.mem_of_getElem? (i := 840) (by decide +kernel), List.mem_of_getElem? (i := 841) (by decide +kernel)⟩
theorem lw_p38 : lw_okq (⟨"LampNetModel", "answers", "(II)I"⟩, 15) := ⟨⟨by decide +kernel, by decide +kernel⟩, List.mem_of_getElem? (i := 612) (by decide +kernel), List.mem_of_getElem? (i := 844) (by decide +kernel), List.mem_of_getElem? (i := 845) (by decide +kernel)⟩
theorem lw_p39 : lw_okq (⟨"LampNetModel", "play", "(I)V"⟩, 15) := ⟨⟨by decide +kernel, by decide +kernel⟩, List.mem_of_getElem? (i := 612) (by decide +kernel), List.mem_of_getElem? (i := 860) (by decide +kernel), List.mem_of_getElem? (i := 861) (by decide +kernel)⟩
theorem lw_p40 : lw_okq (⟨"LampNetModel", "winsBy", "(II)I"⟩, 15) := ⟨⟨by decide +kernel, by decide +kernel⟩, List.mem_of_getElem? (i := 612) (by decide +kernel), List.mem_of_getElem? (i := 864) (by decide +kernel), List.mem_of_getElem? (i := 865) (by decide +kernel)⟩
def lw_privs_3 : List (MethodName × Nat) := [(⟨"LampNetModel", "endOf", "(II)I"⟩, 15), (⟨"LampNetModel", "burns", "()V"⟩, 15), (⟨"LampNetModel", "saves", "()V"⟩, 15), (⟨"LampNetModel", "behindWall", "(II)I"⟩, 15), (⟨"LampNetModel", "next", "(II)I"⟩, 15), (⟨"LampNetModel", "guard", "()V"⟩, 15), (⟨"LampNetModel", "answers", "(II)I"⟩, 15), (⟨"LampNetModel", "play", "(I)V"⟩, 15), (⟨"LampNetModel", "winsBy", "(II)I"⟩, 15)]
theorem lw_r3 : ∀ q ∈ lw_privs_3, lw_okq q := List.forall_mem_cons.mpr ⟨lw_p32, List.forall_mem_cons.mpr ⟨lw_p33, List.forall_mem_cons.mpr ⟨lw_p34, List.forall_mem_cons.mpr ⟨lw_p35, List.forall_mem_cons.mpr ⟨lw_p36, List.forall_mem_cons.mpr ⟨lw_p37, List.forall_mem_cons.mpr ⟨lw_p38, List.forall_mem_cons.mpr ⟨lw_p39, List.forall_mem_cons.mpr ⟨lw_p40, fun _ h => absurd h List.not_mem_nil⟩⟩⟩⟩⟩⟩⟩⟩⟩
def lw_privs : List (MethodName × Nat) := lw_privs_1 ++ (lw_privs_2 ++ (lw_privs_3))
def lw_tbl : List Cond := k2_sels lw_privs ++ tables_1
theorem lw_privs_ok : ∀ q ∈ lw_privs, lw_okq q := by
  show ∀ q ∈ lw_privs_1 ++ (lw_privs_2 ++ (lw_privs_3)), lw_okq q
  exact List.forall_mem_append.mpr ⟨lw_r1, List.forall_mem_append.mpr ⟨lw_r2, lw_r3⟩⟩
-- ===== end of PART A; then your names; then what follows =====
/-! THE CLAIM OUT OF ONE WALK OF THE LAW'S BODY. Your part is whole_start (and what it stands on); all else here is the same for every law, but numbers. -/
def R_law : String := "LampNetLaw"
def lw_P (b : Addr) (xs : List Int32) (args : Array Value) (s : State) : Prop := args = #[.ref b] ∧ s.IntsAt b xs ∧ xs.length ≤ 2048 ∧ (Jvm.Cond.and given_1 narrow_1).before args s = true
def lw_Q (_ : Array Value) (s : State) (o : Outcome) (t : State) : Prop := o = .returned (some (.int 1)) ∧ Framed s o t [] 99400 8804048
def lw_Z (below : List Frame) (a : Array Value) (s : State) : State → Prop := fun t => ∃ o, t.status = .running ∧ Ended t below o ∧ lw_Q a s o t
/-- the law's own end, with 1 on the stack, nothing written that was there before, its room as the claim has it -/
theorem lw_ret {p : Program} {l : Launch} {e : Env} {s : State} {m : MethodId} {below : List Frame} {meth : Method} {c : Code} {b : Nat} (hx : p.tables.exec = Jvm.exec) (hb : c.code = code) (hr : meth.sig.returnType = ret) (hlocks : meth.locks = false) {pc : Nat} {H : Heap} {ls : Array Slot} (hdg : decode code pc = .ok (.ireturn, 1)) : W p l e room_1 s m #[Value.ref b] below meth c H [] 99400 8804048 (lw_Z below #[Value.ref b] s) (F0 m pc ls [.int 1]) := by
  intro T hT X
  obtain ⟨fs, hret, hrun, hended, hW, hframe⟩ := X.leave (v := some (.int 1)) (hlocks := hlocks) (fun h => by rw [hr] at h; cases h)
  have hmeth' : T.vm.method? m = some meth := X.method'
  refine ⟨T.setFrames fs, ?_, .returned (some (.int 1)), hrun, hended, rfl, ⟨_, rfl⟩, hW, hframe⟩
  jvm_step X.here [X.here.top, hx, hb, hdg, hmeth', hr, ret, narrow_b1]
  (try refine ⟨rfl, ?_⟩); (try refine ⟨rfl, ?_⟩)
  first | (intro acts; rw [hret _ acts rfl rfl rfl]) | rw [hret _ _ rfl rfl rfl]
  exact Steps.refl _
/-- what holds at the law's entry: the machine, the code, the tables' words (any of lw_tbl by 'hts w (by decide +kernel)'), the script of L ints xs at the cell b, what the Statement gives of the start (any of its parts by flat_of_before) -/
def lw_At (p : Program) (s : State) (m : MethodId) (meth : Method) (c : Code) (b L : Nat) (xs : Nat → Int32) : Prop :=
  p.tables.exec = Jvm.exec ∧ c.code = code ∧ meth.sig.returnType = ret ∧ c.maxLocals = 4 ∧ s.vm.findClass R_law = some m.cls ∧ (∀ w ∈ lw_tbl, w.before #[Value.ref b] s = true) ∧ va_X b L xs s s.heap ∧ b < s.heap.size ∧ meth.locks = false ∧ (Jvm.Cond.and given_1 narrow_1).before #[Value.ref b] s = true
end
section
def va_AOA (t : FieldType) (U : State) : Prop := (Cond.arrayOver (.array t)).before #[] U = true
theorem va_AOA.use {t : FieldType} {A : Array Value} {U : State} (h : va_AOA t U) : (Cond.arrayOver (.array t)).before A U = true := h
/-! ===== BEGIN new T[n][m]: the outer array a place, the inner ones among the pooled ===== -/
/-- f, but v at every address of l -/
def vr_up {α : Type} (f : Nat → α) (l : List Nat) (v : α) : Nat → α := fun a => if a ∈ l then v else f a
theorem vr_up_in {α : Type} {f : Nat → α} {l : List Nat} {v : α} {a : Nat} (h : a ∈ l) : vr_up f l v a = v := if_pos h
theorem vr_up_ne {α : Type} {f : Nat → α} {l : List Nat} {v : α} {a : Nat} (h : a ∉ l) : vr_up f l v a = f a := if_neg h
theorem vr_rows {L l : List Nat} {f : Nat → va_E} {e : va_E} (h : ∀ a, a ∈ l → a ∉ L) : va_pl L f ++ l.map (fun a => (a, e)) = va_pl (L ++ l) (vr_up f l e) := by
  unfold va_pl
  rw [List.map_append]
  congr 1
  · apply List.map_congr_left
    intro a ha
    rw [vr_up_ne (fun q => h a q ha)]
  · apply List.map_congr_left
    intro a ha
    rw [vr_up_in ha]
theorem vr_lay {X rows : va_W} {x : Nat × va_E} {pl : va_W} {D : va_G} {cl : List vw_C} {H : Heap} (hP : va_P D cl (((X ++ pl) ++ [x]) ++ rows) H) : va_P D cl ((X ++ [x]) ++ (pl ++ rows)) H := by
  rw [List.append_assoc (X ++ pl)] at hP
  have h := va_P.swap hP
  rw [← List.append_assoc X] at h
  have h2 := va_P.swap h
  rw [List.append_assoc (X ++ [x])] at h2
  exact h2
theorem vr_layD {X rows : va_W} {x : Nat × va_E} {pl : va_W} {A : Nat → Prop} (hD : va_D A (((X ++ pl) ++ [x]) ++ rows)) : va_D A ((X ++ [x]) ++ (pl ++ rows)) := by
  rw [List.append_assoc (X ++ pl)] at hD
  have h := va_D.swap hD
  rw [← List.append_assoc X] at h
  have h2 := va_D.swap h
  rw [List.append_assoc (X ++ [x])] at h2
  exact h2
theorem vr_outer (c : ClassId) (N h0 : Nat) : ∀ i : Nat, Jvm.Free.Multi.outerC c N h0 i = arrV c N (fun j => va_rf (if j < i then some (h0 + 1 + j) else none))
  | 0 => by
    show ({ cls := c, slots := Array.replicate N .null, vm := .none } : Cell) = _
    rw [arrV_new]
    refine congrArg (arrV c N) (funext fun j => ?_)
    simp [va_rf]
  | i + 1 => by
    show (Jvm.Free.Multi.outerC c N h0 i).setSlot i (.ref (h0 + 1 + i)) = _
    rw [vr_outer c N h0 i, arrV_store]
    refine congrArg (arrV c N) (funext fun j => ?_)
    by_cases e : j = i
    · subst e
      simp [updV, va_rf]
    · by_cases h : j < i
      · simp [updV, e, h, Nat.lt_succ_of_lt h]
      · simp [updV, e, h, show ¬ j < i + 1 by omega]
section VGM
variable {p : Program} {l : Launch} {e : Env} {R : Room} {s : State} {m : MethodId} {args : Array Value} {below : List Frame} {meth : Method} {c : Code} {H : Heap} {locs : List Loc} {cells slots : Nat} {Q : State → Prop}
variable {cc : ByteArray} {pc : Nat} {ls : Array Slot} {rest : List Value} {D : va_G} {cl : List vw_C} {A : Nat → Prop} {a : Nat} {tys : List (ClassId × FieldType)} {ws : va_W} {H0 : Heap}
theorem va_mna {X : va_W} {L : List Nat} {f : Nat → va_E} {cc : ByteArray} (hexec : p.tables.exec = Jvm.exec) (hb : c.code = cc) {own : String} {index : Nat} {ty : FieldType} {cy : ClassId} (hown : s.vm.findClass own = some m.cls) (hclink : (Cond.classLink own index ("[" ++ (FieldType.array ty).toString)).before args s = true) (hover : va_AOA ty s) (harr : (Cond.arrayClass ty).before args s = true) (hcy : s.vm.findClass (FieldType.array ty).toString = some cy)
    (hK : va_K D cl tys s) (hP : va_P D cl (X ++ va_pl L f) H) (hD : va_D A (X ++ va_pl L f)) (hS : va_S A H0 H locs) (hA : ∀ q, H0.size ≤ q → A q) {n k : Int32} {N' K' : Nat} {z : vp_A} (hn : ¬ n < 0) (hk : ¬ k < 0) (hN : n.toNatClampNeg = N') (hM : k.toNatClampNeg = K')
    (hb1 : N' * 4 ≤ 536870912) (hb2 : K' * componentBytes ty ≤ 536870912) (hb3 : K' ≤ 536870912) (hdf : fits ty (defaultValue ty) = true) (hdd : (defaultValue ty).isDefault = true) (hcells : cells + (1 + N') ≤ R.cells) (hslots : slots + (N' + N' * K') ≤ R.slots) (hz : ∀ c : ClassId, Jvm.Free.Multi.innerC c K' (defaultValue ty) = vp_cell c z) (hdg : decode cc pc = .ok (.multianewarray index 2, 4))
    (kk : ∀ (q : Nat) (r : Nat → Nat) (cA : ClassId) (H1 : Heap), (∀ i j : Nat, i < N' → j < N' → r i = r j → i = j) → (∀ i : Nat, i < N' → r i ∉ L) → va_K D cl (tys ++ [(cA, .array ty)]) s →
      va_P D cl ((X ++ [(q, .inl (cA, N', .inr (.inr (.inr (.inr (fun i => if i < N' then some (r i) else none))))))]) ++ va_pl (L ++ (List.range N').map r) (vr_up f ((List.range N').map r) (.inl (cy, z)))) H1 → va_D A ((X ++ [(q, .inl (cA, N', .inr (.inr (.inr (.inr (fun i => if i < N' then some (r i) else none))))))]) ++ va_pl (L ++ (List.range N').map r) (vr_up f ((List.range N').map r) (.inl (cy, z)))) → va_S A H0 H1 locs →
      W p l e R s m args below meth c H1 locs (cells + 1 + N') (slots + N' + N' * K') Q (F0 m (pc + 4) ls (.ref q :: rest))) : W p l e R s m args below meth c H locs cells slots Q (F0 m pc ls (.int k :: .int n :: rest)) := by
  subst hN
  subst hM
  intro T hT Xs
  obtain ⟨vm₁, cA, comp, -, fA, fC, hO, -, X', step⟩ := Xs.multianewarray2F hexec hown hclink (va_AOA.use hover) harr (g := F0 m pc ls (.int k :: .int n :: rest)) rfl (by rw [hb]; exact hdg) rfl hn hk hb1 hb2 hb3 hdf hdd hcells hslots
  have ec : some cy = some comp := hcy.symm.trans fC
  cases ec
  generalize hF : Jvm.Free.Multi.fill (T.setVm vm₁) cA cy n.toNatClampNeg k.toNatClampNeg (defaultValue ty) n.toNatClampNeg = F at X' step
  have hTh : (T.setVm vm₁).heap = H := hT
  obtain ⟨f1, f2, -, -⟩ := Jvm.Free.Multi.fill_facts (T.setVm vm₁) cA cy n.toNatClampNeg k.toNatClampNeg (defaultValue ty) n.toNatClampNeg
  rw [hF, hTh] at f1 f2
  have hold : ∀ x : Nat, x < H.size → F.heap[x]? = H[x]? := fun x hx => by
    have := Jvm.Free.Multi.fill_old (T.setVm vm₁) cA cy n.toNatClampNeg k.toNatClampNeg (defaultValue ty) (a := x) (by rw [hTh]; exact hx) n.toNatClampNeg
    rw [hF, hTh] at this
    exact this
  have hrow : ∀ j : Nat, j < n.toNatClampNeg → F.heap[H.size + 1 + j]? = some (vp_cell cy z) := fun j hj => by
    have := Jvm.Free.Multi.fill_inner (T.setVm vm₁) cA cy n.toNatClampNeg k.toNatClampNeg (defaultValue ty) n.toNatClampNeg j hj
    rw [hF, hTh, hz] at this
    exact this
  have hout : Jvm.Free.Multi.outerC cA n.toNatClampNeg H.size n.toNatClampNeg = vp_cell cA (n.toNatClampNeg, .inr (.inr (.inr (.inr (fun i => if i < n.toNatClampNeg then some (H.size + 1 + i) else none))))) := by
    rw [vp_cell_q]
    exact vr_outer cA n.toNatClampNeg H.size n.toNatClampNeg
  rw [hout] at f2
  have hlt : ∀ a, a ∈ L → a < H.size := fun a ha => by
    obtain ⟨k9, hk9⟩ := va_pl_get (X := X) (f := f) ha
    exact (hP k9 _ hk9).lt
  have hnl : ∀ i : Nat, i < n.toNatClampNeg → H.size + 1 + i ∉ L := fun i _ h => by
    have := hlt _ h
    omega
  have hnm : ∀ a, a ∈ (List.range n.toNatClampNeg).map (fun i => H.size + 1 + i) → a ∉ L := fun a ha h => by
    obtain ⟨i, -, rfl⟩ := List.mem_map.mp ha
    have := hlt _ h
    omega
  have hP0 : va_P D cl (X ++ va_pl L f) F.heap := hP.kept (fun k9 x hx => hold x.1 ((hP k9 x hx).lt))
  have hP1 : va_P D cl ((X ++ va_pl L f) ++ [(H.size, .inl (cA, n.toNatClampNeg, .inr (.inr (.inr (.inr (fun i => if i < n.toNatClampNeg then some (H.size + 1 + i) else none))))))]) F.heap := hP0.app (fun k9 x hx => by
    have h0 : k9 < 1 := (List.getElem?_eq_some_iff.mp hx).1
    rw [show k9 = 0 by omega] at hx
    cases hx
    exact f2)
  have hP2 : va_P D cl (((X ++ va_pl L f) ++ [(H.size, .inl (cA, n.toNatClampNeg, .inr (.inr (.inr (.inr (fun i => if i < n.toNatClampNeg then some (H.size + 1 + i) else none))))))]) ++ ((List.range n.toNatClampNeg).map (fun i => H.size + 1 + i)).map (fun a => (a, .inl (cy, z)))) F.heap := hP1.app (fun k9 x hx => by
    obtain ⟨a, ha, rfl⟩ := List.mem_map.mp (List.mem_of_getElem? hx)
    obtain ⟨i, hi, rfl⟩ := List.mem_map.mp ha
    exact hrow i (List.mem_range.mp hi))
  have hD2 : va_D A (((X ++ va_pl L f) ++ [(H.size, .inl (cA, n.toNatClampNeg, .inr (.inr (.inr (.inr (fun i => if i < n.toNatClampNeg then some (H.size + 1 + i) else none))))))]) ++ ((List.range n.toNatClampNeg).map (fun i => H.size + 1 + i)).map (fun a => (a, .inl (cy, z)))) := by
    have hD1 := hD.push (e := .inl (cA, n.toNatClampNeg, .inr (.inr (.inr (.inr (fun i => if i < n.toNatClampNeg then some (H.size + 1 + i) else none)))))) hP rfl (hA _ hS.1)
    generalize hW1 : (X ++ va_pl L f) ++ [(H.size, .inl (cA, n.toNatClampNeg, .inr (.inr (.inr (.inr (fun i => if i < n.toNatClampNeg then some (H.size + 1 + i) else none))))))] = W1 at hD1 hP1 ⊢
    have hle : ∀ (k9 : Nat) (x : Nat × va_E), W1[k9]? = some x → x.1 ≤ H.size := fun k9 x hx => by
      rw [← hW1] at hx
      by_cases hl : k9 < (X ++ va_pl L f).length
      · rw [List.getElem?_append_left hl] at hx
        exact Nat.le_of_lt ((hP k9 x hx).lt)
      · rw [List.getElem?_append_right (by omega)] at hx
        have h0 : k9 - (X ++ va_pl L f).length < 1 := (List.getElem?_eq_some_iff.mp hx).1
        rw [show k9 - (X ++ va_pl L f).length = 0 by omega] at hx
        cases hx
        exact Nat.le_refl _
    have hr : ∀ (k9 : Nat) (x : Nat × va_E), (((List.range n.toNatClampNeg).map (fun i => H.size + 1 + i)).map (fun a => ((a, .inl (cy, z)) : Nat × va_E)))[k9]? = some x → x.1 = H.size + 1 + k9 := fun k9 x hx => by
      rw [List.getElem?_map, List.getElem?_map] at hx
      by_cases h9 : k9 < n.toNatClampNeg
      · rw [List.getElem?_range h9] at hx
        cases hx
        rfl
      · have hn0 : (List.range n.toNatClampNeg)[k9]? = none := List.getElem?_eq_none (by rw [List.length_range]; omega)
        rw [hn0] at hx
        cases hx
    refine ⟨fun i j x y hi hj hxy => ?_, fun k9 x hx => ?_⟩
    · by_cases h1 : i < W1.length <;> by_cases h2 : j < W1.length
      · rw [List.getElem?_append_left h1] at hi
        rw [List.getElem?_append_left h2] at hj
        exact hD1.1 i j x y hi hj hxy
      · rw [List.getElem?_append_left h1] at hi
        rw [List.getElem?_append_right (by omega)] at hj
        have := hle _ _ hi
        have := hr _ _ hj
        omega
      · rw [List.getElem?_append_right (by omega)] at hi
        rw [List.getElem?_append_left h2] at hj
        have := hle _ _ hj
        have := hr _ _ hi
        omega
      · rw [List.getElem?_append_right (by omega)] at hi hj
        have := hr _ _ hi
        have := hr _ _ hj
        omega
    · by_cases h1 : k9 < W1.length
      · rw [List.getElem?_append_left h1] at hx
        exact hD1.2 k9 x hx
      · rw [List.getElem?_append_right (by omega)] at hx
        have := hr _ _ hx
        exact hA _ (by have := hS.1; omega)
  have hAr : ArrOfT s cA (.array ty) := fun N9 z9 => by
    obtain ⟨-, k9, hk9, cm9, hkk9⟩ := (hO 0 0 0).1
    exact ⟨(fun q hq => by cases hq), k9, hk9, cm9, hkk9⟩
  have hK2 : va_K D cl (tys ++ [(cA, .array ty)]) s := ⟨hK.1, fun k9 x hx => by
    by_cases hl : k9 < tys.length
    · rw [List.getElem?_append_left hl] at hx
      exact hK.2 k9 x hx
    · rw [List.getElem?_append_right (by omega)] at hx
      have h0 : k9 - tys.length < 1 := (List.getElem?_eq_some_iff.mp hx).1
      rw [show k9 - tys.length = 0 by omega] at hx
      cases hx
      exact ⟨hAr, fA⟩⟩
  obtain ⟨t, a1, b1⟩ := kk H.size (fun i => H.size + 1 + i) cA F.heap (fun i j _ _ h => by have h9 : H.size + 1 + i = H.size + 1 + j := h; omega) hnl hK2 (by rw [← vr_rows hnm]; exact vr_lay hP2) (by rw [← vr_rows hnm]; exact vr_layD hD2) ⟨by rw [f1]; have := hS.1; omega, fun x h1 h2 => (hold x (Nat.lt_of_lt_of_le h1 hS.1)).trans (hS.2.1 x h1 h2), hS.2.2⟩ F rfl X'
  refine ⟨t, step t ?_, b1⟩
  have e : T.heap.size = H.size := by rw [hT]
  rw [e]
  exact a1
end VGM
/-! ===== END ===== -/
def RX0 : String := "LampNet$Burning"
def TX0 : u_T := fun k => match k with
  | 0 => ("LampNet$Burning", "net", "LLampNet$Net;", true)
  | 1 => ("LampNet$Burning", "ticksLeft", "[I", true)
  | _ => ("LampNet$Burning", "ticksVersion", "I", false)
def tyX0 : Nat → FieldType := fun k => match k with
  | 0 => .object "LampNet$Net"
  | 1 => .array .int
  | _ => .int
theorem nmX0 : ∀ a, a < 3 → ∀ b, b < 3 → a ≠ b → (TX0 a).2.1 ≠ (TX0 b).2.1 := by decide +kernel
theorem tyX0_ok : ∀ k, k < 3 → parseFieldDescriptor (TX0 k).2.2.1 = some (tyX0 k) := by decide +kernel
abbrev cX0_init : ByteArray := prog_2_method_1_code
def yX0_init : MethodName := ⟨RX0, "<init>", "(LLampNet$Net;)V"⟩
abbrev cX0_fewestTicks : ByteArray := prog_2_method_2_code
def yX0_fewestTicks : MethodName := ⟨RX0, "fewestTicks", "()I"⟩
abbrev cX0_bestHand : ByteArray := prog_2_method_3_code
def yX0_bestHand : MethodName := ⟨RX0, "bestHand", "(I)I"⟩
abbrev cX0_bestPost : ByteArray := prog_2_method_4_code
def yX0_bestPost : MethodName := ⟨RX0, "bestPost", "(I)I"⟩
abbrev cX0_renewTicks : ByteArray := prog_2_method_5_code
def yX0_renewTicks : MethodName := ⟨RX0, "renewTicks", "()V"⟩
abbrev cX0_ticksByHands : ByteArray := prog_2_method_6_code
def yX0_ticksByHands : MethodName := ⟨RX0, "ticksByHands", "(J)I"⟩
def RX1 : String := "LampNet$Course"
def TX1 : u_T := fun k => match k with
  | 0 => ("LampNet$Course", "net", "LLampNet$Net;", true)
  | 1 => ("LampNet$Course", "spread", "LLampNet$Spread;", true)
  | 2 => ("LampNet$Course", "onAt", "[I", true)
  | _ => ("LampNet$Course", "end", "I", false)
def tyX1 : Nat → FieldType := fun k => match k with
  | 0 => .object "LampNet$Net"
  | 1 => .object "LampNet$Spread"
  | 2 => .array .int
  | _ => .int
theorem nmX1 : ∀ a, a < 4 → ∀ b, b < 4 → a ≠ b → (TX1 a).2.1 ≠ (TX1 b).2.1 := by decide +kernel
theorem tyX1_ok : ∀ k, k < 4 → parseFieldDescriptor (TX1 k).2.2.1 = some (tyX1 k) := by decide +kernel
abbrev cX1_init : ByteArray := prog_3_method_1_code
def yX1_init : MethodName := ⟨RX1, "<init>", "(LLampNet$Net;LLampNet$Spread;)V"⟩
abbrev cX1_follow : ByteArray := prog_3_method_2_code
def yX1_follow : MethodName := ⟨RX1, "follow", "(II)V"⟩
abbrev cX1_onAtEnd : ByteArray := prog_3_method_3_code
def yX1_onAtEnd : MethodName := ⟨RX1, "onAtEnd", "()I"⟩
abbrev cX1_tickOf : ByteArray := prog_3_method_4_code
def yX1_tickOf : MethodName := ⟨RX1, "tickOf", "(I)I"⟩
abbrev cX1_bringersOf : ByteArray := prog_3_method_5_code
def yX1_bringersOf : MethodName := ⟨RX1, "bringersOf", "(II)I"⟩
abbrev cX1_leastForcing : ByteArray := prog_3_method_6_code
def yX1_leastForcing : MethodName := ⟨RX1, "leastForcing", "(II)I"⟩
def RX2 : String := "LampNet$Fire"
def TX2 : u_T := fun k => match k with
  | _ => ("LampNet$Fire", "net", "LLampNet$Net;", true)
def tyX2 : Nat → FieldType := fun k => match k with
  | _ => .object "LampNet$Net"
theorem nmX2 : ∀ a, a < 1 → ∀ b, b < 1 → a ≠ b → (TX2 a).2.1 ≠ (TX2 b).2.1 := by decide +kernel
theorem tyX2_ok : ∀ k, k < 1 → parseFieldDescriptor (TX2 k).2.2.1 = some (tyX2 k) := by decide +kernel
abbrev cX2_init : ByteArray := prog_4_method_1_code
def yX2_init : MethodName := ⟨RX2, "<init>", "(LLampNet$Net;)V"⟩
abbrev cX2_saved : ByteArray := prog_4_method_2_code
def yX2_saved : MethodName := ⟨RX2, "saved", "(I)I"⟩
abbrev cX2_mostSaved : ByteArray := prog_4_method_3_code
def yX2_mostSaved : MethodName := ⟨RX2, "mostSaved", "(III)I"⟩
abbrev cX2_savedBehind : ByteArray := prog_4_method_4_code
def yX2_savedBehind : MethodName := ⟨RX2, "savedBehind", "(III)I"⟩
abbrev cX2_afterTick : ByteArray := prog_4_method_5_code
def yX2_afterTick : MethodName := ⟨RX2, "afterTick", "(II)I"⟩
abbrev cX2_bestWall : ByteArray := prog_4_method_6_code
def yX2_bestWall : MethodName := ⟨RX2, "bestWall", "(II)I"⟩
abbrev cX2_bestPost : ByteArray := prog_4_method_7_code
def yX2_bestPost : MethodName := ⟨RX2, "bestPost", "(II)I"⟩
def RX3 : String := "LampNet$Game"
def TX3 : u_T := fun k => match k with
  | 0 => ("LampNet$Game", "net", "LLampNet$Net;", true)
  | 1 => ("LampNet$Game", "spread", "LLampNet$Spread;", true)
  | 2 => ("LampNet$Game", "wins", "[[B", true)
  | _ => ("LampNet$Game", "winsVersion", "[I", true)
def tyX3 : Nat → FieldType := fun k => match k with
  | 0 => .object "LampNet$Net"
  | 1 => .object "LampNet$Spread"
  | 2 => .array (.array .byte)
  | _ => .array .int
theorem nmX3 : ∀ a, a < 4 → ∀ b, b < 4 → a ≠ b → (TX3 a).2.1 ≠ (TX3 b).2.1 := by decide +kernel
theorem tyX3_ok : ∀ k, k < 4 → parseFieldDescriptor (TX3 k).2.2.1 = some (tyX3 k) := by decide +kernel
abbrev cX3_init : ByteArray := prog_5_method_1_code
def yX3_init : MethodName := ⟨RX3, "<init>", "(LLampNet$Net;LLampNet$Spread;)V"⟩
abbrev cX3_winsOf : ByteArray := prog_5_method_2_code
def yX3_winsOf : MethodName := ⟨RX3, "winsOf", "(I)[B"⟩
abbrev cX3_winningPost : ByteArray := prog_5_method_3_code
def yX3_winningPost : MethodName := ⟨RX3, "winningPost", "([B[II)I"⟩
def RX4 : String := "LampNet$Net"
def TX4 : u_T := fun k => match k with
  | 0 => ("LampNet$Net", "posts", "I", false)
  | 1 => ("LampNet$Net", "roadsVersion", "I", false)
  | 2 => ("LampNet$Net", "barsVersion", "I", false)
  | 3 => ("LampNet$Net", "bars", "[I", true)
  | 4 => ("LampNet$Net", "prices", "[I", true)
  | 5 => ("LampNet$Net", "weights", "[[I", true)
  | 6 => ("LampNet$Net", "behind", "[I", true)
  | _ => ("LampNet$Net", "ahead", "[I", true)
def tyX4 : Nat → FieldType := fun k => match k with
  | 0 => .int
  | 1 => .int
  | 2 => .int
  | 3 => .array .int
  | 4 => .array .int
  | 5 => .array (.array .int)
  | 6 => .array .int
  | _ => .array .int
theorem nmX4 : ∀ a, a < 8 → ∀ b, b < 8 → a ≠ b → (TX4 a).2.1 ≠ (TX4 b).2.1 := by decide +kernel
theorem tyX4_ok : ∀ k, k < 8 → parseFieldDescriptor (TX4 k).2.2.1 = some (tyX4 k) := by decide +kernel
abbrev cX4_init : ByteArray := prog_6_method_1_code
def yX4_init : MethodName := ⟨RX4, "<init>", "()V"⟩
abbrev cX4_isPost : ByteArray := prog_6_method_2_code
def yX4_isPost : MethodName := ⟨RX4, "isPost", "(I)Z"⟩
abbrev cX4_isSet : ByteArray := prog_6_method_3_code
def yX4_isSet : MethodName := ⟨RX4, "isSet", "(I)Z"⟩
abbrev cX4_allPosts : ByteArray := prog_6_method_4_code
def yX4_allPosts : MethodName := ⟨RX4, "allPosts", "()I"⟩
abbrev cX4_versionOf : ByteArray := prog_6_method_5_code
def yX4_versionOf : MethodName := ⟨RX4, "versionOf", "(I)I"⟩
abbrev cX4_addPost : ByteArray := prog_6_method_6_code
def yX4_addPost : MethodName := ⟨RX4, "addPost", "()I"⟩
abbrev cX4_setWeight : ByteArray := prog_6_method_7_code
def yX4_setWeight : MethodName := ⟨RX4, "setWeight", "(III)I"⟩
abbrev cX4_setBar : ByteArray := prog_6_method_8_code
def yX4_setBar : MethodName := ⟨RX4, "setBar", "(II)I"⟩
abbrev cX4_setPrice : ByteArray := prog_6_method_9_code
def yX4_setPrice : MethodName := ⟨RX4, "setPrice", "(II)I"⟩
abbrev cX4_priceOf : ByteArray := prog_6_method_10_code
def yX4_priceOf : MethodName := ⟨RX4, "priceOf", "(I)I"⟩
abbrev cX4_weightOnto : ByteArray := prog_6_method_11_code
def yX4_weightOnto : MethodName := ⟨RX4, "weightOnto", "(II)I"⟩
abbrev cX4_withBehind : ByteArray := prog_6_method_12_code
def yX4_withBehind : MethodName := ⟨RX4, "withBehind", "(I)I"⟩
def RX5 : String := "LampNet$Seeds"
def TX5 : u_T := fun k => match k with
  | _ => ("LampNet$Seeds", "net", "LLampNet$Net;", true)
def tyX5 : Nat → FieldType := fun k => match k with
  | _ => .object "LampNet$Net"
theorem nmX5 : ∀ a, a < 1 → ∀ b, b < 1 → a ≠ b → (TX5 a).2.1 ≠ (TX5 b).2.1 := by decide +kernel
theorem tyX5_ok : ∀ k, k < 1 → parseFieldDescriptor (TX5 k).2.2.1 = some (tyX5 k) := by decide +kernel
abbrev cX5_init : ByteArray := prog_7_method_1_code
def yX5_init : MethodName := ⟨RX5, "<init>", "(LLampNet$Net;)V"⟩
abbrev cX5_smallest : ByteArray := prog_7_method_2_code
def yX5_smallest : MethodName := ⟨RX5, "smallest", "([I)I"⟩
abbrev cX5_howManySmallest : ByteArray := prog_7_method_3_code
def yX5_howManySmallest : MethodName := ⟨RX5, "howManySmallest", "([I)I"⟩
abbrev cX5_leastPriced : ByteArray := prog_7_method_4_code
def yX5_leastPriced : MethodName := ⟨RX5, "leastPriced", "([I)I"⟩
abbrev cX5_paredDown : ByteArray := prog_7_method_5_code
def yX5_paredDown : MethodName := ⟨RX5, "paredDown", "([I)I"⟩
def RX6 : String := "LampNet$Spread"
def TX6 : u_T := fun k => match k with
  | 0 => ("LampNet$Spread", "net", "LLampNet$Net;", true)
  | 1 => ("LampNet$Spread", "ends", "[[I", true)
  | _ => ("LampNet$Spread", "endsVersion", "[I", true)
def tyX6 : Nat → FieldType := fun k => match k with
  | 0 => .object "LampNet$Net"
  | 1 => .array (.array .int)
  | _ => .array .int
theorem nmX6 : ∀ a, a < 3 → ∀ b, b < 3 → a ≠ b → (TX6 a).2.1 ≠ (TX6 b).2.1 := by decide +kernel
theorem tyX6_ok : ∀ k, k < 3 → parseFieldDescriptor (TX6 k).2.2.1 = some (tyX6 k) := by decide +kernel
abbrev cX6_init : ByteArray := prog_8_method_1_code
def yX6_init : MethodName := ⟨RX6, "<init>", "(LLampNet$Net;)V"⟩
abbrev cX6_afterTick : ByteArray := prog_8_method_2_code
def yX6_afterTick : MethodName := ⟨RX6, "afterTick", "(II)I"⟩
abbrev cX6_afterTickOfBars : ByteArray := prog_8_method_3_code
def yX6_afterTickOfBars : MethodName := ⟨RX6, "afterTickOfBars", "(I)I"⟩
abbrev cX6_afterTickOfForced : ByteArray := prog_8_method_4_code
def yX6_afterTickOfForced : MethodName := ⟨RX6, "afterTickOfForced", "(I)I"⟩
abbrev cX6_endsOf : ByteArray := prog_8_method_5_code
def yX6_endsOf : MethodName := ⟨RX6, "endsOf", "(I)[I"⟩
abbrev cX6_fillPlain : ByteArray := prog_8_method_6_code
def yX6_fillPlain : MethodName := ⟨RX6, "fillPlain", "(I)V"⟩
abbrev cX6_fillSeen : ByteArray := prog_8_method_7_code
def yX6_fillSeen : MethodName := ⟨RX6, "fillSeen", "()V"⟩
def RX7 : String := "LampNet$Strongholds"
def TX7 : u_T := fun k => match k with
  | 0 => ("LampNet$Strongholds", "net", "LLampNet$Net;", true)
  | 1 => ("LampNet$Strongholds", "spread", "LLampNet$Spread;", true)
  | 2 => ("LampNet$Strongholds", "most", "[I", true)
  | 3 => ("LampNet$Strongholds", "mostOfAll", "[I", true)
  | _ => ("LampNet$Strongholds", "mostVersion", "[I", true)
def tyX7 : Nat → FieldType := fun k => match k with
  | 0 => .object "LampNet$Net"
  | 1 => .object "LampNet$Spread"
  | 2 => .array .int
  | 3 => .array .int
  | _ => .array .int
theorem nmX7 : ∀ a, a < 5 → ∀ b, b < 5 → a ≠ b → (TX7 a).2.1 ≠ (TX7 b).2.1 := by decide +kernel
theorem tyX7_ok : ∀ k, k < 5 → parseFieldDescriptor (TX7 k).2.2.1 = some (tyX7 k) := by decide +kernel
abbrev cX7_init : ByteArray := prog_9_method_1_code
def yX7_init : MethodName := ⟨RX7, "<init>", "(LLampNet$Net;LLampNet$Spread;)V"⟩
abbrev cX7_isFort : ByteArray := prog_9_method_2_code
def yX7_isFort : MethodName := ⟨RX7, "isFort", "(II)Z"⟩
abbrev cX7_fortsWithin : ByteArray := prog_9_method_3_code
def yX7_fortsWithin : MethodName := ⟨RX7, "fortsWithin", "([II)I"⟩
abbrev cX7_leastFort : ByteArray := prog_9_method_4_code
def yX7_leastFort : MethodName := ⟨RX7, "leastFort", "(II)I"⟩
abbrev cX7_isLeast : ByteArray := prog_9_method_5_code
def yX7_isLeast : MethodName := ⟨RX7, "isLeast", "([II)Z"⟩
abbrev cX7_mostApart : ByteArray := prog_9_method_6_code
def yX7_mostApart : MethodName := ⟨RX7, "mostApart", "(I)I"⟩
abbrev cX7_mostWithin : ByteArray := prog_9_method_7_code
def yX7_mostWithin : MethodName := ⟨RX7, "mostWithin", "([II)I"⟩
abbrev cX7_mostByLowest : ByteArray := prog_9_method_8_code
def yX7_mostByLowest : MethodName := ⟨RX7, "mostByLowest", "([II)I"⟩
def RX8 : String := "LampNet$Watch"
def TX8 : u_T := fun k => match k with
  | 0 => ("LampNet$Watch", "net", "LLampNet$Net;", true)
  | 1 => ("LampNet$Watch", "holding", "[Z", true)
  | _ => ("LampNet$Watch", "holdingVersion", "I", false)
def tyX8 : Nat → FieldType := fun k => match k with
  | 0 => .object "LampNet$Net"
  | 1 => .array .boolean
  | _ => .int
theorem nmX8 : ∀ a, a < 3 → ∀ b, b < 3 → a ≠ b → (TX8 a).2.1 ≠ (TX8 b).2.1 := by decide +kernel
theorem tyX8_ok : ∀ k, k < 3 → parseFieldDescriptor (TX8 k).2.2.1 = some (tyX8 k) := by decide +kernel
abbrev cX8_init : ByteArray := prog_10_method_1_code
def yX8_init : MethodName := ⟨RX8, "<init>", "(LLampNet$Net;)V"⟩
abbrev cX8_freshHolding : ByteArray := prog_10_method_2_code
def yX8_freshHolding : MethodName := ⟨RX8, "freshHolding", "()[Z"⟩
abbrev cX8_fillHolding : ByteArray := prog_10_method_3_code
def yX8_fillHolding : MethodName := ⟨RX8, "fillHolding", "()V"⟩
abbrev cX8_fewestHolding : ByteArray := prog_10_method_4_code
def yX8_fewestHolding : MethodName := ⟨RX8, "fewestHolding", "()I"⟩
abbrev cX8_answerFrom : ByteArray := prog_10_method_5_code
def yX8_answerFrom : MethodName := ⟨RX8, "answerFrom", "(II)I"⟩
abbrev cX8_leastAnswer : ByteArray := prog_10_method_6_code
def yX8_leastAnswer : MethodName := ⟨RX8, "leastAnswer", "(II)I"⟩
abbrev cX8_takeFailingAway : ByteArray := prog_10_method_7_code
def yX8_takeFailingAway : MethodName := ⟨RX8, "takeFailingAway", "(I)Z"⟩
abbrev cX8_answersAll : ByteArray := prog_10_method_8_code
def yX8_answersAll : MethodName := ⟨RX8, "answersAll", "(I)Z"⟩
def RX9 : String := "LampNet"
def TX9 : u_T := fun k => match k with
  | 0 => ("LampNet", "net", "LLampNet$Net;", true)
  | 1 => ("LampNet", "spread", "LLampNet$Spread;", true)
  | 2 => ("LampNet", "course", "LLampNet$Course;", true)
  | 3 => ("LampNet", "seeds", "LLampNet$Seeds;", true)
  | 4 => ("LampNet", "strongholds", "LLampNet$Strongholds;", true)
  | 5 => ("LampNet", "burning", "LLampNet$Burning;", true)
  | 6 => ("LampNet", "fires", "LLampNet$Fire;", true)
  | 7 => ("LampNet", "watch", "LLampNet$Watch;", true)
  | _ => ("LampNet", "game", "LLampNet$Game;", true)
def tyX9 : Nat → FieldType := fun k => match k with
  | 0 => .object "LampNet$Net"
  | 1 => .object "LampNet$Spread"
  | 2 => .object "LampNet$Course"
  | 3 => .object "LampNet$Seeds"
  | 4 => .object "LampNet$Strongholds"
  | 5 => .object "LampNet$Burning"
  | 6 => .object "LampNet$Fire"
  | 7 => .object "LampNet$Watch"
  | _ => .object "LampNet$Game"
theorem nmX9 : ∀ a, a < 9 → ∀ b, b < 9 → a ≠ b → (TX9 a).2.1 ≠ (TX9 b).2.1 := by decide +kernel
theorem tyX9_ok : ∀ k, k < 9 → parseFieldDescriptor (TX9 k).2.2.1 = some (tyX9 k) := by decide +kernel
abbrev cX9_init : ByteArray := prog_1_method_1_code
def yX9_init : MethodName := ⟨RX9, "<init>", "()V"⟩
abbrev cX9_post : ByteArray := prog_1_method_2_code
def yX9_post : MethodName := ⟨RX9, "post", "()I"⟩
abbrev cX9_road : ByteArray := prog_1_method_3_code
def yX9_road : MethodName := ⟨RX9, "road", "(III)I"⟩
abbrev cX9_bar : ByteArray := prog_1_method_4_code
def yX9_bar : MethodName := ⟨RX9, "bar", "(II)I"⟩
abbrev cX9_price : ByteArray := prog_1_method_5_code
def yX9_price : MethodName := ⟨RX9, "price", "(II)I"⟩
abbrev cX9_of : ByteArray := prog_1_method_6_code
def yX9_of : MethodName := ⟨RX9, "of", "(II)I"⟩
abbrev cX9_go : ByteArray := prog_1_method_7_code
def yX9_go : MethodName := ⟨RX9, "go", "(II)I"⟩
abbrev cX9_ticks : ByteArray := prog_1_method_8_code
def yX9_ticks : MethodName := ⟨RX9, "ticks", "(II)I"⟩
abbrev cX9_when : ByteArray := prog_1_method_9_code
def yX9_when : MethodName := ⟨RX9, "when", "(III)I"⟩
abbrev cX9_brought : ByteArray := prog_1_method_10_code
def yX9_brought : MethodName := ⟨RX9, "brought", "(III)I"⟩
abbrev cX9_fort : ByteArray := prog_1_method_11_code
def yX9_fort : MethodName := ⟨RX9, "fort", "(II)I"⟩
abbrev cX9_forts : ByteArray := prog_1_method_12_code
def yX9_forts : MethodName := ⟨RX9, "forts", "(II)I"⟩
abbrev cX9_apart : ByteArray := prog_1_method_13_code
def yX9_apart : MethodName := ⟨RX9, "apart", "(I)I"⟩
abbrev cX9_least : ByteArray := prog_1_method_14_code
def yX9_least : MethodName := ⟨RX9, "least", "(I)I"⟩
abbrev cX9_many : ByteArray := prog_1_method_15_code
def yX9_many : MethodName := ⟨RX9, "many", "(I)I"⟩
abbrev cX9_cheapest : ByteArray := prog_1_method_16_code
def yX9_cheapest : MethodName := ⟨RX9, "cheapest", "(I)I"⟩
abbrev cX9_pared : ByteArray := prog_1_method_17_code
def yX9_pared : MethodName := ⟨RX9, "pared", "(I)I"⟩
abbrev cX9_burn : ByteArray := prog_1_method_18_code
def yX9_burn : MethodName := ⟨RX9, "burn", "()I"⟩
abbrev cX9_hand : ByteArray := prog_1_method_19_code
def yX9_hand : MethodName := ⟨RX9, "hand", "(I)I"⟩
abbrev cX9_burnt : ByteArray := prog_1_method_20_code
def yX9_burnt : MethodName := ⟨RX9, "burnt", "(J)I"⟩
abbrev cX9_save : ByteArray := prog_1_method_21_code
def yX9_save : MethodName := ⟨RX9, "save", "(I)I"⟩
abbrev cX9_wall : ByteArray := prog_1_method_22_code
def yX9_wall : MethodName := ⟨RX9, "wall", "(II)I"⟩
abbrev cX9_holds : ByteArray := prog_1_method_23_code
def yX9_holds : MethodName := ⟨RX9, "holds", "(I)I"⟩
abbrev cX9_guards : ByteArray := prog_1_method_24_code
def yX9_guards : MethodName := ⟨RX9, "guards", "()I"⟩
abbrev cX9_answer : ByteArray := prog_1_method_25_code
def yX9_answer : MethodName := ⟨RX9, "answer", "(II)I"⟩
abbrev cX9_win : ByteArray := prog_1_method_26_code
def yX9_win : MethodName := ⟨RX9, "win", "(II)I"⟩
abbrev cX9_first : ByteArray := prog_1_method_27_code
def yX9_first : MethodName := ⟨RX9, "first", "(II)I"⟩
abbrev cX9_count : ByteArray := prog_1_method_28_code
def yX9_count : MethodName := ⟨RX9, "count", "()I"⟩
abbrev cX9_isRule : ByteArray := prog_1_method_29_code
def yX9_isRule : MethodName := ⟨RX9, "isRule", "(I)Z"⟩
abbrev cX9_isPlainRule : ByteArray := prog_1_method_30_code
def yX9_isPlainRule : MethodName := ⟨RX9, "isPlainRule", "(I)Z"⟩
abbrev cX9_hasPost : ByteArray := prog_1_method_31_code
def yX9_hasPost : MethodName := ⟨RX9, "hasPost", "(II)Z"⟩
def RX10 : String := "LampNetModel"
def TX10 : u_T := fun k => match k with
  | 0 => ("LampNetModel", "posts", "I", false)
  | 1 => ("LampNetModel", "weights", "[I", true)
  | 2 => ("LampNetModel", "bars", "[I", true)
  | 3 => ("LampNetModel", "prices", "[I", true)
  | 4 => ("LampNetModel", "behinds", "[I", true)
  | 5 => ("LampNetModel", "known", "I", false)
  | 6 => ("LampNetModel", "stands", "[I", true)
  | 7 => ("LampNetModel", "end", "I", false)
  | 8 => ("LampNetModel", "ends", "[I", true)
  | 9 => ("LampNetModel", "isLeast", "[Z", true)
  | 10 => ("LampNetModel", "best", "[I", true)
  | 11 => ("LampNetModel", "fewest", "[I", true)
  | 12 => ("LampNetModel", "saved", "[I", true)
  | 13 => ("LampNetModel", "hold", "[Z", true)
  | _ => ("LampNetModel", "wins", "[Z", true)
def tyX10 : Nat → FieldType := fun k => match k with
  | 0 => .int
  | 1 => .array .int
  | 2 => .array .int
  | 3 => .array .int
  | 4 => .array .int
  | 5 => .int
  | 6 => .array .int
  | 7 => .int
  | 8 => .array .int
  | 9 => .array .boolean
  | 10 => .array .int
  | 11 => .array .int
  | 12 => .array .int
  | 13 => .array .boolean
  | _ => .array .boolean
theorem nmX10 : ∀ a, a < 15 → ∀ b, b < 15 → a ≠ b → (TX10 a).2.1 ≠ (TX10 b).2.1 := by decide +kernel
theorem tyX10_ok : ∀ k, k < 15 → parseFieldDescriptor (TX10 k).2.2.1 = some (tyX10 k) := by decide +kernel
abbrev cX10_init : ByteArray := prog_12_method_1_code
def yX10_init : MethodName := ⟨RX10, "<init>", "()V"⟩
abbrev cX10_in : ByteArray := prog_12_method_3_code
def yX10_in : MethodName := ⟨RX10, "in", "(III)Z"⟩
abbrev cX10_isPost : ByteArray := prog_12_method_4_code
def yX10_isPost : MethodName := ⟨RX10, "isPost", "(I)Z"⟩
abbrev cX10_isSet : ByteArray := prog_12_method_5_code
def yX10_isSet : MethodName := ⟨RX10, "isSet", "(I)Z"⟩
abbrev cX10_all : ByteArray := prog_12_method_6_code
def yX10_all : MethodName := ⟨RX10, "all", "()I"⟩
abbrev cX10_has : ByteArray := prog_12_method_7_code
def yX10_has : MethodName := ⟨RX10, "has", "(II)Z"⟩
abbrev cX10_ones : ByteArray := prog_12_method_8_code
def yX10_ones : MethodName := ⟨RX10, "ones", "(I)I"⟩
abbrev cX10_post : ByteArray := prog_12_method_9_code
def yX10_post : MethodName := ⟨RX10, "post", "()I"⟩
abbrev cX10_road : ByteArray := prog_12_method_10_code
def yX10_road : MethodName := ⟨RX10, "road", "(III)I"⟩
abbrev cX10_bar : ByteArray := prog_12_method_11_code
def yX10_bar : MethodName := ⟨RX10, "bar", "(II)I"⟩
abbrev cX10_price : ByteArray := prog_12_method_12_code
def yX10_price : MethodName := ⟨RX10, "price", "(II)I"⟩
abbrev cX10_isKnown : ByteArray := prog_12_method_13_code
def yX10_isKnown : MethodName := ⟨RX10, "isKnown", "(I)Z"⟩
abbrev cX10_behind : ByteArray := prog_12_method_14_code
def yX10_behind : MethodName := ⟨RX10, "behind", "(I)I"⟩
abbrev cX10_ahead : ByteArray := prog_12_method_15_code
def yX10_ahead : MethodName := ⟨RX10, "ahead", "(I)I"⟩
abbrev cX10_of : ByteArray := prog_12_method_16_code
def yX10_of : MethodName := ⟨RX10, "of", "(II)I"⟩
abbrev cX10_allBehind : ByteArray := prog_12_method_17_code
def yX10_allBehind : MethodName := ⟨RX10, "allBehind", "(I)I"⟩
abbrev cX10_tick : ByteArray := prog_12_method_18_code
def yX10_tick : MethodName := ⟨RX10, "tick", "(III)I"⟩
abbrev cX10_runs : ByteArray := prog_12_method_19_code
def yX10_runs : MethodName := ⟨RX10, "runs", "(II)I"⟩
abbrev cX10_endOf : ByteArray := prog_12_method_20_code
def yX10_endOf : MethodName := ⟨RX10, "endOf", "(II)I"⟩
abbrev cX10_isRule : ByteArray := prog_12_method_21_code
def yX10_isRule : MethodName := ⟨RX10, "isRule", "(I)Z"⟩
abbrev cX10_go : ByteArray := prog_12_method_22_code
def yX10_go : MethodName := ⟨RX10, "go", "(II)I"⟩
abbrev cX10_ticks : ByteArray := prog_12_method_23_code
def yX10_ticks : MethodName := ⟨RX10, "ticks", "(II)I"⟩
abbrev cX10_comes : ByteArray := prog_12_method_24_code
def yX10_comes : MethodName := ⟨RX10, "comes", "(I)I"⟩
abbrev cX10_when : ByteArray := prog_12_method_25_code
def yX10_when : MethodName := ⟨RX10, "when", "(III)I"⟩
abbrev cX10_brought : ByteArray := prog_12_method_26_code
def yX10_brought : MethodName := ⟨RX10, "brought", "(III)I"⟩
abbrev cX10_isFort : ByteArray := prog_12_method_27_code
def yX10_isFort : MethodName := ⟨RX10, "isFort", "(II)Z"⟩
abbrev cX10_fort : ByteArray := prog_12_method_28_code
def yX10_fort : MethodName := ⟨RX10, "fort", "(II)I"⟩
abbrev cX10_findForts : ByteArray := prog_12_method_29_code
def yX10_findForts : MethodName := ⟨RX10, "findForts", "(I)V"⟩
abbrev cX10_forts : ByteArray := prog_12_method_30_code
def yX10_forts : MethodName := ⟨RX10, "forts", "(II)I"⟩
abbrev cX10_apart : ByteArray := prog_12_method_31_code
def yX10_apart : MethodName := ⟨RX10, "apart", "(I)I"⟩
abbrev cX10_setsGoing : ByteArray := prog_12_method_32_code
def yX10_setsGoing : MethodName := ⟨RX10, "setsGoing", "(II)Z"⟩
abbrev cX10_least : ByteArray := prog_12_method_33_code
def yX10_least : MethodName := ⟨RX10, "least", "(I)I"⟩
abbrev cX10_many : ByteArray := prog_12_method_34_code
def yX10_many : MethodName := ⟨RX10, "many", "(I)I"⟩
abbrev cX10_cheapest : ByteArray := prog_12_method_35_code
def yX10_cheapest : MethodName := ⟨RX10, "cheapest", "(I)I"⟩
abbrev cX10_pared : ByteArray := prog_12_method_36_code
def yX10_pared : MethodName := ⟨RX10, "pared", "(I)I"⟩
abbrev cX10_burns : ByteArray := prog_12_method_37_code
def yX10_burns : MethodName := ⟨RX10, "burns", "()V"⟩
abbrev cX10_burn : ByteArray := prog_12_method_38_code
def yX10_burn : MethodName := ⟨RX10, "burn", "()I"⟩
abbrev cX10_hand : ByteArray := prog_12_method_39_code
def yX10_hand : MethodName := ⟨RX10, "hand", "(I)I"⟩
abbrev cX10_burnt : ByteArray := prog_12_method_40_code
def yX10_burnt : MethodName := ⟨RX10, "burnt", "(J)I"⟩
abbrev cX10_next : ByteArray := prog_12_method_41_code
def yX10_next : MethodName := ⟨RX10, "next", "(II)I"⟩
abbrev cX10_behindWall : ByteArray := prog_12_method_42_code
def yX10_behindWall : MethodName := ⟨RX10, "behindWall", "(II)I"⟩
abbrev cX10_saves : ByteArray := prog_12_method_43_code
def yX10_saves : MethodName := ⟨RX10, "saves", "()V"⟩
abbrev cX10_save : ByteArray := prog_12_method_44_code
def yX10_save : MethodName := ⟨RX10, "save", "(I)I"⟩
abbrev cX10_wall : ByteArray := prog_12_method_45_code
def yX10_wall : MethodName := ⟨RX10, "wall", "(II)I"⟩
abbrev cX10_answers : ByteArray := prog_12_method_46_code
def yX10_answers : MethodName := ⟨RX10, "answers", "(II)I"⟩
abbrev cX10_guard : ByteArray := prog_12_method_47_code
def yX10_guard : MethodName := ⟨RX10, "guard", "()V"⟩
abbrev cX10_holds : ByteArray := prog_12_method_48_code
def yX10_holds : MethodName := ⟨RX10, "holds", "(I)I"⟩
abbrev cX10_guards : ByteArray := prog_12_method_49_code
def yX10_guards : MethodName := ⟨RX10, "guards", "()I"⟩
abbrev cX10_answer : ByteArray := prog_12_method_50_code
def yX10_answer : MethodName := ⟨RX10, "answer", "(II)I"⟩
abbrev cX10_play : ByteArray := prog_12_method_51_code
def yX10_play : MethodName := ⟨RX10, "play", "(I)V"⟩
abbrev cX10_winsBy : ByteArray := prog_12_method_52_code
def yX10_winsBy : MethodName := ⟨RX10, "winsBy", "(II)I"⟩
abbrev cX10_win : ByteArray := prog_12_method_53_code
def yX10_win : MethodName := ⟨RX10, "win", "(II)I"⟩
abbrev cX10_first : ByteArray := prog_12_method_54_code
def yX10_first : MethodName := ⟨RX10, "first", "(II)I"⟩
abbrev cX10_count : ByteArray := prog_12_method_55_code
def yX10_count : MethodName := ⟨RX10, "count", "()I"⟩
def RJ6 : String := "java/lang/Integer"
def TJ6 : u_T := fun k => match k with
  | _ => ("", "", "", false)
def tyJ6 : Nat → FieldType := fun k => match k with
  | _ => .int
theorem nmJ6 : ∀ a, a < 0 → ∀ b, b < 0 → a ≠ b → (TJ6 a).2.1 ≠ (TJ6 b).2.1 := by decide +kernel
theorem tyJ6_ok : ∀ k, k < 0 → parseFieldDescriptor (TJ6 k).2.2.1 = some (tyJ6 k) := by decide +kernel
abbrev cJ6_bitCount_0f7a4 : ByteArray := prog_13_method_49_code
def yJ6_bitCount_0f7a4 : MethodName := ⟨RJ6, "bitCount", "(I)I"⟩
def RJ9 : String := "java/lang/Math"
def TJ9 : u_T := fun k => match k with
  | _ => ("", "", "", false)
def tyJ9 : Nat → FieldType := fun k => match k with
  | _ => .int
theorem nmJ9 : ∀ a, a < 0 → ∀ b, b < 0 → a ≠ b → (TJ9 a).2.1 ≠ (TJ9 b).2.1 := by decide +kernel
theorem tyJ9_ok : ∀ k, k < 0 → parseFieldDescriptor (TJ9 k).2.2.1 = some (tyJ9 k) := by decide +kernel
abbrev cJ9_max_7cf53 : ByteArray := prog_14_method_65_code
def yJ9_max_7cf53 : MethodName := ⟨RJ9, "max", "(II)I"⟩
abbrev cJ9_min_7cf53 : ByteArray := prog_14_method_69_code
def yJ9_min_7cf53 : MethodName := ⟨RJ9, "min", "(II)I"⟩
def RL : String := "LampNetLaw"
abbrev cL_law : ByteArray := code
def yL_law : MethodName := ⟨RL, "law", "([I)Z"⟩
end
section
/-- a word that speaks of a link to a nest mate's private member -/
def ln_nest : Cond → Bool
  | .fieldLinkNest _ _ _ _ _ _ => true
  | .methodLinkNest _ _ _ _ => true
  | _ => false
theorem mE_X6_afterTickOfBars : Cond.selects RX6 yX6_afterTickOfBars yX6_afterTickOfBars ∈ lw_tbl := List.mem_of_getElem? (i := 0) (by decide +kernel)
theorem mE_X6_afterTickOfForced : Cond.selects RX6 yX6_afterTickOfForced yX6_afterTickOfForced ∈ lw_tbl := List.mem_of_getElem? (i := 1) (by decide +kernel)
theorem mE_X1_leastForcing : Cond.selects RX1 yX1_leastForcing yX1_leastForcing ∈ lw_tbl := List.mem_of_getElem? (i := 2) (by decide +kernel)
theorem mE_X6_fillPlain : Cond.selects RX6 yX6_fillPlain yX6_fillPlain ∈ lw_tbl := List.mem_of_getElem? (i := 3) (by decide +kernel)
theorem mE_X6_fillSeen : Cond.selects RX6 yX6_fillSeen yX6_fillSeen ∈ lw_tbl := List.mem_of_getElem? (i := 4) (by decide +kernel)
theorem mE_X7_fortsWithin : Cond.selects RX7 yX7_fortsWithin yX7_fortsWithin ∈ lw_tbl := List.mem_of_getElem? (i := 5) (by decide +kernel)
theorem mE_X7_isLeast : Cond.selects RX7 yX7_isLeast yX7_isLeast ∈ lw_tbl := List.mem_of_getElem? (i := 6) (by decide +kernel)
theorem mE_X7_mostWithin : Cond.selects RX7 yX7_mostWithin yX7_mostWithin ∈ lw_tbl := List.mem_of_getElem? (i := 7) (by decide +kernel)
theorem mE_X7_mostByLowest : Cond.selects RX7 yX7_mostByLowest yX7_mostByLowest ∈ lw_tbl := List.mem_of_getElem? (i := 8) (by decide +kernel)
theorem mE_X0_renewTicks : Cond.selects RX0 yX0_renewTicks yX0_renewTicks ∈ lw_tbl := List.mem_of_getElem? (i := 9) (by decide +kernel)
theorem mE_X0_bestPost : Cond.selects RX0 yX0_bestPost yX0_bestPost ∈ lw_tbl := List.mem_of_getElem? (i := 10) (by decide +kernel)
theorem mE_X2_mostSaved : Cond.selects RX2 yX2_mostSaved yX2_mostSaved ∈ lw_tbl := List.mem_of_getElem? (i := 11) (by decide +kernel)
theorem mE_X2_savedBehind : Cond.selects RX2 yX2_savedBehind yX2_savedBehind ∈ lw_tbl := List.mem_of_getElem? (i := 12) (by decide +kernel)
theorem mE_X2_afterTick : Cond.selects RX2 yX2_afterTick yX2_afterTick ∈ lw_tbl := List.mem_of_getElem? (i := 13) (by decide +kernel)
theorem mE_X2_bestPost : Cond.selects RX2 yX2_bestPost yX2_bestPost ∈ lw_tbl := List.mem_of_getElem? (i := 14) (by decide +kernel)
theorem mE_X8_fillHolding : Cond.selects RX8 yX8_fillHolding yX8_fillHolding ∈ lw_tbl := List.mem_of_getElem? (i := 15) (by decide +kernel)
theorem mE_X8_takeFailingAway : Cond.selects RX8 yX8_takeFailingAway yX8_takeFailingAway ∈ lw_tbl := List.mem_of_getElem? (i := 16) (by decide +kernel)
theorem mE_X8_answersAll : Cond.selects RX8 yX8_answersAll yX8_answersAll ∈ lw_tbl := List.mem_of_getElem? (i := 17) (by decide +kernel)
theorem mE_X8_leastAnswer : Cond.selects RX8 yX8_leastAnswer yX8_leastAnswer ∈ lw_tbl := List.mem_of_getElem? (i := 18) (by decide +kernel)
theorem mE_X10_isPost : Cond.selects RX10 yX10_isPost yX10_isPost ∈ lw_tbl := List.mem_of_getElem? (i := 19) (by decide +kernel)
theorem mE_X10_behind : Cond.selects RX10 yX10_behind yX10_behind ∈ lw_tbl := List.mem_of_getElem? (i := 20) (by decide +kernel)
theorem mE_X10_ahead : Cond.selects RX10 yX10_ahead yX10_ahead ∈ lw_tbl := List.mem_of_getElem? (i := 21) (by decide +kernel)
theorem mE_X10_isSet : Cond.selects RX10 yX10_isSet yX10_isSet ∈ lw_tbl := List.mem_of_getElem? (i := 22) (by decide +kernel)
theorem mE_X10_runs : Cond.selects RX10 yX10_runs yX10_runs ∈ lw_tbl := List.mem_of_getElem? (i := 23) (by decide +kernel)
theorem mE_X10_tick : Cond.selects RX10 yX10_tick yX10_tick ∈ lw_tbl := List.mem_of_getElem? (i := 24) (by decide +kernel)
theorem mE_X10_allBehind : Cond.selects RX10 yX10_allBehind yX10_allBehind ∈ lw_tbl := List.mem_of_getElem? (i := 25) (by decide +kernel)
theorem mE_X10_comes : Cond.selects RX10 yX10_comes yX10_comes ∈ lw_tbl := List.mem_of_getElem? (i := 26) (by decide +kernel)
theorem mE_X10_isFort : Cond.selects RX10 yX10_isFort yX10_isFort ∈ lw_tbl := List.mem_of_getElem? (i := 27) (by decide +kernel)
theorem mE_X10_all : Cond.selects RX10 yX10_all yX10_all ∈ lw_tbl := List.mem_of_getElem? (i := 28) (by decide +kernel)
theorem mE_X10_findForts : Cond.selects RX10 yX10_findForts yX10_findForts ∈ lw_tbl := List.mem_of_getElem? (i := 29) (by decide +kernel)
theorem mE_X10_isKnown : Cond.selects RX10 yX10_isKnown yX10_isKnown ∈ lw_tbl := List.mem_of_getElem? (i := 30) (by decide +kernel)
theorem mE_X10_setsGoing : Cond.selects RX10 yX10_setsGoing yX10_setsGoing ∈ lw_tbl := List.mem_of_getElem? (i := 31) (by decide +kernel)
theorem mE_X10_endOf : Cond.selects RX10 yX10_endOf yX10_endOf ∈ lw_tbl := List.mem_of_getElem? (i := 32) (by decide +kernel)
theorem mE_X10_burns : Cond.selects RX10 yX10_burns yX10_burns ∈ lw_tbl := List.mem_of_getElem? (i := 33) (by decide +kernel)
theorem mE_X10_saves : Cond.selects RX10 yX10_saves yX10_saves ∈ lw_tbl := List.mem_of_getElem? (i := 34) (by decide +kernel)
theorem mE_X10_behindWall : Cond.selects RX10 yX10_behindWall yX10_behindWall ∈ lw_tbl := List.mem_of_getElem? (i := 35) (by decide +kernel)
theorem mE_X10_next : Cond.selects RX10 yX10_next yX10_next ∈ lw_tbl := List.mem_of_getElem? (i := 36) (by decide +kernel)
theorem mE_X10_guard : Cond.selects RX10 yX10_guard yX10_guard ∈ lw_tbl := List.mem_of_getElem? (i := 37) (by decide +kernel)
theorem mE_X10_answers : Cond.selects RX10 yX10_answers yX10_answers ∈ lw_tbl := List.mem_of_getElem? (i := 38) (by decide +kernel)
theorem mE_X10_play : Cond.selects RX10 yX10_play yX10_play ∈ lw_tbl := List.mem_of_getElem? (i := 39) (by decide +kernel)
theorem mE_X10_winsBy : Cond.selects RX10 yX10_winsBy yX10_winsBy ∈ lw_tbl := List.mem_of_getElem? (i := 40) (by decide +kernel)
theorem mI_L : Cond.initialized RL ∈ lw_tbl := List.mem_of_getElem? (i := 41) (by decide +kernel)
theorem mI_X9 : Cond.initialized RX9 ∈ lw_tbl := List.mem_of_getElem? (i := 42) (by decide +kernel)
theorem mI_X4 : Cond.initialized RX4 ∈ lw_tbl := List.mem_of_getElem? (i := 43) (by decide +kernel)
theorem mI_X6 : Cond.initialized RX6 ∈ lw_tbl := List.mem_of_getElem? (i := 44) (by decide +kernel)
theorem mI_X1 : Cond.initialized RX1 ∈ lw_tbl := List.mem_of_getElem? (i := 45) (by decide +kernel)
theorem mI_X5 : Cond.initialized RX5 ∈ lw_tbl := List.mem_of_getElem? (i := 46) (by decide +kernel)
theorem mI_X7 : Cond.initialized RX7 ∈ lw_tbl := List.mem_of_getElem? (i := 47) (by decide +kernel)
theorem mI_X0 : Cond.initialized RX0 ∈ lw_tbl := List.mem_of_getElem? (i := 48) (by decide +kernel)
theorem mI_X2 : Cond.initialized RX2 ∈ lw_tbl := List.mem_of_getElem? (i := 49) (by decide +kernel)
theorem mI_X8 : Cond.initialized RX8 ∈ lw_tbl := List.mem_of_getElem? (i := 50) (by decide +kernel)
theorem mI_X3 : Cond.initialized RX3 ∈ lw_tbl := List.mem_of_getElem? (i := 51) (by decide +kernel)
theorem mI_X10 : Cond.initialized RX10 ∈ lw_tbl := List.mem_of_getElem? (i := 52) (by decide +kernel)
theorem mI_J6 : Cond.initialized RJ6 ∈ lw_tbl := List.mem_of_getElem? (i := 53) (by decide +kernel)
theorem mI_J9 : Cond.initialized RJ9 ∈ lw_tbl := List.mem_of_getElem? (i := 54) (by decide +kernel)
theorem mL_L_7 : Cond.classLink RL 7 RX9 ∈ lw_tbl := List.mem_of_getElem? (i := 55) (by decide +kernel)
theorem mN_X9 : Cond.instantiable RX9 9 ∈ lw_tbl := List.mem_of_getElem? (i := 56) (by decide +kernel)
theorem mM_L_9 : Cond.methodLink RL 9 yX9_init ∈ lw_tbl := List.mem_of_getElem? (i := 57) (by decide +kernel)
theorem mV_X9_init : Cond.instanceMethod yX9_init ∈ lw_tbl := List.mem_of_getElem? (i := 58) (by decide +kernel)
theorem mC_X9_init : Cond.code yX9_init cX9_init 1 none ∈ lw_tbl := List.mem_of_getElem? (i := 59) (by decide +kernel)
theorem mM_X9_3 : Cond.methodLink RX9 3 Lib.objectInit ∈ lw_tbl := List.mem_of_getElem? (i := 60) (by decide +kernel)
theorem mV_objInit : Cond.instanceMethod Lib.objectInit ∈ lw_tbl := List.mem_of_getElem? (i := 61) (by decide +kernel)
theorem mC_objInit : Cond.code Lib.objectInit ⟨#[0xb1]⟩ 1 none ∈ lw_tbl := List.mem_of_getElem? (i := 62) (by decide +kernel)
theorem mL_X9_9 : Cond.classLink RX9 9 RX4 ∈ lw_tbl := List.mem_of_getElem? (i := 63) (by decide +kernel)
theorem mN_X4 : Cond.instantiable RX4 8 ∈ lw_tbl := List.mem_of_getElem? (i := 64) (by decide +kernel)
theorem mM_X9_11 : Cond.methodLinkNest RX9 11 yX4_init "LampNet" ∈ lw_tbl := List.mem_of_getElem? (i := 65) (by decide +kernel)
theorem mV_X4_init : Cond.instanceMethod yX4_init ∈ lw_tbl := List.mem_of_getElem? (i := 66) (by decide +kernel)
theorem mC_X4_init : Cond.code yX4_init cX4_init 1 none ∈ lw_tbl := List.mem_of_getElem? (i := 67) (by decide +kernel)
theorem mM_X4_3 : Cond.methodLink RX4 3 Lib.objectInit ∈ lw_tbl := List.mem_of_getElem? (i := 68) (by decide +kernel)
theorem mL_X4_22 : Cond.classLink RX4 22 "[[I" ∈ lw_tbl := List.mem_of_getElem? (i := 69) (by decide +kernel)
theorem mO_array_int : Cond.arrayOver (.array .int) ∈ lw_tbl := List.mem_of_getElem? (i := 70) (by decide +kernel)
theorem mF_X9_76 : Cond.fieldLinkNest RX9 76 "LampNet$Net" "posts" "I" "LampNet" ∈ lw_tbl := List.mem_of_getElem? (i := 71) (by decide +kernel)
theorem mF_X4_33 : Cond.fieldLink RX4 33 "LampNet$Net" "posts" "I" ∈ lw_tbl := List.mem_of_getElem? (i := 72) (by decide +kernel)
theorem mF_X6_31 : Cond.fieldLinkNest RX6 31 "LampNet$Net" "posts" "I" "LampNet" ∈ lw_tbl := List.mem_of_getElem? (i := 73) (by decide +kernel)
theorem mF_X3_48 : Cond.fieldLinkNest RX3 48 "LampNet$Net" "posts" "I" "LampNet" ∈ lw_tbl := List.mem_of_getElem? (i := 74) (by decide +kernel)
theorem mF_X2_25 : Cond.fieldLinkNest RX2 25 "LampNet$Net" "posts" "I" "LampNet" ∈ lw_tbl := List.mem_of_getElem? (i := 75) (by decide +kernel)
theorem mF_X0_35 : Cond.fieldLinkNest RX0 35 "LampNet$Net" "posts" "I" "LampNet" ∈ lw_tbl := List.mem_of_getElem? (i := 76) (by decide +kernel)
theorem mF_X8_43 : Cond.fieldLinkNest RX8 43 "LampNet$Net" "posts" "I" "LampNet" ∈ lw_tbl := List.mem_of_getElem? (i := 77) (by decide +kernel)
theorem mF_X7_45 : Cond.fieldLinkNest RX7 45 "LampNet$Net" "posts" "I" "LampNet" ∈ lw_tbl := List.mem_of_getElem? (i := 78) (by decide +kernel)
theorem mF_X5_32 : Cond.fieldLinkNest RX5 32 "LampNet$Net" "posts" "I" "LampNet" ∈ lw_tbl := List.mem_of_getElem? (i := 79) (by decide +kernel)
theorem mF_X1_52 : Cond.fieldLinkNest RX1 52 "LampNet$Net" "posts" "I" "LampNet" ∈ lw_tbl := List.mem_of_getElem? (i := 80) (by decide +kernel)
theorem mF_X4_9 : Cond.fieldLink RX4 9 "LampNet$Net" "roadsVersion" "I" ∈ lw_tbl := List.mem_of_getElem? (i := 81) (by decide +kernel)
theorem mF_X8_23 : Cond.fieldLinkNest RX8 23 "LampNet$Net" "roadsVersion" "I" "LampNet" ∈ lw_tbl := List.mem_of_getElem? (i := 82) (by decide +kernel)
theorem mF_X0_46 : Cond.fieldLinkNest RX0 46 "LampNet$Net" "roadsVersion" "I" "LampNet" ∈ lw_tbl := List.mem_of_getElem? (i := 83) (by decide +kernel)
theorem mF_X4_40 : Cond.fieldLink RX4 40 "LampNet$Net" "barsVersion" "I" ∈ lw_tbl := List.mem_of_getElem? (i := 84) (by decide +kernel)
theorem mF_X4_15 : Cond.fieldLink RX4 15 "LampNet$Net" "bars" "[I" ∈ lw_tbl := List.mem_of_getElem? (i := 85) (by decide +kernel)
theorem mF_X6_45 : Cond.fieldLinkNest RX6 45 "LampNet$Net" "bars" "[I" "LampNet" ∈ lw_tbl := List.mem_of_getElem? (i := 86) (by decide +kernel)
theorem mF_X9_99 : Cond.fieldLinkNest RX9 99 "LampNet$Net" "bars" "[I" "LampNet" ∈ lw_tbl := List.mem_of_getElem? (i := 87) (by decide +kernel)
theorem mF_X4_19 : Cond.fieldLink RX4 19 "LampNet$Net" "prices" "[I" ∈ lw_tbl := List.mem_of_getElem? (i := 88) (by decide +kernel)
theorem mF_X9_103 : Cond.fieldLinkNest RX9 103 "LampNet$Net" "prices" "[I" "LampNet" ∈ lw_tbl := List.mem_of_getElem? (i := 89) (by decide +kernel)
theorem mF_X4_24 : Cond.fieldLink RX4 24 "LampNet$Net" "weights" "[[I" ∈ lw_tbl := List.mem_of_getElem? (i := 90) (by decide +kernel)
theorem mF_X4_27 : Cond.fieldLink RX4 27 "LampNet$Net" "behind" "[I" ∈ lw_tbl := List.mem_of_getElem? (i := 91) (by decide +kernel)
theorem mF_X6_48 : Cond.fieldLinkNest RX6 48 "LampNet$Net" "behind" "[I" "LampNet" ∈ lw_tbl := List.mem_of_getElem? (i := 92) (by decide +kernel)
theorem mF_X1_55 : Cond.fieldLinkNest RX1 55 "LampNet$Net" "behind" "[I" "LampNet" ∈ lw_tbl := List.mem_of_getElem? (i := 93) (by decide +kernel)
theorem mF_X9_106 : Cond.fieldLinkNest RX9 106 "LampNet$Net" "behind" "[I" "LampNet" ∈ lw_tbl := List.mem_of_getElem? (i := 94) (by decide +kernel)
theorem mF_X4_30 : Cond.fieldLink RX4 30 "LampNet$Net" "ahead" "[I" ∈ lw_tbl := List.mem_of_getElem? (i := 95) (by decide +kernel)
theorem mF_X1_46 : Cond.fieldLinkNest RX1 46 "LampNet$Net" "ahead" "[I" "LampNet" ∈ lw_tbl := List.mem_of_getElem? (i := 96) (by decide +kernel)
theorem mF_X8_65 : Cond.fieldLinkNest RX8 65 "LampNet$Net" "ahead" "[I" "LampNet" ∈ lw_tbl := List.mem_of_getElem? (i := 97) (by decide +kernel)
theorem mF_X9_109 : Cond.fieldLinkNest RX9 109 "LampNet$Net" "ahead" "[I" "LampNet" ∈ lw_tbl := List.mem_of_getElem? (i := 98) (by decide +kernel)
theorem mA_int : Cond.arrayClass .int ∈ lw_tbl := List.mem_of_getElem? (i := 116) (by decide +kernel)
theorem mL_X9_16 : Cond.classLink RX9 16 RX6 ∈ lw_tbl := List.mem_of_getElem? (i := 117) (by decide +kernel)
theorem mN_X6 : Cond.instantiable RX6 3 ∈ lw_tbl := List.mem_of_getElem? (i := 118) (by decide +kernel)
theorem mM_X9_18 : Cond.methodLink RX9 18 yX6_init ∈ lw_tbl := List.mem_of_getElem? (i := 119) (by decide +kernel)
theorem mV_X6_init : Cond.instanceMethod yX6_init ∈ lw_tbl := List.mem_of_getElem? (i := 120) (by decide +kernel)
theorem mC_X6_init : Cond.code yX6_init cX6_init 2 none ∈ lw_tbl := List.mem_of_getElem? (i := 121) (by decide +kernel)
theorem mM_X6_3 : Cond.methodLink RX6 3 Lib.objectInit ∈ lw_tbl := List.mem_of_getElem? (i := 122) (by decide +kernel)
theorem mL_X6_9 : Cond.classLink RX6 9 "[[I" ∈ lw_tbl := List.mem_of_getElem? (i := 123) (by decide +kernel)
theorem mF_X6_20 : Cond.fieldLink RX6 20 "LampNet$Spread" "net" "LLampNet$Net;" ∈ lw_tbl := List.mem_of_getElem? (i := 124) (by decide +kernel)
theorem mF_X6_11 : Cond.fieldLink RX6 11 "LampNet$Spread" "ends" "[[I" ∈ lw_tbl := List.mem_of_getElem? (i := 125) (by decide +kernel)
theorem mF_X6_16 : Cond.fieldLink RX6 16 "LampNet$Spread" "endsVersion" "[I" ∈ lw_tbl := List.mem_of_getElem? (i := 126) (by decide +kernel)
theorem mL_X9_25 : Cond.classLink RX9 25 RX1 ∈ lw_tbl := List.mem_of_getElem? (i := 134) (by decide +kernel)
theorem mN_X1 : Cond.instantiable RX1 4 ∈ lw_tbl := List.mem_of_getElem? (i := 135) (by decide +kernel)
theorem mM_X9_27 : Cond.methodLink RX9 27 yX1_init ∈ lw_tbl := List.mem_of_getElem? (i := 136) (by decide +kernel)
theorem mV_X1_init : Cond.instanceMethod yX1_init ∈ lw_tbl := List.mem_of_getElem? (i := 137) (by decide +kernel)
theorem mC_X1_init : Cond.code yX1_init cX1_init 3 none ∈ lw_tbl := List.mem_of_getElem? (i := 138) (by decide +kernel)
theorem mM_X1_3 : Cond.methodLink RX1 3 Lib.objectInit ∈ lw_tbl := List.mem_of_getElem? (i := 139) (by decide +kernel)
theorem mF_X1_15 : Cond.fieldLink RX1 15 "LampNet$Course" "net" "LLampNet$Net;" ∈ lw_tbl := List.mem_of_getElem? (i := 140) (by decide +kernel)
theorem mF_X1_19 : Cond.fieldLink RX1 19 "LampNet$Course" "spread" "LLampNet$Spread;" ∈ lw_tbl := List.mem_of_getElem? (i := 141) (by decide +kernel)
theorem mF_X1_9 : Cond.fieldLink RX1 9 "LampNet$Course" "onAt" "[I" ∈ lw_tbl := List.mem_of_getElem? (i := 142) (by decide +kernel)
theorem mF_X1_23 : Cond.fieldLink RX1 23 "LampNet$Course" "end" "I" ∈ lw_tbl := List.mem_of_getElem? (i := 143) (by decide +kernel)
theorem mF_X9_125 : Cond.fieldLinkNest RX9 125 "LampNet$Course" "end" "I" "LampNet" ∈ lw_tbl := List.mem_of_getElem? (i := 144) (by decide +kernel)
theorem mL_X9_34 : Cond.classLink RX9 34 RX5 ∈ lw_tbl := List.mem_of_getElem? (i := 154) (by decide +kernel)
theorem mN_X5 : Cond.instantiable RX5 1 ∈ lw_tbl := List.mem_of_getElem? (i := 155) (by decide +kernel)
theorem mM_X9_36 : Cond.methodLink RX9 36 yX5_init ∈ lw_tbl := List.mem_of_getElem? (i := 156) (by decide +kernel)
theorem mV_X5_init : Cond.instanceMethod yX5_init ∈ lw_tbl := List.mem_of_getElem? (i := 157) (by decide +kernel)
theorem mC_X5_init : Cond.code yX5_init cX5_init 2 none ∈ lw_tbl := List.mem_of_getElem? (i := 158) (by decide +kernel)
theorem mM_X5_1 : Cond.methodLink RX5 1 Lib.objectInit ∈ lw_tbl := List.mem_of_getElem? (i := 159) (by decide +kernel)
theorem mF_X5_7 : Cond.fieldLink RX5 7 "LampNet$Seeds" "net" "LLampNet$Net;" ∈ lw_tbl := List.mem_of_getElem? (i := 160) (by decide +kernel)
theorem mL_X9_41 : Cond.classLink RX9 41 RX7 ∈ lw_tbl := List.mem_of_getElem? (i := 164) (by decide +kernel)
theorem mN_X7 : Cond.instantiable RX7 5 ∈ lw_tbl := List.mem_of_getElem? (i := 165) (by decide +kernel)
theorem mM_X9_43 : Cond.methodLink RX9 43 yX7_init ∈ lw_tbl := List.mem_of_getElem? (i := 166) (by decide +kernel)
theorem mV_X7_init : Cond.instanceMethod yX7_init ∈ lw_tbl := List.mem_of_getElem? (i := 167) (by decide +kernel)
theorem mC_X7_init : Cond.code yX7_init cX7_init 3 none ∈ lw_tbl := List.mem_of_getElem? (i := 168) (by decide +kernel)
theorem mM_X7_3 : Cond.methodLink RX7 3 Lib.objectInit ∈ lw_tbl := List.mem_of_getElem? (i := 169) (by decide +kernel)
theorem mF_X7_21 : Cond.fieldLink RX7 21 "LampNet$Strongholds" "net" "LLampNet$Net;" ∈ lw_tbl := List.mem_of_getElem? (i := 170) (by decide +kernel)
theorem mF_X7_25 : Cond.fieldLink RX7 25 "LampNet$Strongholds" "spread" "LLampNet$Spread;" ∈ lw_tbl := List.mem_of_getElem? (i := 171) (by decide +kernel)
theorem mF_X7_9 : Cond.fieldLink RX7 9 "LampNet$Strongholds" "most" "[I" ∈ lw_tbl := List.mem_of_getElem? (i := 172) (by decide +kernel)
theorem mF_X7_15 : Cond.fieldLink RX7 15 "LampNet$Strongholds" "mostOfAll" "[I" ∈ lw_tbl := List.mem_of_getElem? (i := 173) (by decide +kernel)
theorem mF_X7_18 : Cond.fieldLink RX7 18 "LampNet$Strongholds" "mostVersion" "[I" ∈ lw_tbl := List.mem_of_getElem? (i := 174) (by decide +kernel)
theorem mL_X9_48 : Cond.classLink RX9 48 RX0 ∈ lw_tbl := List.mem_of_getElem? (i := 186) (by decide +kernel)
theorem mN_X0 : Cond.instantiable RX0 3 ∈ lw_tbl := List.mem_of_getElem? (i := 187) (by decide +kernel)
theorem mM_X9_50 : Cond.methodLink RX9 50 yX0_init ∈ lw_tbl := List.mem_of_getElem? (i := 188) (by decide +kernel)
theorem mV_X0_init : Cond.instanceMethod yX0_init ∈ lw_tbl := List.mem_of_getElem? (i := 189) (by decide +kernel)
theorem mC_X0_init : Cond.code yX0_init cX0_init 2 none ∈ lw_tbl := List.mem_of_getElem? (i := 190) (by decide +kernel)
theorem mM_X0_3 : Cond.methodLink RX0 3 Lib.objectInit ∈ lw_tbl := List.mem_of_getElem? (i := 191) (by decide +kernel)
theorem mF_X0_15 : Cond.fieldLink RX0 15 "LampNet$Burning" "net" "LLampNet$Net;" ∈ lw_tbl := List.mem_of_getElem? (i := 192) (by decide +kernel)
theorem mF_X0_9 : Cond.fieldLink RX0 9 "LampNet$Burning" "ticksLeft" "[I" ∈ lw_tbl := List.mem_of_getElem? (i := 193) (by decide +kernel)
theorem mF_X0_43 : Cond.fieldLink RX0 43 "LampNet$Burning" "ticksVersion" "I" ∈ lw_tbl := List.mem_of_getElem? (i := 194) (by decide +kernel)
theorem mL_X9_55 : Cond.classLink RX9 55 RX2 ∈ lw_tbl := List.mem_of_getElem? (i := 202) (by decide +kernel)
theorem mN_X2 : Cond.instantiable RX2 1 ∈ lw_tbl := List.mem_of_getElem? (i := 203) (by decide +kernel)
theorem mM_X9_57 : Cond.methodLink RX9 57 yX2_init ∈ lw_tbl := List.mem_of_getElem? (i := 204) (by decide +kernel)
theorem mV_X2_init : Cond.instanceMethod yX2_init ∈ lw_tbl := List.mem_of_getElem? (i := 205) (by decide +kernel)
theorem mC_X2_init : Cond.code yX2_init cX2_init 2 none ∈ lw_tbl := List.mem_of_getElem? (i := 206) (by decide +kernel)
theorem mM_X2_3 : Cond.methodLink RX2 3 Lib.objectInit ∈ lw_tbl := List.mem_of_getElem? (i := 207) (by decide +kernel)
theorem mF_X2_9 : Cond.fieldLink RX2 9 "LampNet$Fire" "net" "LLampNet$Net;" ∈ lw_tbl := List.mem_of_getElem? (i := 208) (by decide +kernel)
theorem mL_X9_62 : Cond.classLink RX9 62 RX8 ∈ lw_tbl := List.mem_of_getElem? (i := 212) (by decide +kernel)
theorem mN_X8 : Cond.instantiable RX8 3 ∈ lw_tbl := List.mem_of_getElem? (i := 213) (by decide +kernel)
theorem mM_X9_64 : Cond.methodLink RX9 64 yX8_init ∈ lw_tbl := List.mem_of_getElem? (i := 214) (by decide +kernel)
theorem mV_X8_init : Cond.instanceMethod yX8_init ∈ lw_tbl := List.mem_of_getElem? (i := 215) (by decide +kernel)
theorem mC_X8_init : Cond.code yX8_init cX8_init 2 none ∈ lw_tbl := List.mem_of_getElem? (i := 216) (by decide +kernel)
theorem mM_X8_3 : Cond.methodLink RX8 3 Lib.objectInit ∈ lw_tbl := List.mem_of_getElem? (i := 217) (by decide +kernel)
theorem mF_X8_15 : Cond.fieldLink RX8 15 "LampNet$Watch" "net" "LLampNet$Net;" ∈ lw_tbl := List.mem_of_getElem? (i := 218) (by decide +kernel)
theorem mF_X8_9 : Cond.fieldLink RX8 9 "LampNet$Watch" "holding" "[Z" ∈ lw_tbl := List.mem_of_getElem? (i := 219) (by decide +kernel)
theorem mF_X8_19 : Cond.fieldLink RX8 19 "LampNet$Watch" "holdingVersion" "I" ∈ lw_tbl := List.mem_of_getElem? (i := 220) (by decide +kernel)
theorem mA_boolean : Cond.arrayClass .boolean ∈ lw_tbl := List.mem_of_getElem? (i := 228) (by decide +kernel)
theorem mL_X9_69 : Cond.classLink RX9 69 RX3 ∈ lw_tbl := List.mem_of_getElem? (i := 229) (by decide +kernel)
theorem mN_X3 : Cond.instantiable RX3 4 ∈ lw_tbl := List.mem_of_getElem? (i := 230) (by decide +kernel)
theorem mM_X9_71 : Cond.methodLink RX9 71 yX3_init ∈ lw_tbl := List.mem_of_getElem? (i := 231) (by decide +kernel)
theorem mV_X3_init : Cond.instanceMethod yX3_init ∈ lw_tbl := List.mem_of_getElem? (i := 232) (by decide +kernel)
theorem mC_X3_init : Cond.code yX3_init cX3_init 3 none ∈ lw_tbl := List.mem_of_getElem? (i := 233) (by decide +kernel)
theorem mM_X3_3 : Cond.methodLink RX3 3 Lib.objectInit ∈ lw_tbl := List.mem_of_getElem? (i := 234) (by decide +kernel)
theorem mL_X3_9 : Cond.classLink RX3 9 "[[B" ∈ lw_tbl := List.mem_of_getElem? (i := 235) (by decide +kernel)
theorem mO_array_byte : Cond.arrayOver (.array .byte) ∈ lw_tbl := List.mem_of_getElem? (i := 236) (by decide +kernel)
theorem mF_X3_20 : Cond.fieldLink RX3 20 "LampNet$Game" "net" "LLampNet$Net;" ∈ lw_tbl := List.mem_of_getElem? (i := 237) (by decide +kernel)
theorem mF_X3_24 : Cond.fieldLink RX3 24 "LampNet$Game" "spread" "LLampNet$Spread;" ∈ lw_tbl := List.mem_of_getElem? (i := 238) (by decide +kernel)
theorem mF_X3_11 : Cond.fieldLink RX3 11 "LampNet$Game" "wins" "[[B" ∈ lw_tbl := List.mem_of_getElem? (i := 239) (by decide +kernel)
theorem mF_X3_16 : Cond.fieldLink RX3 16 "LampNet$Game" "winsVersion" "[I" ∈ lw_tbl := List.mem_of_getElem? (i := 240) (by decide +kernel)
theorem mA_byte : Cond.arrayClass .byte ∈ lw_tbl := List.mem_of_getElem? (i := 250) (by decide +kernel)
theorem mF_X9_12 : Cond.fieldLink RX9 12 "LampNet" "net" "LLampNet$Net;" ∈ lw_tbl := List.mem_of_getElem? (i := 251) (by decide +kernel)
theorem mF_X9_21 : Cond.fieldLink RX9 21 "LampNet" "spread" "LLampNet$Spread;" ∈ lw_tbl := List.mem_of_getElem? (i := 252) (by decide +kernel)
theorem mF_X9_30 : Cond.fieldLink RX9 30 "LampNet" "course" "LLampNet$Course;" ∈ lw_tbl := List.mem_of_getElem? (i := 253) (by decide +kernel)
theorem mF_X9_37 : Cond.fieldLink RX9 37 "LampNet" "seeds" "LLampNet$Seeds;" ∈ lw_tbl := List.mem_of_getElem? (i := 254) (by decide +kernel)
theorem mF_X9_44 : Cond.fieldLink RX9 44 "LampNet" "strongholds" "LLampNet$Strongholds;" ∈ lw_tbl := List.mem_of_getElem? (i := 255) (by decide +kernel)
theorem mF_X9_51 : Cond.fieldLink RX9 51 "LampNet" "burning" "LLampNet$Burning;" ∈ lw_tbl := List.mem_of_getElem? (i := 256) (by decide +kernel)
theorem mF_X9_58 : Cond.fieldLink RX9 58 "LampNet" "fires" "LLampNet$Fire;" ∈ lw_tbl := List.mem_of_getElem? (i := 257) (by decide +kernel)
theorem mF_X9_65 : Cond.fieldLink RX9 65 "LampNet" "watch" "LLampNet$Watch;" ∈ lw_tbl := List.mem_of_getElem? (i := 258) (by decide +kernel)
theorem mF_X9_72 : Cond.fieldLink RX9 72 "LampNet" "game" "LLampNet$Game;" ∈ lw_tbl := List.mem_of_getElem? (i := 259) (by decide +kernel)
theorem mM_L_13 : Cond.methodLink RL 13 yX9_post ∈ lw_tbl := List.mem_of_getElem? (i := 279) (by decide +kernel)
theorem mV_X9_post : Cond.instanceMethod yX9_post ∈ lw_tbl := List.mem_of_getElem? (i := 280) (by decide +kernel)
theorem mE_X9_post : Cond.selects RX9 yX9_post yX9_post ∈ lw_tbl := List.mem_of_getElem? (i := 281) (by decide +kernel)
theorem mC_X9_post : Cond.code yX9_post cX9_post 1 (some .int) ∈ lw_tbl := List.mem_of_getElem? (i := 282) (by decide +kernel)
theorem mM_X9_80 : Cond.methodLink RX9 80 yX4_addPost ∈ lw_tbl := List.mem_of_getElem? (i := 283) (by decide +kernel)
theorem mV_X4_addPost : Cond.instanceMethod yX4_addPost ∈ lw_tbl := List.mem_of_getElem? (i := 284) (by decide +kernel)
theorem mE_X4_addPost : Cond.selects RX4 yX4_addPost yX4_addPost ∈ lw_tbl := List.mem_of_getElem? (i := 285) (by decide +kernel)
theorem mC_X4_addPost : Cond.code yX4_addPost cX4_addPost 2 (some .int) ∈ lw_tbl := List.mem_of_getElem? (i := 286) (by decide +kernel)
theorem mM_L_18 : Cond.methodLink RL 18 yX9_road ∈ lw_tbl := List.mem_of_getElem? (i := 287) (by decide +kernel)
theorem mV_X9_road : Cond.instanceMethod yX9_road ∈ lw_tbl := List.mem_of_getElem? (i := 288) (by decide +kernel)
theorem mE_X9_road : Cond.selects RX9 yX9_road yX9_road ∈ lw_tbl := List.mem_of_getElem? (i := 289) (by decide +kernel)
theorem mC_X9_road : Cond.code yX9_road cX9_road 4 (some .int) ∈ lw_tbl := List.mem_of_getElem? (i := 290) (by decide +kernel)
theorem mM_X9_84 : Cond.methodLink RX9 84 yX4_isPost ∈ lw_tbl := List.mem_of_getElem? (i := 291) (by decide +kernel)
theorem mV_X4_isPost : Cond.instanceMethod yX4_isPost ∈ lw_tbl := List.mem_of_getElem? (i := 292) (by decide +kernel)
theorem mE_X4_isPost : Cond.selects RX4 yX4_isPost yX4_isPost ∈ lw_tbl := List.mem_of_getElem? (i := 293) (by decide +kernel)
theorem mC_X4_isPost : Cond.code yX4_isPost cX4_isPost 2 (some .boolean) ∈ lw_tbl := List.mem_of_getElem? (i := 294) (by decide +kernel)
theorem mM_X9_88 : Cond.methodLink RX9 88 yX4_setWeight ∈ lw_tbl := List.mem_of_getElem? (i := 295) (by decide +kernel)
theorem mV_X4_setWeight : Cond.instanceMethod yX4_setWeight ∈ lw_tbl := List.mem_of_getElem? (i := 296) (by decide +kernel)
theorem mE_X4_setWeight : Cond.selects RX4 yX4_setWeight yX4_setWeight ∈ lw_tbl := List.mem_of_getElem? (i := 297) (by decide +kernel)
theorem mC_X4_setWeight : Cond.code yX4_setWeight cX4_setWeight 5 (some .int) ∈ lw_tbl := List.mem_of_getElem? (i := 298) (by decide +kernel)
theorem mM_L_23 : Cond.methodLink RL 23 yX9_bar ∈ lw_tbl := List.mem_of_getElem? (i := 299) (by decide +kernel)
theorem mV_X9_bar : Cond.instanceMethod yX9_bar ∈ lw_tbl := List.mem_of_getElem? (i := 300) (by decide +kernel)
theorem mE_X9_bar : Cond.selects RX9 yX9_bar yX9_bar ∈ lw_tbl := List.mem_of_getElem? (i := 301) (by decide +kernel)
theorem mC_X9_bar : Cond.code yX9_bar cX9_bar 3 (some .int) ∈ lw_tbl := List.mem_of_getElem? (i := 302) (by decide +kernel)
theorem mM_X9_92 : Cond.methodLink RX9 92 yX4_setBar ∈ lw_tbl := List.mem_of_getElem? (i := 303) (by decide +kernel)
theorem mV_X4_setBar : Cond.instanceMethod yX4_setBar ∈ lw_tbl := List.mem_of_getElem? (i := 304) (by decide +kernel)
theorem mE_X4_setBar : Cond.selects RX4 yX4_setBar yX4_setBar ∈ lw_tbl := List.mem_of_getElem? (i := 305) (by decide +kernel)
theorem mC_X4_setBar : Cond.code yX4_setBar cX4_setBar 4 (some .int) ∈ lw_tbl := List.mem_of_getElem? (i := 306) (by decide +kernel)
theorem mM_L_28 : Cond.methodLink RL 28 yX9_price ∈ lw_tbl := List.mem_of_getElem? (i := 307) (by decide +kernel)
theorem mV_X9_price : Cond.instanceMethod yX9_price ∈ lw_tbl := List.mem_of_getElem? (i := 308) (by decide +kernel)
theorem mE_X9_price : Cond.selects RX9 yX9_price yX9_price ∈ lw_tbl := List.mem_of_getElem? (i := 309) (by decide +kernel)
theorem mC_X9_price : Cond.code yX9_price cX9_price 3 (some .int) ∈ lw_tbl := List.mem_of_getElem? (i := 310) (by decide +kernel)
theorem mM_X9_96 : Cond.methodLink RX9 96 yX4_setPrice ∈ lw_tbl := List.mem_of_getElem? (i := 311) (by decide +kernel)
theorem mV_X4_setPrice : Cond.instanceMethod yX4_setPrice ∈ lw_tbl := List.mem_of_getElem? (i := 312) (by decide +kernel)
theorem mE_X4_setPrice : Cond.selects RX4 yX4_setPrice yX4_setPrice ∈ lw_tbl := List.mem_of_getElem? (i := 313) (by decide +kernel)
theorem mC_X4_setPrice : Cond.code yX4_setPrice cX4_setPrice 4 (some .int) ∈ lw_tbl := List.mem_of_getElem? (i := 314) (by decide +kernel)
theorem mM_L_32 : Cond.methodLink RL 32 yX9_of ∈ lw_tbl := List.mem_of_getElem? (i := 315) (by decide +kernel)
theorem mV_X9_of : Cond.instanceMethod yX9_of ∈ lw_tbl := List.mem_of_getElem? (i := 316) (by decide +kernel)
theorem mE_X9_of : Cond.selects RX9 yX9_of yX9_of ∈ lw_tbl := List.mem_of_getElem? (i := 317) (by decide +kernel)
theorem mC_X9_of : Cond.code yX9_of cX9_of 3 (some .int) ∈ lw_tbl := List.mem_of_getElem? (i := 318) (by decide +kernel)
theorem mM_L_36 : Cond.methodLink RL 36 yX9_go ∈ lw_tbl := List.mem_of_getElem? (i := 319) (by decide +kernel)
theorem mV_X9_go : Cond.instanceMethod yX9_go ∈ lw_tbl := List.mem_of_getElem? (i := 320) (by decide +kernel)
theorem mE_X9_go : Cond.selects RX9 yX9_go yX9_go ∈ lw_tbl := List.mem_of_getElem? (i := 321) (by decide +kernel)
theorem mC_X9_go : Cond.code yX9_go cX9_go 3 (some .int) ∈ lw_tbl := List.mem_of_getElem? (i := 322) (by decide +kernel)
theorem mM_X9_112 : Cond.methodLink RX9 112 yX9_isRule ∈ lw_tbl := List.mem_of_getElem? (i := 323) (by decide +kernel)
theorem mS_X9_isRule : Cond.static yX9_isRule ∈ lw_tbl := List.mem_of_getElem? (i := 324) (by decide +kernel)
theorem mC_X9_isRule : Cond.code yX9_isRule cX9_isRule 1 (some .boolean) ∈ lw_tbl := List.mem_of_getElem? (i := 325) (by decide +kernel)
theorem mM_X9_115 : Cond.methodLink RX9 115 yX4_isSet ∈ lw_tbl := List.mem_of_getElem? (i := 326) (by decide +kernel)
theorem mV_X4_isSet : Cond.instanceMethod yX4_isSet ∈ lw_tbl := List.mem_of_getElem? (i := 327) (by decide +kernel)
theorem mE_X4_isSet : Cond.selects RX4 yX4_isSet yX4_isSet ∈ lw_tbl := List.mem_of_getElem? (i := 328) (by decide +kernel)
theorem mC_X4_isSet : Cond.code yX4_isSet cX4_isSet 2 (some .boolean) ∈ lw_tbl := List.mem_of_getElem? (i := 329) (by decide +kernel)
theorem mM_X4_36 : Cond.methodLink RX4 36 yX4_allPosts ∈ lw_tbl := List.mem_of_getElem? (i := 330) (by decide +kernel)
theorem mV_X4_allPosts : Cond.instanceMethod yX4_allPosts ∈ lw_tbl := List.mem_of_getElem? (i := 331) (by decide +kernel)
theorem mE_X4_allPosts : Cond.selects RX4 yX4_allPosts yX4_allPosts ∈ lw_tbl := List.mem_of_getElem? (i := 332) (by decide +kernel)
theorem mC_X4_allPosts : Cond.code yX4_allPosts cX4_allPosts 1 (some .int) ∈ lw_tbl := List.mem_of_getElem? (i := 333) (by decide +kernel)
theorem mM_X9_118 : Cond.methodLink RX9 118 yX1_follow ∈ lw_tbl := List.mem_of_getElem? (i := 334) (by decide +kernel)
theorem mV_X1_follow : Cond.instanceMethod yX1_follow ∈ lw_tbl := List.mem_of_getElem? (i := 335) (by decide +kernel)
theorem mE_X1_follow : Cond.selects RX1 yX1_follow yX1_follow ∈ lw_tbl := List.mem_of_getElem? (i := 336) (by decide +kernel)
theorem mC_X1_follow : Cond.code yX1_follow cX1_follow 6 none ∈ lw_tbl := List.mem_of_getElem? (i := 337) (by decide +kernel)
theorem mM_X1_27 : Cond.methodLink RX1 27 yX4_withBehind ∈ lw_tbl := List.mem_of_getElem? (i := 338) (by decide +kernel)
theorem mV_X4_withBehind : Cond.instanceMethod yX4_withBehind ∈ lw_tbl := List.mem_of_getElem? (i := 339) (by decide +kernel)
theorem mE_X4_withBehind : Cond.selects RX4 yX4_withBehind yX4_withBehind ∈ lw_tbl := List.mem_of_getElem? (i := 340) (by decide +kernel)
theorem mC_X4_withBehind : Cond.code yX4_withBehind cX4_withBehind 4 (some .int) ∈ lw_tbl := List.mem_of_getElem? (i := 341) (by decide +kernel)
theorem mM_X4_43 : Cond.methodLinkNest RX4 43 yX9_hasPost "LampNet" ∈ lw_tbl := List.mem_of_getElem? (i := 342) (by decide +kernel)
theorem mS_X9_hasPost : Cond.static yX9_hasPost ∈ lw_tbl := List.mem_of_getElem? (i := 343) (by decide +kernel)
theorem mC_X9_hasPost : Cond.code yX9_hasPost cX9_hasPost 2 (some .boolean) ∈ lw_tbl := List.mem_of_getElem? (i := 344) (by decide +kernel)
theorem mM_X1_33 : Cond.methodLink RX1 33 yX6_afterTick ∈ lw_tbl := List.mem_of_getElem? (i := 345) (by decide +kernel)
theorem mV_X6_afterTick : Cond.instanceMethod yX6_afterTick ∈ lw_tbl := List.mem_of_getElem? (i := 346) (by decide +kernel)
theorem mE_X6_afterTick : Cond.selects RX6 yX6_afterTick yX6_afterTick ∈ lw_tbl := List.mem_of_getElem? (i := 347) (by decide +kernel)
theorem mC_X6_afterTick : Cond.code yX6_afterTick cX6_afterTick 3 (some .int) ∈ lw_tbl := List.mem_of_getElem? (i := 348) (by decide +kernel)
theorem mM_X6_24 : Cond.methodLink RX6 24 yX6_afterTickOfBars ∈ lw_tbl := List.mem_of_getElem? (i := 349) (by decide +kernel)
theorem mV_X6_afterTickOfBars : Cond.instanceMethod yX6_afterTickOfBars ∈ lw_tbl := List.mem_of_getElem? (i := 351) (by decide +kernel)
theorem mC_X6_afterTickOfBars : Cond.code yX6_afterTickOfBars cX6_afterTickOfBars 4 (some .int) ∈ lw_tbl := List.mem_of_getElem? (i := 352) (by decide +kernel)
theorem mM_X6_37 : Cond.methodLinkNest RX6 37 yX9_hasPost "LampNet" ∈ lw_tbl := List.mem_of_getElem? (i := 353) (by decide +kernel)
theorem mM_X6_41 : Cond.methodLink RX6 41 yX4_weightOnto ∈ lw_tbl := List.mem_of_getElem? (i := 354) (by decide +kernel)
theorem mV_X4_weightOnto : Cond.instanceMethod yX4_weightOnto ∈ lw_tbl := List.mem_of_getElem? (i := 355) (by decide +kernel)
theorem mE_X4_weightOnto : Cond.selects RX4 yX4_weightOnto yX4_weightOnto ∈ lw_tbl := List.mem_of_getElem? (i := 356) (by decide +kernel)
theorem mC_X4_weightOnto : Cond.code yX4_weightOnto cX4_weightOnto 6 (some .int) ∈ lw_tbl := List.mem_of_getElem? (i := 357) (by decide +kernel)
theorem mM_X6_28 : Cond.methodLink RX6 28 yX6_afterTickOfForced ∈ lw_tbl := List.mem_of_getElem? (i := 358) (by decide +kernel)
theorem mV_X6_afterTickOfForced : Cond.instanceMethod yX6_afterTickOfForced ∈ lw_tbl := List.mem_of_getElem? (i := 360) (by decide +kernel)
theorem mC_X6_afterTickOfForced : Cond.code yX6_afterTickOfForced cX6_afterTickOfForced 6 (some .int) ∈ lw_tbl := List.mem_of_getElem? (i := 361) (by decide +kernel)
theorem mM_X9_122 : Cond.methodLink RX9 122 yX1_onAtEnd ∈ lw_tbl := List.mem_of_getElem? (i := 362) (by decide +kernel)
theorem mV_X1_onAtEnd : Cond.instanceMethod yX1_onAtEnd ∈ lw_tbl := List.mem_of_getElem? (i := 363) (by decide +kernel)
theorem mE_X1_onAtEnd : Cond.selects RX1 yX1_onAtEnd yX1_onAtEnd ∈ lw_tbl := List.mem_of_getElem? (i := 364) (by decide +kernel)
theorem mC_X1_onAtEnd : Cond.code yX1_onAtEnd cX1_onAtEnd 1 (some .int) ∈ lw_tbl := List.mem_of_getElem? (i := 365) (by decide +kernel)
theorem mM_L_40 : Cond.methodLink RL 40 yX9_ticks ∈ lw_tbl := List.mem_of_getElem? (i := 366) (by decide +kernel)
theorem mV_X9_ticks : Cond.instanceMethod yX9_ticks ∈ lw_tbl := List.mem_of_getElem? (i := 367) (by decide +kernel)
theorem mE_X9_ticks : Cond.selects RX9 yX9_ticks yX9_ticks ∈ lw_tbl := List.mem_of_getElem? (i := 368) (by decide +kernel)
theorem mC_X9_ticks : Cond.code yX9_ticks cX9_ticks 3 (some .int) ∈ lw_tbl := List.mem_of_getElem? (i := 369) (by decide +kernel)
theorem mM_L_44 : Cond.methodLink RL 44 yX9_when ∈ lw_tbl := List.mem_of_getElem? (i := 370) (by decide +kernel)
theorem mV_X9_when : Cond.instanceMethod yX9_when ∈ lw_tbl := List.mem_of_getElem? (i := 371) (by decide +kernel)
theorem mE_X9_when : Cond.selects RX9 yX9_when yX9_when ∈ lw_tbl := List.mem_of_getElem? (i := 372) (by decide +kernel)
theorem mC_X9_when : Cond.code yX9_when cX9_when 4 (some .int) ∈ lw_tbl := List.mem_of_getElem? (i := 373) (by decide +kernel)
theorem mM_X9_128 : Cond.methodLink RX9 128 yX1_tickOf ∈ lw_tbl := List.mem_of_getElem? (i := 374) (by decide +kernel)
theorem mV_X1_tickOf : Cond.instanceMethod yX1_tickOf ∈ lw_tbl := List.mem_of_getElem? (i := 375) (by decide +kernel)
theorem mE_X1_tickOf : Cond.selects RX1 yX1_tickOf yX1_tickOf ∈ lw_tbl := List.mem_of_getElem? (i := 376) (by decide +kernel)
theorem mC_X1_tickOf : Cond.code yX1_tickOf cX1_tickOf 3 (some .int) ∈ lw_tbl := List.mem_of_getElem? (i := 377) (by decide +kernel)
theorem mM_X1_39 : Cond.methodLinkNest RX1 39 yX9_hasPost "LampNet" ∈ lw_tbl := List.mem_of_getElem? (i := 378) (by decide +kernel)
theorem mM_L_48 : Cond.methodLink RL 48 yX9_brought ∈ lw_tbl := List.mem_of_getElem? (i := 379) (by decide +kernel)
theorem mV_X9_brought : Cond.instanceMethod yX9_brought ∈ lw_tbl := List.mem_of_getElem? (i := 380) (by decide +kernel)
theorem mE_X9_brought : Cond.selects RX9 yX9_brought yX9_brought ∈ lw_tbl := List.mem_of_getElem? (i := 381) (by decide +kernel)
theorem mC_X9_brought : Cond.code yX9_brought cX9_brought 4 (some .int) ∈ lw_tbl := List.mem_of_getElem? (i := 382) (by decide +kernel)
theorem mM_X9_132 : Cond.methodLink RX9 132 yX1_bringersOf ∈ lw_tbl := List.mem_of_getElem? (i := 383) (by decide +kernel)
theorem mV_X1_bringersOf : Cond.instanceMethod yX1_bringersOf ∈ lw_tbl := List.mem_of_getElem? (i := 384) (by decide +kernel)
theorem mE_X1_bringersOf : Cond.selects RX1 yX1_bringersOf yX1_bringersOf ∈ lw_tbl := List.mem_of_getElem? (i := 385) (by decide +kernel)
theorem mC_X1_bringersOf : Cond.code yX1_bringersOf cX1_bringersOf 6 (some .int) ∈ lw_tbl := List.mem_of_getElem? (i := 386) (by decide +kernel)
theorem mM_X1_43 : Cond.methodLink RX1 43 yX1_tickOf ∈ lw_tbl := List.mem_of_getElem? (i := 387) (by decide +kernel)
theorem mM_X1_49 : Cond.methodLink RX1 49 yX1_leastForcing ∈ lw_tbl := List.mem_of_getElem? (i := 388) (by decide +kernel)
theorem mV_X1_leastForcing : Cond.instanceMethod yX1_leastForcing ∈ lw_tbl := List.mem_of_getElem? (i := 390) (by decide +kernel)
theorem mC_X1_leastForcing : Cond.code yX1_leastForcing cX1_leastForcing 4 (some .int) ∈ lw_tbl := List.mem_of_getElem? (i := 391) (by decide +kernel)
theorem mM_L_52 : Cond.methodLink RL 52 yX9_fort ∈ lw_tbl := List.mem_of_getElem? (i := 392) (by decide +kernel)
theorem mV_X9_fort : Cond.instanceMethod yX9_fort ∈ lw_tbl := List.mem_of_getElem? (i := 393) (by decide +kernel)
theorem mE_X9_fort : Cond.selects RX9 yX9_fort yX9_fort ∈ lw_tbl := List.mem_of_getElem? (i := 394) (by decide +kernel)
theorem mC_X9_fort : Cond.code yX9_fort cX9_fort 3 (some .int) ∈ lw_tbl := List.mem_of_getElem? (i := 395) (by decide +kernel)
theorem mM_X9_135 : Cond.methodLink RX9 135 yX9_isPlainRule ∈ lw_tbl := List.mem_of_getElem? (i := 396) (by decide +kernel)
theorem mS_X9_isPlainRule : Cond.static yX9_isPlainRule ∈ lw_tbl := List.mem_of_getElem? (i := 397) (by decide +kernel)
theorem mC_X9_isPlainRule : Cond.code yX9_isPlainRule cX9_isPlainRule 1 (some .boolean) ∈ lw_tbl := List.mem_of_getElem? (i := 398) (by decide +kernel)
theorem mM_X9_138 : Cond.methodLink RX9 138 yX7_isFort ∈ lw_tbl := List.mem_of_getElem? (i := 399) (by decide +kernel)
theorem mV_X7_isFort : Cond.instanceMethod yX7_isFort ∈ lw_tbl := List.mem_of_getElem? (i := 400) (by decide +kernel)
theorem mE_X7_isFort : Cond.selects RX7 yX7_isFort yX7_isFort ∈ lw_tbl := List.mem_of_getElem? (i := 401) (by decide +kernel)
theorem mC_X7_isFort : Cond.code yX7_isFort cX7_isFort 3 (some .boolean) ∈ lw_tbl := List.mem_of_getElem? (i := 402) (by decide +kernel)
theorem mM_X7_29 : Cond.methodLink RX7 29 yX6_endsOf ∈ lw_tbl := List.mem_of_getElem? (i := 403) (by decide +kernel)
theorem mV_X6_endsOf : Cond.instanceMethod yX6_endsOf ∈ lw_tbl := List.mem_of_getElem? (i := 404) (by decide +kernel)
theorem mE_X6_endsOf : Cond.selects RX6 yX6_endsOf yX6_endsOf ∈ lw_tbl := List.mem_of_getElem? (i := 405) (by decide +kernel)
theorem mC_X6_endsOf : Cond.code yX6_endsOf cX6_endsOf 2 (some (.array .int)) ∈ lw_tbl := List.mem_of_getElem? (i := 406) (by decide +kernel)
theorem mM_X6_51 : Cond.methodLink RX6 51 yX4_versionOf ∈ lw_tbl := List.mem_of_getElem? (i := 407) (by decide +kernel)
theorem mV_X4_versionOf : Cond.instanceMethod yX4_versionOf ∈ lw_tbl := List.mem_of_getElem? (i := 408) (by decide +kernel)
theorem mE_X4_versionOf : Cond.selects RX4 yX4_versionOf yX4_versionOf ∈ lw_tbl := List.mem_of_getElem? (i := 409) (by decide +kernel)
theorem mC_X4_versionOf : Cond.code yX4_versionOf cX4_versionOf 2 (some .int) ∈ lw_tbl := List.mem_of_getElem? (i := 410) (by decide +kernel)
theorem mM_X6_54 : Cond.methodLink RX6 54 yX6_fillPlain ∈ lw_tbl := List.mem_of_getElem? (i := 411) (by decide +kernel)
theorem mV_X6_fillPlain : Cond.instanceMethod yX6_fillPlain ∈ lw_tbl := List.mem_of_getElem? (i := 413) (by decide +kernel)
theorem mC_X6_fillPlain : Cond.code yX6_fillPlain cX6_fillPlain 5 none ∈ lw_tbl := List.mem_of_getElem? (i := 414) (by decide +kernel)
theorem mM_X6_61 : Cond.methodLink RX6 61 yX4_allPosts ∈ lw_tbl := List.mem_of_getElem? (i := 415) (by decide +kernel)
theorem mM_X6_65 : Cond.methodLink RX6 65 yX6_afterTick ∈ lw_tbl := List.mem_of_getElem? (i := 416) (by decide +kernel)
theorem mM_X6_58 : Cond.methodLink RX6 58 yX6_fillSeen ∈ lw_tbl := List.mem_of_getElem? (i := 417) (by decide +kernel)
theorem mV_X6_fillSeen : Cond.instanceMethod yX6_fillSeen ∈ lw_tbl := List.mem_of_getElem? (i := 419) (by decide +kernel)
theorem mC_X6_fillSeen : Cond.code yX6_fillSeen cX6_fillSeen 3 none ∈ lw_tbl := List.mem_of_getElem? (i := 420) (by decide +kernel)
theorem mM_X6_68 : Cond.methodLink RX6 68 yX4_withBehind ∈ lw_tbl := List.mem_of_getElem? (i := 421) (by decide +kernel)
theorem mM_X7_35 : Cond.methodLink RX7 35 yX7_fortsWithin ∈ lw_tbl := List.mem_of_getElem? (i := 422) (by decide +kernel)
theorem mV_X7_fortsWithin : Cond.instanceMethod yX7_fortsWithin ∈ lw_tbl := List.mem_of_getElem? (i := 424) (by decide +kernel)
theorem mC_X7_fortsWithin : Cond.code yX7_fortsWithin cX7_fortsWithin 4 (some .int) ∈ lw_tbl := List.mem_of_getElem? (i := 425) (by decide +kernel)
theorem mM_X7_39 : Cond.methodLink RX7 39 yX4_allPosts ∈ lw_tbl := List.mem_of_getElem? (i := 426) (by decide +kernel)
theorem mM_L_56 : Cond.methodLink RL 56 yX9_forts ∈ lw_tbl := List.mem_of_getElem? (i := 427) (by decide +kernel)
theorem mV_X9_forts : Cond.instanceMethod yX9_forts ∈ lw_tbl := List.mem_of_getElem? (i := 428) (by decide +kernel)
theorem mE_X9_forts : Cond.selects RX9 yX9_forts yX9_forts ∈ lw_tbl := List.mem_of_getElem? (i := 429) (by decide +kernel)
theorem mC_X9_forts : Cond.code yX9_forts cX9_forts 3 (some .int) ∈ lw_tbl := List.mem_of_getElem? (i := 430) (by decide +kernel)
theorem mM_X9_142 : Cond.methodLink RX9 142 yX7_leastFort ∈ lw_tbl := List.mem_of_getElem? (i := 431) (by decide +kernel)
theorem mV_X7_leastFort : Cond.instanceMethod yX7_leastFort ∈ lw_tbl := List.mem_of_getElem? (i := 432) (by decide +kernel)
theorem mE_X7_leastFort : Cond.selects RX7 yX7_leastFort yX7_leastFort ∈ lw_tbl := List.mem_of_getElem? (i := 433) (by decide +kernel)
theorem mC_X7_leastFort : Cond.code yX7_leastFort cX7_leastFort 8 (some .int) ∈ lw_tbl := List.mem_of_getElem? (i := 434) (by decide +kernel)
theorem mM_X7_49 : Cond.methodLink RX7 49 yX7_isLeast ∈ lw_tbl := List.mem_of_getElem? (i := 435) (by decide +kernel)
theorem mV_X7_isLeast : Cond.instanceMethod yX7_isLeast ∈ lw_tbl := List.mem_of_getElem? (i := 437) (by decide +kernel)
theorem mC_X7_isLeast : Cond.code yX7_isLeast cX7_isLeast 4 (some .boolean) ∈ lw_tbl := List.mem_of_getElem? (i := 438) (by decide +kernel)
theorem mM_X7_59 : Cond.methodLinkNest RX7 59 yX9_hasPost "LampNet" ∈ lw_tbl := List.mem_of_getElem? (i := 439) (by decide +kernel)
theorem mM_X7_53 : Cond.methodLink RX7 53 yJ6_bitCount_0f7a4 ∈ lw_tbl := List.mem_of_getElem? (i := 440) (by decide +kernel)
theorem mS_J6_bitCount_0f7a4 : Cond.static yJ6_bitCount_0f7a4 ∈ lw_tbl := List.mem_of_getElem? (i := 441) (by decide +kernel)
theorem mC_J6_bitCount_0f7a4 : Cond.code yJ6_bitCount_0f7a4 cJ6_bitCount_0f7a4 1 (some .int) ∈ lw_tbl := List.mem_of_getElem? (i := 442) (by decide +kernel)
theorem mK_J6_265 : Cond.constant RJ6 265 (1431655765 : Int32) ∈ lw_tbl := List.mem_of_getElem? (i := 443) (by decide +kernel)
theorem mK_J6_266 : Cond.constant RJ6 266 (858993459 : Int32) ∈ lw_tbl := List.mem_of_getElem? (i := 444) (by decide +kernel)
theorem mK_J6_267 : Cond.constant RJ6 267 (252645135 : Int32) ∈ lw_tbl := List.mem_of_getElem? (i := 445) (by decide +kernel)
theorem mM_L_60 : Cond.methodLink RL 60 yX9_apart ∈ lw_tbl := List.mem_of_getElem? (i := 446) (by decide +kernel)
theorem mV_X9_apart : Cond.instanceMethod yX9_apart ∈ lw_tbl := List.mem_of_getElem? (i := 447) (by decide +kernel)
theorem mE_X9_apart : Cond.selects RX9 yX9_apart yX9_apart ∈ lw_tbl := List.mem_of_getElem? (i := 448) (by decide +kernel)
theorem mC_X9_apart : Cond.code yX9_apart cX9_apart 2 (some .int) ∈ lw_tbl := List.mem_of_getElem? (i := 449) (by decide +kernel)
theorem mM_X9_145 : Cond.methodLink RX9 145 yX7_mostApart ∈ lw_tbl := List.mem_of_getElem? (i := 450) (by decide +kernel)
theorem mV_X7_mostApart : Cond.instanceMethod yX7_mostApart ∈ lw_tbl := List.mem_of_getElem? (i := 451) (by decide +kernel)
theorem mE_X7_mostApart : Cond.selects RX7 yX7_mostApart yX7_mostApart ∈ lw_tbl := List.mem_of_getElem? (i := 452) (by decide +kernel)
theorem mC_X7_mostApart : Cond.code yX7_mostApart cX7_mostApart 5 (some .int) ∈ lw_tbl := List.mem_of_getElem? (i := 453) (by decide +kernel)
theorem mM_X7_63 : Cond.methodLink RX7 63 yX4_versionOf ∈ lw_tbl := List.mem_of_getElem? (i := 454) (by decide +kernel)
theorem mM_X7_66 : Cond.methodLink RX7 66 yX7_mostWithin ∈ lw_tbl := List.mem_of_getElem? (i := 455) (by decide +kernel)
theorem mV_X7_mostWithin : Cond.instanceMethod yX7_mostWithin ∈ lw_tbl := List.mem_of_getElem? (i := 457) (by decide +kernel)
theorem mC_X7_mostWithin : Cond.code yX7_mostWithin cX7_mostWithin 4 (some .int) ∈ lw_tbl := List.mem_of_getElem? (i := 458) (by decide +kernel)
theorem mM_X7_69 : Cond.methodLink RX7 69 yX7_mostByLowest ∈ lw_tbl := List.mem_of_getElem? (i := 459) (by decide +kernel)
theorem mV_X7_mostByLowest : Cond.instanceMethod yX7_mostByLowest ∈ lw_tbl := List.mem_of_getElem? (i := 461) (by decide +kernel)
theorem mC_X7_mostByLowest : Cond.code yX7_mostByLowest cX7_mostByLowest 8 (some .int) ∈ lw_tbl := List.mem_of_getElem? (i := 462) (by decide +kernel)
theorem mM_X7_72 : Cond.methodLink RX7 72 Lib.Math.max.name ∈ lw_tbl := List.mem_of_getElem? (i := 463) (by decide +kernel)
theorem mS_J9_max_7cf53 : Cond.static Lib.Math.max.name ∈ lw_tbl := List.mem_of_getElem? (i := 464) (by decide +kernel)
theorem mC_J9_max_7cf53 : Cond.code Lib.Math.max.name Lib.Math.max.code 2 (some .int) ∈ lw_tbl := List.mem_of_getElem? (i := 465) (by decide +kernel)
theorem mM_L_65 : Cond.methodLink RL 65 yX9_least ∈ lw_tbl := List.mem_of_getElem? (i := 466) (by decide +kernel)
theorem mV_X9_least : Cond.instanceMethod yX9_least ∈ lw_tbl := List.mem_of_getElem? (i := 467) (by decide +kernel)
theorem mE_X9_least : Cond.selects RX9 yX9_least yX9_least ∈ lw_tbl := List.mem_of_getElem? (i := 468) (by decide +kernel)
theorem mC_X9_least : Cond.code yX9_least cX9_least 2 (some .int) ∈ lw_tbl := List.mem_of_getElem? (i := 469) (by decide +kernel)
theorem mM_X9_148 : Cond.methodLink RX9 148 yX6_endsOf ∈ lw_tbl := List.mem_of_getElem? (i := 470) (by decide +kernel)
theorem mM_X9_152 : Cond.methodLink RX9 152 yX5_smallest ∈ lw_tbl := List.mem_of_getElem? (i := 471) (by decide +kernel)
theorem mV_X5_smallest : Cond.instanceMethod yX5_smallest ∈ lw_tbl := List.mem_of_getElem? (i := 472) (by decide +kernel)
theorem mE_X5_smallest : Cond.selects RX5 yX5_smallest yX5_smallest ∈ lw_tbl := List.mem_of_getElem? (i := 473) (by decide +kernel)
theorem mC_X5_smallest : Cond.code yX5_smallest cX5_smallest 5 (some .int) ∈ lw_tbl := List.mem_of_getElem? (i := 474) (by decide +kernel)
theorem mM_X5_13 : Cond.methodLink RX5 13 yX4_allPosts ∈ lw_tbl := List.mem_of_getElem? (i := 475) (by decide +kernel)
theorem mM_X5_19 : Cond.methodLink RX5 19 yJ6_bitCount_0f7a4 ∈ lw_tbl := List.mem_of_getElem? (i := 476) (by decide +kernel)
theorem mM_L_69 : Cond.methodLink RL 69 yX9_many ∈ lw_tbl := List.mem_of_getElem? (i := 477) (by decide +kernel)
theorem mV_X9_many : Cond.instanceMethod yX9_many ∈ lw_tbl := List.mem_of_getElem? (i := 478) (by decide +kernel)
theorem mE_X9_many : Cond.selects RX9 yX9_many yX9_many ∈ lw_tbl := List.mem_of_getElem? (i := 479) (by decide +kernel)
theorem mC_X9_many : Cond.code yX9_many cX9_many 2 (some .int) ∈ lw_tbl := List.mem_of_getElem? (i := 480) (by decide +kernel)
theorem mM_X9_156 : Cond.methodLink RX9 156 yX5_howManySmallest ∈ lw_tbl := List.mem_of_getElem? (i := 481) (by decide +kernel)
theorem mV_X5_howManySmallest : Cond.instanceMethod yX5_howManySmallest ∈ lw_tbl := List.mem_of_getElem? (i := 482) (by decide +kernel)
theorem mE_X5_howManySmallest : Cond.selects RX5 yX5_howManySmallest yX5_howManySmallest ∈ lw_tbl := List.mem_of_getElem? (i := 483) (by decide +kernel)
theorem mC_X5_howManySmallest : Cond.code yX5_howManySmallest cX5_howManySmallest 6 (some .int) ∈ lw_tbl := List.mem_of_getElem? (i := 484) (by decide +kernel)
theorem mM_X5_25 : Cond.methodLink RX5 25 yX5_smallest ∈ lw_tbl := List.mem_of_getElem? (i := 485) (by decide +kernel)
theorem mM_L_73 : Cond.methodLink RL 73 yX9_cheapest ∈ lw_tbl := List.mem_of_getElem? (i := 486) (by decide +kernel)
theorem mV_X9_cheapest : Cond.instanceMethod yX9_cheapest ∈ lw_tbl := List.mem_of_getElem? (i := 487) (by decide +kernel)
theorem mE_X9_cheapest : Cond.selects RX9 yX9_cheapest yX9_cheapest ∈ lw_tbl := List.mem_of_getElem? (i := 488) (by decide +kernel)
theorem mC_X9_cheapest : Cond.code yX9_cheapest cX9_cheapest 2 (some .int) ∈ lw_tbl := List.mem_of_getElem? (i := 489) (by decide +kernel)
theorem mM_X9_159 : Cond.methodLink RX9 159 yX5_leastPriced ∈ lw_tbl := List.mem_of_getElem? (i := 490) (by decide +kernel)
theorem mV_X5_leastPriced : Cond.instanceMethod yX5_leastPriced ∈ lw_tbl := List.mem_of_getElem? (i := 491) (by decide +kernel)
theorem mE_X5_leastPriced : Cond.selects RX5 yX5_leastPriced yX5_leastPriced ∈ lw_tbl := List.mem_of_getElem? (i := 492) (by decide +kernel)
theorem mC_X5_leastPriced : Cond.code yX5_leastPriced cX5_leastPriced 6 (some .int) ∈ lw_tbl := List.mem_of_getElem? (i := 493) (by decide +kernel)
theorem mM_X5_29 : Cond.methodLink RX5 29 yX4_priceOf ∈ lw_tbl := List.mem_of_getElem? (i := 494) (by decide +kernel)
theorem mV_X4_priceOf : Cond.instanceMethod yX4_priceOf ∈ lw_tbl := List.mem_of_getElem? (i := 495) (by decide +kernel)
theorem mE_X4_priceOf : Cond.selects RX4 yX4_priceOf yX4_priceOf ∈ lw_tbl := List.mem_of_getElem? (i := 496) (by decide +kernel)
theorem mC_X4_priceOf : Cond.code yX4_priceOf cX4_priceOf 4 (some .int) ∈ lw_tbl := List.mem_of_getElem? (i := 497) (by decide +kernel)
theorem mM_L_77 : Cond.methodLink RL 77 yX9_pared ∈ lw_tbl := List.mem_of_getElem? (i := 498) (by decide +kernel)
theorem mV_X9_pared : Cond.instanceMethod yX9_pared ∈ lw_tbl := List.mem_of_getElem? (i := 499) (by decide +kernel)
theorem mE_X9_pared : Cond.selects RX9 yX9_pared yX9_pared ∈ lw_tbl := List.mem_of_getElem? (i := 500) (by decide +kernel)
theorem mC_X9_pared : Cond.code yX9_pared cX9_pared 2 (some .int) ∈ lw_tbl := List.mem_of_getElem? (i := 501) (by decide +kernel)
theorem mM_X9_162 : Cond.methodLink RX9 162 yX5_paredDown ∈ lw_tbl := List.mem_of_getElem? (i := 502) (by decide +kernel)
theorem mV_X5_paredDown : Cond.instanceMethod yX5_paredDown ∈ lw_tbl := List.mem_of_getElem? (i := 503) (by decide +kernel)
theorem mE_X5_paredDown : Cond.selects RX5 yX5_paredDown yX5_paredDown ∈ lw_tbl := List.mem_of_getElem? (i := 504) (by decide +kernel)
theorem mC_X5_paredDown : Cond.code yX5_paredDown cX5_paredDown 6 (some .int) ∈ lw_tbl := List.mem_of_getElem? (i := 505) (by decide +kernel)
theorem mM_L_81 : Cond.methodLink RL 81 yX9_burn ∈ lw_tbl := List.mem_of_getElem? (i := 506) (by decide +kernel)
theorem mV_X9_burn : Cond.instanceMethod yX9_burn ∈ lw_tbl := List.mem_of_getElem? (i := 507) (by decide +kernel)
theorem mE_X9_burn : Cond.selects RX9 yX9_burn yX9_burn ∈ lw_tbl := List.mem_of_getElem? (i := 508) (by decide +kernel)
theorem mC_X9_burn : Cond.code yX9_burn cX9_burn 1 (some .int) ∈ lw_tbl := List.mem_of_getElem? (i := 509) (by decide +kernel)
theorem mM_X9_165 : Cond.methodLink RX9 165 yX0_fewestTicks ∈ lw_tbl := List.mem_of_getElem? (i := 510) (by decide +kernel)
theorem mV_X0_fewestTicks : Cond.instanceMethod yX0_fewestTicks ∈ lw_tbl := List.mem_of_getElem? (i := 511) (by decide +kernel)
theorem mE_X0_fewestTicks : Cond.selects RX0 yX0_fewestTicks yX0_fewestTicks ∈ lw_tbl := List.mem_of_getElem? (i := 512) (by decide +kernel)
theorem mC_X0_fewestTicks : Cond.code yX0_fewestTicks cX0_fewestTicks 1 (some .int) ∈ lw_tbl := List.mem_of_getElem? (i := 513) (by decide +kernel)
theorem mM_X0_19 : Cond.methodLink RX0 19 yX0_renewTicks ∈ lw_tbl := List.mem_of_getElem? (i := 514) (by decide +kernel)
theorem mV_X0_renewTicks : Cond.instanceMethod yX0_renewTicks ∈ lw_tbl := List.mem_of_getElem? (i := 516) (by decide +kernel)
theorem mC_X0_renewTicks : Cond.code yX0_renewTicks cX0_renewTicks 4 none ∈ lw_tbl := List.mem_of_getElem? (i := 517) (by decide +kernel)
theorem mM_X0_22 : Cond.methodLink RX0 22 yX4_allPosts ∈ lw_tbl := List.mem_of_getElem? (i := 518) (by decide +kernel)
theorem mM_X0_28 : Cond.methodLink RX0 28 yX4_withBehind ∈ lw_tbl := List.mem_of_getElem? (i := 519) (by decide +kernel)
theorem mM_X0_32 : Cond.methodLink RX0 32 yX0_bestPost ∈ lw_tbl := List.mem_of_getElem? (i := 520) (by decide +kernel)
theorem mV_X0_bestPost : Cond.instanceMethod yX0_bestPost ∈ lw_tbl := List.mem_of_getElem? (i := 522) (by decide +kernel)
theorem mC_X0_bestPost : Cond.code yX0_bestPost cX0_bestPost 5 (some .int) ∈ lw_tbl := List.mem_of_getElem? (i := 523) (by decide +kernel)
theorem mM_X0_39 : Cond.methodLinkNest RX0 39 yX9_hasPost "LampNet" ∈ lw_tbl := List.mem_of_getElem? (i := 524) (by decide +kernel)
theorem mM_L_85 : Cond.methodLink RL 85 yX9_hand ∈ lw_tbl := List.mem_of_getElem? (i := 525) (by decide +kernel)
theorem mV_X9_hand : Cond.instanceMethod yX9_hand ∈ lw_tbl := List.mem_of_getElem? (i := 526) (by decide +kernel)
theorem mE_X9_hand : Cond.selects RX9 yX9_hand yX9_hand ∈ lw_tbl := List.mem_of_getElem? (i := 527) (by decide +kernel)
theorem mC_X9_hand : Cond.code yX9_hand cX9_hand 2 (some .int) ∈ lw_tbl := List.mem_of_getElem? (i := 528) (by decide +kernel)
theorem mM_X9_168 : Cond.methodLink RX9 168 yX0_bestHand ∈ lw_tbl := List.mem_of_getElem? (i := 529) (by decide +kernel)
theorem mV_X0_bestHand : Cond.instanceMethod yX0_bestHand ∈ lw_tbl := List.mem_of_getElem? (i := 530) (by decide +kernel)
theorem mE_X0_bestHand : Cond.selects RX0 yX0_bestHand yX0_bestHand ∈ lw_tbl := List.mem_of_getElem? (i := 531) (by decide +kernel)
theorem mC_X0_bestHand : Cond.code yX0_bestHand cX0_bestHand 7 (some .int) ∈ lw_tbl := List.mem_of_getElem? (i := 532) (by decide +kernel)
theorem mM_L_91 : Cond.methodLink RL 91 yX9_burnt ∈ lw_tbl := List.mem_of_getElem? (i := 533) (by decide +kernel)
theorem mV_X9_burnt : Cond.instanceMethod yX9_burnt ∈ lw_tbl := List.mem_of_getElem? (i := 534) (by decide +kernel)
theorem mE_X9_burnt : Cond.selects RX9 yX9_burnt yX9_burnt ∈ lw_tbl := List.mem_of_getElem? (i := 535) (by decide +kernel)
theorem mC_X9_burnt : Cond.code yX9_burnt cX9_burnt 3 (some .int) ∈ lw_tbl := List.mem_of_getElem? (i := 536) (by decide +kernel)
theorem mM_X9_171 : Cond.methodLink RX9 171 yX0_ticksByHands ∈ lw_tbl := List.mem_of_getElem? (i := 537) (by decide +kernel)
theorem mV_X0_ticksByHands : Cond.instanceMethod yX0_ticksByHands ∈ lw_tbl := List.mem_of_getElem? (i := 538) (by decide +kernel)
theorem mE_X0_ticksByHands : Cond.selects RX0 yX0_ticksByHands yX0_ticksByHands ∈ lw_tbl := List.mem_of_getElem? (i := 539) (by decide +kernel)
theorem mC_X0_ticksByHands : Cond.code yX0_ticksByHands cX0_ticksByHands 10 (some .int) ∈ lw_tbl := List.mem_of_getElem? (i := 540) (by decide +kernel)
theorem mK_X0_49 : Cond.constantLong RX0 49 (13 : Int64) ∈ lw_tbl := List.mem_of_getElem? (i := 541) (by decide +kernel)
theorem mM_X0_51 : Cond.methodLink RX0 51 yX4_isPost ∈ lw_tbl := List.mem_of_getElem? (i := 542) (by decide +kernel)
theorem mM_L_96 : Cond.methodLink RL 96 yX9_save ∈ lw_tbl := List.mem_of_getElem? (i := 543) (by decide +kernel)
theorem mV_X9_save : Cond.instanceMethod yX9_save ∈ lw_tbl := List.mem_of_getElem? (i := 544) (by decide +kernel)
theorem mE_X9_save : Cond.selects RX9 yX9_save yX9_save ∈ lw_tbl := List.mem_of_getElem? (i := 545) (by decide +kernel)
theorem mC_X9_save : Cond.code yX9_save cX9_save 2 (some .int) ∈ lw_tbl := List.mem_of_getElem? (i := 546) (by decide +kernel)
theorem mM_X9_175 : Cond.methodLink RX9 175 yX2_saved ∈ lw_tbl := List.mem_of_getElem? (i := 547) (by decide +kernel)
theorem mV_X2_saved : Cond.instanceMethod yX2_saved ∈ lw_tbl := List.mem_of_getElem? (i := 548) (by decide +kernel)
theorem mE_X2_saved : Cond.selects RX2 yX2_saved yX2_saved ∈ lw_tbl := List.mem_of_getElem? (i := 549) (by decide +kernel)
theorem mC_X2_saved : Cond.code yX2_saved cX2_saved 2 (some .int) ∈ lw_tbl := List.mem_of_getElem? (i := 550) (by decide +kernel)
theorem mM_X2_15 : Cond.methodLink RX2 15 yX2_mostSaved ∈ lw_tbl := List.mem_of_getElem? (i := 551) (by decide +kernel)
theorem mV_X2_mostSaved : Cond.instanceMethod yX2_mostSaved ∈ lw_tbl := List.mem_of_getElem? (i := 553) (by decide +kernel)
theorem mC_X2_mostSaved : Cond.code yX2_mostSaved cX2_mostSaved 7 (some .int) ∈ lw_tbl := List.mem_of_getElem? (i := 554) (by decide +kernel)
theorem mM_X2_19 : Cond.methodLink RX2 19 yX4_allPosts ∈ lw_tbl := List.mem_of_getElem? (i := 555) (by decide +kernel)
theorem mM_X2_29 : Cond.methodLink RX2 29 yJ6_bitCount_0f7a4 ∈ lw_tbl := List.mem_of_getElem? (i := 556) (by decide +kernel)
theorem mM_X2_35 : Cond.methodLinkNest RX2 35 yX9_hasPost "LampNet" ∈ lw_tbl := List.mem_of_getElem? (i := 557) (by decide +kernel)
theorem mM_X2_39 : Cond.methodLink RX2 39 yX2_savedBehind ∈ lw_tbl := List.mem_of_getElem? (i := 558) (by decide +kernel)
theorem mV_X2_savedBehind : Cond.instanceMethod yX2_savedBehind ∈ lw_tbl := List.mem_of_getElem? (i := 560) (by decide +kernel)
theorem mC_X2_savedBehind : Cond.code yX2_savedBehind cX2_savedBehind 5 (some .int) ∈ lw_tbl := List.mem_of_getElem? (i := 561) (by decide +kernel)
theorem mM_X2_48 : Cond.methodLink RX2 48 yX2_afterTick ∈ lw_tbl := List.mem_of_getElem? (i := 562) (by decide +kernel)
theorem mV_X2_afterTick : Cond.instanceMethod yX2_afterTick ∈ lw_tbl := List.mem_of_getElem? (i := 564) (by decide +kernel)
theorem mC_X2_afterTick : Cond.code yX2_afterTick cX2_afterTick 3 (some .int) ∈ lw_tbl := List.mem_of_getElem? (i := 565) (by decide +kernel)
theorem mM_X2_51 : Cond.methodLink RX2 51 yX4_withBehind ∈ lw_tbl := List.mem_of_getElem? (i := 566) (by decide +kernel)
theorem mM_X2_42 : Cond.methodLink RX2 42 Lib.Math.max.name ∈ lw_tbl := List.mem_of_getElem? (i := 567) (by decide +kernel)
theorem mM_L_100 : Cond.methodLink RL 100 yX9_wall ∈ lw_tbl := List.mem_of_getElem? (i := 568) (by decide +kernel)
theorem mV_X9_wall : Cond.instanceMethod yX9_wall ∈ lw_tbl := List.mem_of_getElem? (i := 569) (by decide +kernel)
theorem mE_X9_wall : Cond.selects RX9 yX9_wall yX9_wall ∈ lw_tbl := List.mem_of_getElem? (i := 570) (by decide +kernel)
theorem mC_X9_wall : Cond.code yX9_wall cX9_wall 3 (some .int) ∈ lw_tbl := List.mem_of_getElem? (i := 571) (by decide +kernel)
theorem mM_X9_178 : Cond.methodLink RX9 178 yX2_bestWall ∈ lw_tbl := List.mem_of_getElem? (i := 572) (by decide +kernel)
theorem mV_X2_bestWall : Cond.instanceMethod yX2_bestWall ∈ lw_tbl := List.mem_of_getElem? (i := 573) (by decide +kernel)
theorem mE_X2_bestWall : Cond.selects RX2 yX2_bestWall yX2_bestWall ∈ lw_tbl := List.mem_of_getElem? (i := 574) (by decide +kernel)
theorem mC_X2_bestWall : Cond.code yX2_bestWall cX2_bestWall 8 (some .int) ∈ lw_tbl := List.mem_of_getElem? (i := 575) (by decide +kernel)
theorem mM_X2_54 : Cond.methodLink RX2 54 yX2_bestPost ∈ lw_tbl := List.mem_of_getElem? (i := 576) (by decide +kernel)
theorem mV_X2_bestPost : Cond.instanceMethod yX2_bestPost ∈ lw_tbl := List.mem_of_getElem? (i := 578) (by decide +kernel)
theorem mC_X2_bestPost : Cond.code yX2_bestPost cX2_bestPost 7 (some .int) ∈ lw_tbl := List.mem_of_getElem? (i := 579) (by decide +kernel)
theorem mM_L_104 : Cond.methodLink RL 104 yX9_holds ∈ lw_tbl := List.mem_of_getElem? (i := 580) (by decide +kernel)
theorem mV_X9_holds : Cond.instanceMethod yX9_holds ∈ lw_tbl := List.mem_of_getElem? (i := 581) (by decide +kernel)
theorem mE_X9_holds : Cond.selects RX9 yX9_holds yX9_holds ∈ lw_tbl := List.mem_of_getElem? (i := 582) (by decide +kernel)
theorem mC_X9_holds : Cond.code yX9_holds cX9_holds 2 (some .int) ∈ lw_tbl := List.mem_of_getElem? (i := 583) (by decide +kernel)
theorem mM_X9_181 : Cond.methodLink RX9 181 yX8_freshHolding ∈ lw_tbl := List.mem_of_getElem? (i := 584) (by decide +kernel)
theorem mV_X8_freshHolding : Cond.instanceMethod yX8_freshHolding ∈ lw_tbl := List.mem_of_getElem? (i := 585) (by decide +kernel)
theorem mE_X8_freshHolding : Cond.selects RX8 yX8_freshHolding yX8_freshHolding ∈ lw_tbl := List.mem_of_getElem? (i := 586) (by decide +kernel)
theorem mC_X8_freshHolding : Cond.code yX8_freshHolding cX8_freshHolding 1 (some (.array .boolean)) ∈ lw_tbl := List.mem_of_getElem? (i := 587) (by decide +kernel)
theorem mM_X8_28 : Cond.methodLink RX8 28 yX8_fillHolding ∈ lw_tbl := List.mem_of_getElem? (i := 588) (by decide +kernel)
theorem mV_X8_fillHolding : Cond.instanceMethod yX8_fillHolding ∈ lw_tbl := List.mem_of_getElem? (i := 590) (by decide +kernel)
theorem mC_X8_fillHolding : Cond.code yX8_fillHolding cX8_fillHolding 4 none ∈ lw_tbl := List.mem_of_getElem? (i := 591) (by decide +kernel)
theorem mM_X8_31 : Cond.methodLink RX8 31 yX4_allPosts ∈ lw_tbl := List.mem_of_getElem? (i := 592) (by decide +kernel)
theorem mM_X8_35 : Cond.methodLink RX8 35 yX8_takeFailingAway ∈ lw_tbl := List.mem_of_getElem? (i := 593) (by decide +kernel)
theorem mV_X8_takeFailingAway : Cond.instanceMethod yX8_takeFailingAway ∈ lw_tbl := List.mem_of_getElem? (i := 595) (by decide +kernel)
theorem mC_X8_takeFailingAway : Cond.code yX8_takeFailingAway cX8_takeFailingAway 4 (some .boolean) ∈ lw_tbl := List.mem_of_getElem? (i := 596) (by decide +kernel)
theorem mM_X8_69 : Cond.methodLink RX8 69 yX8_answersAll ∈ lw_tbl := List.mem_of_getElem? (i := 597) (by decide +kernel)
theorem mV_X8_answersAll : Cond.instanceMethod yX8_answersAll ∈ lw_tbl := List.mem_of_getElem? (i := 599) (by decide +kernel)
theorem mC_X8_answersAll : Cond.code yX8_answersAll cX8_answersAll 3 (some .boolean) ∈ lw_tbl := List.mem_of_getElem? (i := 600) (by decide +kernel)
theorem mM_X8_58 : Cond.methodLinkNest RX8 58 yX9_hasPost "LampNet" ∈ lw_tbl := List.mem_of_getElem? (i := 601) (by decide +kernel)
theorem mM_X8_62 : Cond.methodLink RX8 62 yX8_leastAnswer ∈ lw_tbl := List.mem_of_getElem? (i := 602) (by decide +kernel)
theorem mV_X8_leastAnswer : Cond.instanceMethod yX8_leastAnswer ∈ lw_tbl := List.mem_of_getElem? (i := 604) (by decide +kernel)
theorem mC_X8_leastAnswer : Cond.code yX8_leastAnswer cX8_leastAnswer 5 (some .int) ∈ lw_tbl := List.mem_of_getElem? (i := 605) (by decide +kernel)
theorem mM_L_108 : Cond.methodLink RL 108 yX9_guards ∈ lw_tbl := List.mem_of_getElem? (i := 606) (by decide +kernel)
theorem mV_X9_guards : Cond.instanceMethod yX9_guards ∈ lw_tbl := List.mem_of_getElem? (i := 607) (by decide +kernel)
theorem mE_X9_guards : Cond.selects RX9 yX9_guards yX9_guards ∈ lw_tbl := List.mem_of_getElem? (i := 608) (by decide +kernel)
theorem mC_X9_guards : Cond.code yX9_guards cX9_guards 1 (some .int) ∈ lw_tbl := List.mem_of_getElem? (i := 609) (by decide +kernel)
theorem mM_X9_185 : Cond.methodLink RX9 185 yX8_fewestHolding ∈ lw_tbl := List.mem_of_getElem? (i := 610) (by decide +kernel)
theorem mV_X8_fewestHolding : Cond.instanceMethod yX8_fewestHolding ∈ lw_tbl := List.mem_of_getElem? (i := 611) (by decide +kernel)
theorem mE_X8_fewestHolding : Cond.selects RX8 yX8_fewestHolding yX8_fewestHolding ∈ lw_tbl := List.mem_of_getElem? (i := 612) (by decide +kernel)
theorem mC_X8_fewestHolding : Cond.code yX8_fewestHolding cX8_fewestHolding 5 (some .int) ∈ lw_tbl := List.mem_of_getElem? (i := 613) (by decide +kernel)
theorem mM_X8_39 : Cond.methodLink RX8 39 yX8_freshHolding ∈ lw_tbl := List.mem_of_getElem? (i := 614) (by decide +kernel)
theorem mM_X8_46 : Cond.methodLink RX8 46 yJ6_bitCount_0f7a4 ∈ lw_tbl := List.mem_of_getElem? (i := 615) (by decide +kernel)
theorem mM_X8_52 : Cond.methodLink RX8 52 Lib.Math.min.name ∈ lw_tbl := List.mem_of_getElem? (i := 616) (by decide +kernel)
theorem mS_J9_min_7cf53 : Cond.static Lib.Math.min.name ∈ lw_tbl := List.mem_of_getElem? (i := 617) (by decide +kernel)
theorem mC_J9_min_7cf53 : Cond.code Lib.Math.min.name Lib.Math.min.code 2 (some .int) ∈ lw_tbl := List.mem_of_getElem? (i := 618) (by decide +kernel)
theorem mM_L_112 : Cond.methodLink RL 112 yX9_answer ∈ lw_tbl := List.mem_of_getElem? (i := 619) (by decide +kernel)
theorem mV_X9_answer : Cond.instanceMethod yX9_answer ∈ lw_tbl := List.mem_of_getElem? (i := 620) (by decide +kernel)
theorem mE_X9_answer : Cond.selects RX9 yX9_answer yX9_answer ∈ lw_tbl := List.mem_of_getElem? (i := 621) (by decide +kernel)
theorem mC_X9_answer : Cond.code yX9_answer cX9_answer 3 (some .int) ∈ lw_tbl := List.mem_of_getElem? (i := 622) (by decide +kernel)
theorem mM_X9_188 : Cond.methodLink RX9 188 yX8_answerFrom ∈ lw_tbl := List.mem_of_getElem? (i := 623) (by decide +kernel)
theorem mV_X8_answerFrom : Cond.instanceMethod yX8_answerFrom ∈ lw_tbl := List.mem_of_getElem? (i := 624) (by decide +kernel)
theorem mE_X8_answerFrom : Cond.selects RX8 yX8_answerFrom yX8_answerFrom ∈ lw_tbl := List.mem_of_getElem? (i := 625) (by decide +kernel)
theorem mC_X8_answerFrom : Cond.code yX8_answerFrom cX8_answerFrom 4 (some .int) ∈ lw_tbl := List.mem_of_getElem? (i := 626) (by decide +kernel)
theorem mM_L_116 : Cond.methodLink RL 116 yX9_win ∈ lw_tbl := List.mem_of_getElem? (i := 627) (by decide +kernel)
theorem mV_X9_win : Cond.instanceMethod yX9_win ∈ lw_tbl := List.mem_of_getElem? (i := 628) (by decide +kernel)
theorem mE_X9_win : Cond.selects RX9 yX9_win yX9_win ∈ lw_tbl := List.mem_of_getElem? (i := 629) (by decide +kernel)
theorem mC_X9_win : Cond.code yX9_win cX9_win 3 (some .int) ∈ lw_tbl := List.mem_of_getElem? (i := 630) (by decide +kernel)
theorem mM_X9_191 : Cond.methodLink RX9 191 yX3_winsOf ∈ lw_tbl := List.mem_of_getElem? (i := 631) (by decide +kernel)
theorem mV_X3_winsOf : Cond.instanceMethod yX3_winsOf ∈ lw_tbl := List.mem_of_getElem? (i := 632) (by decide +kernel)
theorem mE_X3_winsOf : Cond.selects RX3 yX3_winsOf yX3_winsOf ∈ lw_tbl := List.mem_of_getElem? (i := 633) (by decide +kernel)
theorem mC_X3_winsOf : Cond.code yX3_winsOf cX3_winsOf 5 (some (.array .byte)) ∈ lw_tbl := List.mem_of_getElem? (i := 634) (by decide +kernel)
theorem mM_X3_28 : Cond.methodLink RX3 28 yX4_versionOf ∈ lw_tbl := List.mem_of_getElem? (i := 635) (by decide +kernel)
theorem mM_X3_34 : Cond.methodLink RX3 34 yX6_endsOf ∈ lw_tbl := List.mem_of_getElem? (i := 636) (by decide +kernel)
theorem mM_X3_40 : Cond.methodLink RX3 40 yX4_allPosts ∈ lw_tbl := List.mem_of_getElem? (i := 637) (by decide +kernel)
theorem mM_X3_44 : Cond.methodLink RX3 44 yX3_winningPost ∈ lw_tbl := List.mem_of_getElem? (i := 638) (by decide +kernel)
theorem mV_X3_winningPost : Cond.instanceMethod yX3_winningPost ∈ lw_tbl := List.mem_of_getElem? (i := 639) (by decide +kernel)
theorem mE_X3_winningPost : Cond.selects RX3 yX3_winningPost yX3_winningPost ∈ lw_tbl := List.mem_of_getElem? (i := 640) (by decide +kernel)
theorem mC_X3_winningPost : Cond.code yX3_winningPost cX3_winningPost 5 (some .int) ∈ lw_tbl := List.mem_of_getElem? (i := 641) (by decide +kernel)
theorem mM_X3_52 : Cond.methodLinkNest RX3 52 yX9_hasPost "LampNet" ∈ lw_tbl := List.mem_of_getElem? (i := 642) (by decide +kernel)
theorem mM_L_120 : Cond.methodLink RL 120 yX9_first ∈ lw_tbl := List.mem_of_getElem? (i := 643) (by decide +kernel)
theorem mV_X9_first : Cond.instanceMethod yX9_first ∈ lw_tbl := List.mem_of_getElem? (i := 644) (by decide +kernel)
theorem mE_X9_first : Cond.selects RX9 yX9_first yX9_first ∈ lw_tbl := List.mem_of_getElem? (i := 645) (by decide +kernel)
theorem mC_X9_first : Cond.code yX9_first cX9_first 3 (some .int) ∈ lw_tbl := List.mem_of_getElem? (i := 646) (by decide +kernel)
theorem mM_X9_195 : Cond.methodLink RX9 195 yX3_winningPost ∈ lw_tbl := List.mem_of_getElem? (i := 647) (by decide +kernel)
theorem mM_L_124 : Cond.methodLink RL 124 yX9_count ∈ lw_tbl := List.mem_of_getElem? (i := 648) (by decide +kernel)
theorem mV_X9_count : Cond.instanceMethod yX9_count ∈ lw_tbl := List.mem_of_getElem? (i := 649) (by decide +kernel)
theorem mE_X9_count : Cond.selects RX9 yX9_count yX9_count ∈ lw_tbl := List.mem_of_getElem? (i := 650) (by decide +kernel)
theorem mC_X9_count : Cond.code yX9_count cX9_count 1 (some .int) ∈ lw_tbl := List.mem_of_getElem? (i := 651) (by decide +kernel)
theorem mL_L_10 : Cond.classLink RL 10 RX10 ∈ lw_tbl := List.mem_of_getElem? (i := 652) (by decide +kernel)
theorem mN_X10 : Cond.instantiable RX10 15 ∈ lw_tbl := List.mem_of_getElem? (i := 653) (by decide +kernel)
theorem mM_L_12 : Cond.methodLink RL 12 yX10_init ∈ lw_tbl := List.mem_of_getElem? (i := 654) (by decide +kernel)
theorem mV_X10_init : Cond.instanceMethod yX10_init ∈ lw_tbl := List.mem_of_getElem? (i := 655) (by decide +kernel)
theorem mC_X10_init : Cond.code yX10_init cX10_init 1 none ∈ lw_tbl := List.mem_of_getElem? (i := 656) (by decide +kernel)
theorem mM_X10_1 : Cond.methodLink RX10 1 Lib.objectInit ∈ lw_tbl := List.mem_of_getElem? (i := 657) (by decide +kernel)
theorem mK_X10_38 : Cond.constant RX10 38 (1048576 : Int32) ∈ lw_tbl := List.mem_of_getElem? (i := 658) (by decide +kernel)
theorem mF_X10_48 : Cond.fieldLink RX10 48 "LampNetModel" "posts" "I" ∈ lw_tbl := List.mem_of_getElem? (i := 659) (by decide +kernel)
theorem mF_X10_7 : Cond.fieldLink RX10 7 "LampNetModel" "weights" "[I" ∈ lw_tbl := List.mem_of_getElem? (i := 660) (by decide +kernel)
theorem mF_X10_13 : Cond.fieldLink RX10 13 "LampNetModel" "bars" "[I" ∈ lw_tbl := List.mem_of_getElem? (i := 661) (by decide +kernel)
theorem mF_X10_16 : Cond.fieldLink RX10 16 "LampNetModel" "prices" "[I" ∈ lw_tbl := List.mem_of_getElem? (i := 662) (by decide +kernel)
theorem mF_X10_19 : Cond.fieldLink RX10 19 "LampNetModel" "behinds" "[I" ∈ lw_tbl := List.mem_of_getElem? (i := 663) (by decide +kernel)
theorem mF_X10_56 : Cond.fieldLink RX10 56 "LampNetModel" "known" "I" ∈ lw_tbl := List.mem_of_getElem? (i := 664) (by decide +kernel)
theorem mF_X10_22 : Cond.fieldLink RX10 22 "LampNetModel" "stands" "[I" ∈ lw_tbl := List.mem_of_getElem? (i := 665) (by decide +kernel)
theorem mF_X10_77 : Cond.fieldLink RX10 77 "LampNetModel" "end" "I" ∈ lw_tbl := List.mem_of_getElem? (i := 666) (by decide +kernel)
theorem mF_X10_25 : Cond.fieldLink RX10 25 "LampNetModel" "ends" "[I" ∈ lw_tbl := List.mem_of_getElem? (i := 667) (by decide +kernel)
theorem mF_X10_28 : Cond.fieldLink RX10 28 "LampNetModel" "isLeast" "[Z" ∈ lw_tbl := List.mem_of_getElem? (i := 668) (by decide +kernel)
theorem mF_X10_32 : Cond.fieldLink RX10 32 "LampNetModel" "best" "[I" ∈ lw_tbl := List.mem_of_getElem? (i := 669) (by decide +kernel)
theorem mF_X10_35 : Cond.fieldLink RX10 35 "LampNetModel" "fewest" "[I" ∈ lw_tbl := List.mem_of_getElem? (i := 670) (by decide +kernel)
theorem mF_X10_39 : Cond.fieldLink RX10 39 "LampNetModel" "saved" "[I" ∈ lw_tbl := List.mem_of_getElem? (i := 671) (by decide +kernel)
theorem mF_X10_42 : Cond.fieldLink RX10 42 "LampNetModel" "hold" "[Z" ∈ lw_tbl := List.mem_of_getElem? (i := 672) (by decide +kernel)
theorem mF_X10_45 : Cond.fieldLink RX10 45 "LampNetModel" "wins" "[Z" ∈ lw_tbl := List.mem_of_getElem? (i := 673) (by decide +kernel)
theorem mM_L_17 : Cond.methodLink RL 17 yX10_post ∈ lw_tbl := List.mem_of_getElem? (i := 705) (by decide +kernel)
theorem mV_X10_post : Cond.instanceMethod yX10_post ∈ lw_tbl := List.mem_of_getElem? (i := 706) (by decide +kernel)
theorem mE_X10_post : Cond.selects RX10 yX10_post yX10_post ∈ lw_tbl := List.mem_of_getElem? (i := 707) (by decide +kernel)
theorem mC_X10_post : Cond.code yX10_post cX10_post 1 (some .int) ∈ lw_tbl := List.mem_of_getElem? (i := 708) (by decide +kernel)
theorem mM_L_22 : Cond.methodLink RL 22 yX10_road ∈ lw_tbl := List.mem_of_getElem? (i := 709) (by decide +kernel)
theorem mV_X10_road : Cond.instanceMethod yX10_road ∈ lw_tbl := List.mem_of_getElem? (i := 710) (by decide +kernel)
theorem mE_X10_road : Cond.selects RX10 yX10_road yX10_road ∈ lw_tbl := List.mem_of_getElem? (i := 711) (by decide +kernel)
theorem mC_X10_road : Cond.code yX10_road cX10_road 5 (some .int) ∈ lw_tbl := List.mem_of_getElem? (i := 712) (by decide +kernel)
theorem mM_X10_59 : Cond.methodLink RX10 59 yX10_isPost ∈ lw_tbl := List.mem_of_getElem? (i := 713) (by decide +kernel)
theorem mV_X10_isPost : Cond.instanceMethod yX10_isPost ∈ lw_tbl := List.mem_of_getElem? (i := 715) (by decide +kernel)
theorem mC_X10_isPost : Cond.code yX10_isPost cX10_isPost 2 (some .boolean) ∈ lw_tbl := List.mem_of_getElem? (i := 716) (by decide +kernel)
theorem mM_X10_52 : Cond.methodLink RX10 52 yX10_in ∈ lw_tbl := List.mem_of_getElem? (i := 717) (by decide +kernel)
theorem mS_X10_in : Cond.static yX10_in ∈ lw_tbl := List.mem_of_getElem? (i := 718) (by decide +kernel)
theorem mC_X10_in : Cond.code yX10_in cX10_in 3 (some .boolean) ∈ lw_tbl := List.mem_of_getElem? (i := 719) (by decide +kernel)
theorem mM_L_27 : Cond.methodLink RL 27 yX10_bar ∈ lw_tbl := List.mem_of_getElem? (i := 720) (by decide +kernel)
theorem mV_X10_bar : Cond.instanceMethod yX10_bar ∈ lw_tbl := List.mem_of_getElem? (i := 721) (by decide +kernel)
theorem mE_X10_bar : Cond.selects RX10 yX10_bar yX10_bar ∈ lw_tbl := List.mem_of_getElem? (i := 722) (by decide +kernel)
theorem mC_X10_bar : Cond.code yX10_bar cX10_bar 4 (some .int) ∈ lw_tbl := List.mem_of_getElem? (i := 723) (by decide +kernel)
theorem mM_L_31 : Cond.methodLink RL 31 yX10_price ∈ lw_tbl := List.mem_of_getElem? (i := 724) (by decide +kernel)
theorem mV_X10_price : Cond.instanceMethod yX10_price ∈ lw_tbl := List.mem_of_getElem? (i := 725) (by decide +kernel)
theorem mE_X10_price : Cond.selects RX10 yX10_price yX10_price ∈ lw_tbl := List.mem_of_getElem? (i := 726) (by decide +kernel)
theorem mC_X10_price : Cond.code yX10_price cX10_price 4 (some .int) ∈ lw_tbl := List.mem_of_getElem? (i := 727) (by decide +kernel)
theorem mM_L_35 : Cond.methodLink RL 35 yX10_of ∈ lw_tbl := List.mem_of_getElem? (i := 728) (by decide +kernel)
theorem mV_X10_of : Cond.instanceMethod yX10_of ∈ lw_tbl := List.mem_of_getElem? (i := 729) (by decide +kernel)
theorem mE_X10_of : Cond.selects RX10 yX10_of yX10_of ∈ lw_tbl := List.mem_of_getElem? (i := 730) (by decide +kernel)
theorem mC_X10_of : Cond.code yX10_of cX10_of 3 (some .int) ∈ lw_tbl := List.mem_of_getElem? (i := 731) (by decide +kernel)
theorem mM_X10_63 : Cond.methodLink RX10 63 yX10_behind ∈ lw_tbl := List.mem_of_getElem? (i := 732) (by decide +kernel)
theorem mV_X10_behind : Cond.instanceMethod yX10_behind ∈ lw_tbl := List.mem_of_getElem? (i := 734) (by decide +kernel)
theorem mC_X10_behind : Cond.code yX10_behind cX10_behind 2 (some .int) ∈ lw_tbl := List.mem_of_getElem? (i := 735) (by decide +kernel)
theorem mM_X10_67 : Cond.methodLink RX10 67 yX10_ahead ∈ lw_tbl := List.mem_of_getElem? (i := 736) (by decide +kernel)
theorem mV_X10_ahead : Cond.instanceMethod yX10_ahead ∈ lw_tbl := List.mem_of_getElem? (i := 738) (by decide +kernel)
theorem mC_X10_ahead : Cond.code yX10_ahead cX10_ahead 4 (some .int) ∈ lw_tbl := List.mem_of_getElem? (i := 739) (by decide +kernel)
theorem mM_L_39 : Cond.methodLink RL 39 yX10_go ∈ lw_tbl := List.mem_of_getElem? (i := 740) (by decide +kernel)
theorem mV_X10_go : Cond.instanceMethod yX10_go ∈ lw_tbl := List.mem_of_getElem? (i := 741) (by decide +kernel)
theorem mE_X10_go : Cond.selects RX10 yX10_go yX10_go ∈ lw_tbl := List.mem_of_getElem? (i := 742) (by decide +kernel)
theorem mC_X10_go : Cond.code yX10_go cX10_go 3 (some .int) ∈ lw_tbl := List.mem_of_getElem? (i := 743) (by decide +kernel)
theorem mM_X10_95 : Cond.methodLink RX10 95 yX10_isRule ∈ lw_tbl := List.mem_of_getElem? (i := 744) (by decide +kernel)
theorem mS_X10_isRule : Cond.static yX10_isRule ∈ lw_tbl := List.mem_of_getElem? (i := 745) (by decide +kernel)
theorem mC_X10_isRule : Cond.code yX10_isRule cX10_isRule 1 (some .boolean) ∈ lw_tbl := List.mem_of_getElem? (i := 746) (by decide +kernel)
theorem mM_X10_98 : Cond.methodLink RX10 98 yX10_isSet ∈ lw_tbl := List.mem_of_getElem? (i := 747) (by decide +kernel)
theorem mV_X10_isSet : Cond.instanceMethod yX10_isSet ∈ lw_tbl := List.mem_of_getElem? (i := 749) (by decide +kernel)
theorem mC_X10_isSet : Cond.code yX10_isSet cX10_isSet 2 (some .boolean) ∈ lw_tbl := List.mem_of_getElem? (i := 750) (by decide +kernel)
theorem mM_X10_91 : Cond.methodLink RX10 91 yX10_runs ∈ lw_tbl := List.mem_of_getElem? (i := 751) (by decide +kernel)
theorem mV_X10_runs : Cond.instanceMethod yX10_runs ∈ lw_tbl := List.mem_of_getElem? (i := 753) (by decide +kernel)
theorem mC_X10_runs : Cond.code yX10_runs cX10_runs 6 (some .int) ∈ lw_tbl := List.mem_of_getElem? (i := 754) (by decide +kernel)
theorem mM_X10_80 : Cond.methodLink RX10 80 yX10_tick ∈ lw_tbl := List.mem_of_getElem? (i := 755) (by decide +kernel)
theorem mV_X10_tick : Cond.instanceMethod yX10_tick ∈ lw_tbl := List.mem_of_getElem? (i := 757) (by decide +kernel)
theorem mC_X10_tick : Cond.code yX10_tick cX10_tick 8 (some .int) ∈ lw_tbl := List.mem_of_getElem? (i := 758) (by decide +kernel)
theorem mM_X10_74 : Cond.methodLink RX10 74 yX10_allBehind ∈ lw_tbl := List.mem_of_getElem? (i := 759) (by decide +kernel)
theorem mV_X10_allBehind : Cond.instanceMethod yX10_allBehind ∈ lw_tbl := List.mem_of_getElem? (i := 761) (by decide +kernel)
theorem mC_X10_allBehind : Cond.code yX10_allBehind cX10_allBehind 4 (some .int) ∈ lw_tbl := List.mem_of_getElem? (i := 762) (by decide +kernel)
theorem mM_X10_70 : Cond.methodLink RX10 70 yX10_has ∈ lw_tbl := List.mem_of_getElem? (i := 763) (by decide +kernel)
theorem mS_X10_has : Cond.static yX10_has ∈ lw_tbl := List.mem_of_getElem? (i := 764) (by decide +kernel)
theorem mC_X10_has : Cond.code yX10_has cX10_has 2 (some .boolean) ∈ lw_tbl := List.mem_of_getElem? (i := 765) (by decide +kernel)
theorem mM_L_43 : Cond.methodLink RL 43 yX10_ticks ∈ lw_tbl := List.mem_of_getElem? (i := 766) (by decide +kernel)
theorem mV_X10_ticks : Cond.instanceMethod yX10_ticks ∈ lw_tbl := List.mem_of_getElem? (i := 767) (by decide +kernel)
theorem mE_X10_ticks : Cond.selects RX10 yX10_ticks yX10_ticks ∈ lw_tbl := List.mem_of_getElem? (i := 768) (by decide +kernel)
theorem mC_X10_ticks : Cond.code yX10_ticks cX10_ticks 4 (some .int) ∈ lw_tbl := List.mem_of_getElem? (i := 769) (by decide +kernel)
theorem mM_L_47 : Cond.methodLink RL 47 yX10_when ∈ lw_tbl := List.mem_of_getElem? (i := 770) (by decide +kernel)
theorem mV_X10_when : Cond.instanceMethod yX10_when ∈ lw_tbl := List.mem_of_getElem? (i := 771) (by decide +kernel)
theorem mE_X10_when : Cond.selects RX10 yX10_when yX10_when ∈ lw_tbl := List.mem_of_getElem? (i := 772) (by decide +kernel)
theorem mC_X10_when : Cond.code yX10_when cX10_when 5 (some .int) ∈ lw_tbl := List.mem_of_getElem? (i := 773) (by decide +kernel)
theorem mM_X10_101 : Cond.methodLink RX10 101 yX10_comes ∈ lw_tbl := List.mem_of_getElem? (i := 774) (by decide +kernel)
theorem mV_X10_comes : Cond.instanceMethod yX10_comes ∈ lw_tbl := List.mem_of_getElem? (i := 776) (by decide +kernel)
theorem mC_X10_comes : Cond.code yX10_comes cX10_comes 3 (some .int) ∈ lw_tbl := List.mem_of_getElem? (i := 777) (by decide +kernel)
theorem mM_L_51 : Cond.methodLink RL 51 yX10_brought ∈ lw_tbl := List.mem_of_getElem? (i := 778) (by decide +kernel)
theorem mV_X10_brought : Cond.instanceMethod yX10_brought ∈ lw_tbl := List.mem_of_getElem? (i := 779) (by decide +kernel)
theorem mE_X10_brought : Cond.selects RX10 yX10_brought yX10_brought ∈ lw_tbl := List.mem_of_getElem? (i := 780) (by decide +kernel)
theorem mC_X10_brought : Cond.code yX10_brought cX10_brought 8 (some .int) ∈ lw_tbl := List.mem_of_getElem? (i := 781) (by decide +kernel)
theorem mM_L_55 : Cond.methodLink RL 55 yX10_fort ∈ lw_tbl := List.mem_of_getElem? (i := 782) (by decide +kernel)
theorem mV_X10_fort : Cond.instanceMethod yX10_fort ∈ lw_tbl := List.mem_of_getElem? (i := 783) (by decide +kernel)
theorem mE_X10_fort : Cond.selects RX10 yX10_fort yX10_fort ∈ lw_tbl := List.mem_of_getElem? (i := 784) (by decide +kernel)
theorem mC_X10_fort : Cond.code yX10_fort cX10_fort 3 (some .int) ∈ lw_tbl := List.mem_of_getElem? (i := 785) (by decide +kernel)
theorem mM_X10_104 : Cond.methodLink RX10 104 yX10_isFort ∈ lw_tbl := List.mem_of_getElem? (i := 786) (by decide +kernel)
theorem mV_X10_isFort : Cond.instanceMethod yX10_isFort ∈ lw_tbl := List.mem_of_getElem? (i := 788) (by decide +kernel)
theorem mC_X10_isFort : Cond.code yX10_isFort cX10_isFort 4 (some .boolean) ∈ lw_tbl := List.mem_of_getElem? (i := 789) (by decide +kernel)
theorem mM_X10_87 : Cond.methodLink RX10 87 yX10_all ∈ lw_tbl := List.mem_of_getElem? (i := 790) (by decide +kernel)
theorem mV_X10_all : Cond.instanceMethod yX10_all ∈ lw_tbl := List.mem_of_getElem? (i := 792) (by decide +kernel)
theorem mC_X10_all : Cond.code yX10_all cX10_all 1 (some .int) ∈ lw_tbl := List.mem_of_getElem? (i := 793) (by decide +kernel)
theorem mM_L_59 : Cond.methodLink RL 59 yX10_forts ∈ lw_tbl := List.mem_of_getElem? (i := 794) (by decide +kernel)
theorem mV_X10_forts : Cond.instanceMethod yX10_forts ∈ lw_tbl := List.mem_of_getElem? (i := 795) (by decide +kernel)
theorem mE_X10_forts : Cond.selects RX10 yX10_forts yX10_forts ∈ lw_tbl := List.mem_of_getElem? (i := 796) (by decide +kernel)
theorem mC_X10_forts : Cond.code yX10_forts cX10_forts 6 (some .int) ∈ lw_tbl := List.mem_of_getElem? (i := 797) (by decide +kernel)
theorem mM_X10_107 : Cond.methodLink RX10 107 yX10_findForts ∈ lw_tbl := List.mem_of_getElem? (i := 798) (by decide +kernel)
theorem mV_X10_findForts : Cond.instanceMethod yX10_findForts ∈ lw_tbl := List.mem_of_getElem? (i := 800) (by decide +kernel)
theorem mC_X10_findForts : Cond.code yX10_findForts cX10_findForts 6 none ∈ lw_tbl := List.mem_of_getElem? (i := 801) (by decide +kernel)
theorem mM_X10_84 : Cond.methodLink RX10 84 yX10_isKnown ∈ lw_tbl := List.mem_of_getElem? (i := 802) (by decide +kernel)
theorem mV_X10_isKnown : Cond.instanceMethod yX10_isKnown ∈ lw_tbl := List.mem_of_getElem? (i := 804) (by decide +kernel)
theorem mC_X10_isKnown : Cond.code yX10_isKnown cX10_isKnown 3 (some .boolean) ∈ lw_tbl := List.mem_of_getElem? (i := 805) (by decide +kernel)
theorem mM_X10_111 : Cond.methodLink RX10 111 yX10_ones ∈ lw_tbl := List.mem_of_getElem? (i := 806) (by decide +kernel)
theorem mS_X10_ones : Cond.static yX10_ones ∈ lw_tbl := List.mem_of_getElem? (i := 807) (by decide +kernel)
theorem mC_X10_ones : Cond.code yX10_ones cX10_ones 3 (some .int) ∈ lw_tbl := List.mem_of_getElem? (i := 808) (by decide +kernel)
theorem mM_L_64 : Cond.methodLink RL 64 yX10_apart ∈ lw_tbl := List.mem_of_getElem? (i := 809) (by decide +kernel)
theorem mV_X10_apart : Cond.instanceMethod yX10_apart ∈ lw_tbl := List.mem_of_getElem? (i := 810) (by decide +kernel)
theorem mE_X10_apart : Cond.selects RX10 yX10_apart yX10_apart ∈ lw_tbl := List.mem_of_getElem? (i := 811) (by decide +kernel)
theorem mC_X10_apart : Cond.code yX10_apart cX10_apart 6 (some .int) ∈ lw_tbl := List.mem_of_getElem? (i := 812) (by decide +kernel)
theorem mM_L_68 : Cond.methodLink RL 68 yX10_least ∈ lw_tbl := List.mem_of_getElem? (i := 813) (by decide +kernel)
theorem mV_X10_least : Cond.instanceMethod yX10_least ∈ lw_tbl := List.mem_of_getElem? (i := 814) (by decide +kernel)
theorem mE_X10_least : Cond.selects RX10 yX10_least yX10_least ∈ lw_tbl := List.mem_of_getElem? (i := 815) (by decide +kernel)
theorem mC_X10_least : Cond.code yX10_least cX10_least 4 (some .int) ∈ lw_tbl := List.mem_of_getElem? (i := 816) (by decide +kernel)
theorem mM_X10_117 : Cond.methodLink RX10 117 yX10_setsGoing ∈ lw_tbl := List.mem_of_getElem? (i := 817) (by decide +kernel)
theorem mV_X10_setsGoing : Cond.instanceMethod yX10_setsGoing ∈ lw_tbl := List.mem_of_getElem? (i := 819) (by decide +kernel)
theorem mC_X10_setsGoing : Cond.code yX10_setsGoing cX10_setsGoing 3 (some .boolean) ∈ lw_tbl := List.mem_of_getElem? (i := 820) (by decide +kernel)
theorem mM_X10_114 : Cond.methodLink RX10 114 yX10_endOf ∈ lw_tbl := List.mem_of_getElem? (i := 821) (by decide +kernel)
theorem mV_X10_endOf : Cond.instanceMethod yX10_endOf ∈ lw_tbl := List.mem_of_getElem? (i := 823) (by decide +kernel)
theorem mC_X10_endOf : Cond.code yX10_endOf cX10_endOf 4 (some .int) ∈ lw_tbl := List.mem_of_getElem? (i := 824) (by decide +kernel)
theorem mM_L_72 : Cond.methodLink RL 72 yX10_many ∈ lw_tbl := List.mem_of_getElem? (i := 825) (by decide +kernel)
theorem mV_X10_many : Cond.instanceMethod yX10_many ∈ lw_tbl := List.mem_of_getElem? (i := 826) (by decide +kernel)
theorem mE_X10_many : Cond.selects RX10 yX10_many yX10_many ∈ lw_tbl := List.mem_of_getElem? (i := 827) (by decide +kernel)
theorem mC_X10_many : Cond.code yX10_many cX10_many 5 (some .int) ∈ lw_tbl := List.mem_of_getElem? (i := 828) (by decide +kernel)
theorem mM_X10_120 : Cond.methodLink RX10 120 yX10_least ∈ lw_tbl := List.mem_of_getElem? (i := 829) (by decide +kernel)
theorem mM_L_76 : Cond.methodLink RL 76 yX10_cheapest ∈ lw_tbl := List.mem_of_getElem? (i := 830) (by decide +kernel)
theorem mV_X10_cheapest : Cond.instanceMethod yX10_cheapest ∈ lw_tbl := List.mem_of_getElem? (i := 831) (by decide +kernel)
theorem mE_X10_cheapest : Cond.selects RX10 yX10_cheapest yX10_cheapest ∈ lw_tbl := List.mem_of_getElem? (i := 832) (by decide +kernel)
theorem mC_X10_cheapest : Cond.code yX10_cheapest cX10_cheapest 7 (some .int) ∈ lw_tbl := List.mem_of_getElem? (i := 833) (by decide +kernel)
theorem mK_X10_123 : Cond.constant RX10 123 (1000000 : Int32) ∈ lw_tbl := List.mem_of_getElem? (i := 834) (by decide +kernel)
theorem mM_L_80 : Cond.methodLink RL 80 yX10_pared ∈ lw_tbl := List.mem_of_getElem? (i := 835) (by decide +kernel)
theorem mV_X10_pared : Cond.instanceMethod yX10_pared ∈ lw_tbl := List.mem_of_getElem? (i := 836) (by decide +kernel)
theorem mE_X10_pared : Cond.selects RX10 yX10_pared yX10_pared ∈ lw_tbl := List.mem_of_getElem? (i := 837) (by decide +kernel)
theorem mC_X10_pared : Cond.code yX10_pared cX10_pared 4 (some .int) ∈ lw_tbl := List.mem_of_getElem? (i := 838) (by decide +kernel)
theorem mM_L_84 : Cond.methodLink RL 84 yX10_burn ∈ lw_tbl := List.mem_of_getElem? (i := 839) (by decide +kernel)
theorem mV_X10_burn : Cond.instanceMethod yX10_burn ∈ lw_tbl := List.mem_of_getElem? (i := 840) (by decide +kernel)
theorem mE_X10_burn : Cond.selects RX10 yX10_burn yX10_burn ∈ lw_tbl := List.mem_of_getElem? (i := 841) (by decide +kernel)
theorem mC_X10_burn : Cond.code yX10_burn cX10_burn 1 (some .int) ∈ lw_tbl := List.mem_of_getElem? (i := 842) (by decide +kernel)
theorem mM_X10_124 : Cond.methodLink RX10 124 yX10_burns ∈ lw_tbl := List.mem_of_getElem? (i := 843) (by decide +kernel)
theorem mV_X10_burns : Cond.instanceMethod yX10_burns ∈ lw_tbl := List.mem_of_getElem? (i := 845) (by decide +kernel)
theorem mC_X10_burns : Cond.code yX10_burns cX10_burns 4 none ∈ lw_tbl := List.mem_of_getElem? (i := 846) (by decide +kernel)
theorem mM_L_88 : Cond.methodLink RL 88 yX10_hand ∈ lw_tbl := List.mem_of_getElem? (i := 847) (by decide +kernel)
theorem mV_X10_hand : Cond.instanceMethod yX10_hand ∈ lw_tbl := List.mem_of_getElem? (i := 848) (by decide +kernel)
theorem mE_X10_hand : Cond.selects RX10 yX10_hand yX10_hand ∈ lw_tbl := List.mem_of_getElem? (i := 849) (by decide +kernel)
theorem mC_X10_hand : Cond.code yX10_hand cX10_hand 6 (some .int) ∈ lw_tbl := List.mem_of_getElem? (i := 850) (by decide +kernel)
theorem mM_L_95 : Cond.methodLink RL 95 yX10_burnt ∈ lw_tbl := List.mem_of_getElem? (i := 851) (by decide +kernel)
theorem mV_X10_burnt : Cond.instanceMethod yX10_burnt ∈ lw_tbl := List.mem_of_getElem? (i := 852) (by decide +kernel)
theorem mE_X10_burnt : Cond.selects RX10 yX10_burnt yX10_burnt ∈ lw_tbl := List.mem_of_getElem? (i := 853) (by decide +kernel)
theorem mC_X10_burnt : Cond.code yX10_burnt cX10_burnt 9 (some .int) ∈ lw_tbl := List.mem_of_getElem? (i := 854) (by decide +kernel)
theorem mK_X10_127 : Cond.constantLong RX10 127 (13 : Int64) ∈ lw_tbl := List.mem_of_getElem? (i := 855) (by decide +kernel)
theorem mM_L_99 : Cond.methodLink RL 99 yX10_save ∈ lw_tbl := List.mem_of_getElem? (i := 856) (by decide +kernel)
theorem mV_X10_save : Cond.instanceMethod yX10_save ∈ lw_tbl := List.mem_of_getElem? (i := 857) (by decide +kernel)
theorem mE_X10_save : Cond.selects RX10 yX10_save yX10_save ∈ lw_tbl := List.mem_of_getElem? (i := 858) (by decide +kernel)
theorem mC_X10_save : Cond.code yX10_save cX10_save 2 (some .int) ∈ lw_tbl := List.mem_of_getElem? (i := 859) (by decide +kernel)
theorem mM_X10_135 : Cond.methodLink RX10 135 yX10_saves ∈ lw_tbl := List.mem_of_getElem? (i := 860) (by decide +kernel)
theorem mV_X10_saves : Cond.instanceMethod yX10_saves ∈ lw_tbl := List.mem_of_getElem? (i := 862) (by decide +kernel)
theorem mC_X10_saves : Cond.code yX10_saves cX10_saves 6 none ∈ lw_tbl := List.mem_of_getElem? (i := 863) (by decide +kernel)
theorem mM_X10_132 : Cond.methodLink RX10 132 yX10_behindWall ∈ lw_tbl := List.mem_of_getElem? (i := 864) (by decide +kernel)
theorem mV_X10_behindWall : Cond.instanceMethod yX10_behindWall ∈ lw_tbl := List.mem_of_getElem? (i := 866) (by decide +kernel)
theorem mC_X10_behindWall : Cond.code yX10_behindWall cX10_behindWall 4 (some .int) ∈ lw_tbl := List.mem_of_getElem? (i := 867) (by decide +kernel)
theorem mM_X10_129 : Cond.methodLink RX10 129 yX10_next ∈ lw_tbl := List.mem_of_getElem? (i := 868) (by decide +kernel)
theorem mV_X10_next : Cond.instanceMethod yX10_next ∈ lw_tbl := List.mem_of_getElem? (i := 870) (by decide +kernel)
theorem mC_X10_next : Cond.code yX10_next cX10_next 3 (some .int) ∈ lw_tbl := List.mem_of_getElem? (i := 871) (by decide +kernel)
theorem mM_L_103 : Cond.methodLink RL 103 yX10_wall ∈ lw_tbl := List.mem_of_getElem? (i := 872) (by decide +kernel)
theorem mV_X10_wall : Cond.instanceMethod yX10_wall ∈ lw_tbl := List.mem_of_getElem? (i := 873) (by decide +kernel)
theorem mE_X10_wall : Cond.selects RX10 yX10_wall yX10_wall ∈ lw_tbl := List.mem_of_getElem? (i := 874) (by decide +kernel)
theorem mC_X10_wall : Cond.code yX10_wall cX10_wall 8 (some .int) ∈ lw_tbl := List.mem_of_getElem? (i := 875) (by decide +kernel)
theorem mM_L_107 : Cond.methodLink RL 107 yX10_holds ∈ lw_tbl := List.mem_of_getElem? (i := 876) (by decide +kernel)
theorem mV_X10_holds : Cond.instanceMethod yX10_holds ∈ lw_tbl := List.mem_of_getElem? (i := 877) (by decide +kernel)
theorem mE_X10_holds : Cond.selects RX10 yX10_holds yX10_holds ∈ lw_tbl := List.mem_of_getElem? (i := 878) (by decide +kernel)
theorem mC_X10_holds : Cond.code yX10_holds cX10_holds 2 (some .int) ∈ lw_tbl := List.mem_of_getElem? (i := 879) (by decide +kernel)
theorem mM_X10_141 : Cond.methodLink RX10 141 yX10_guard ∈ lw_tbl := List.mem_of_getElem? (i := 880) (by decide +kernel)
theorem mV_X10_guard : Cond.instanceMethod yX10_guard ∈ lw_tbl := List.mem_of_getElem? (i := 882) (by decide +kernel)
theorem mC_X10_guard : Cond.code yX10_guard cX10_guard 4 none ∈ lw_tbl := List.mem_of_getElem? (i := 883) (by decide +kernel)
theorem mM_X10_138 : Cond.methodLink RX10 138 yX10_answers ∈ lw_tbl := List.mem_of_getElem? (i := 884) (by decide +kernel)
theorem mV_X10_answers : Cond.instanceMethod yX10_answers ∈ lw_tbl := List.mem_of_getElem? (i := 886) (by decide +kernel)
theorem mC_X10_answers : Cond.code yX10_answers cX10_answers 4 (some .int) ∈ lw_tbl := List.mem_of_getElem? (i := 887) (by decide +kernel)
theorem mM_L_111 : Cond.methodLink RL 111 yX10_guards ∈ lw_tbl := List.mem_of_getElem? (i := 888) (by decide +kernel)
theorem mV_X10_guards : Cond.instanceMethod yX10_guards ∈ lw_tbl := List.mem_of_getElem? (i := 889) (by decide +kernel)
theorem mE_X10_guards : Cond.selects RX10 yX10_guards yX10_guards ∈ lw_tbl := List.mem_of_getElem? (i := 890) (by decide +kernel)
theorem mC_X10_guards : Cond.code yX10_guards cX10_guards 3 (some .int) ∈ lw_tbl := List.mem_of_getElem? (i := 891) (by decide +kernel)
theorem mM_L_115 : Cond.methodLink RL 115 yX10_answer ∈ lw_tbl := List.mem_of_getElem? (i := 892) (by decide +kernel)
theorem mV_X10_answer : Cond.instanceMethod yX10_answer ∈ lw_tbl := List.mem_of_getElem? (i := 893) (by decide +kernel)
theorem mE_X10_answer : Cond.selects RX10 yX10_answer yX10_answer ∈ lw_tbl := List.mem_of_getElem? (i := 894) (by decide +kernel)
theorem mC_X10_answer : Cond.code yX10_answer cX10_answer 3 (some .int) ∈ lw_tbl := List.mem_of_getElem? (i := 895) (by decide +kernel)
theorem mM_L_119 : Cond.methodLink RL 119 yX10_win ∈ lw_tbl := List.mem_of_getElem? (i := 896) (by decide +kernel)
theorem mV_X10_win : Cond.instanceMethod yX10_win ∈ lw_tbl := List.mem_of_getElem? (i := 897) (by decide +kernel)
theorem mE_X10_win : Cond.selects RX10 yX10_win yX10_win ∈ lw_tbl := List.mem_of_getElem? (i := 898) (by decide +kernel)
theorem mC_X10_win : Cond.code yX10_win cX10_win 3 (some .int) ∈ lw_tbl := List.mem_of_getElem? (i := 899) (by decide +kernel)
theorem mM_X10_147 : Cond.methodLink RX10 147 yX10_play ∈ lw_tbl := List.mem_of_getElem? (i := 900) (by decide +kernel)
theorem mV_X10_play : Cond.instanceMethod yX10_play ∈ lw_tbl := List.mem_of_getElem? (i := 902) (by decide +kernel)
theorem mC_X10_play : Cond.code yX10_play cX10_play 3 none ∈ lw_tbl := List.mem_of_getElem? (i := 903) (by decide +kernel)
theorem mM_X10_144 : Cond.methodLink RX10 144 yX10_winsBy ∈ lw_tbl := List.mem_of_getElem? (i := 904) (by decide +kernel)
theorem mV_X10_winsBy : Cond.instanceMethod yX10_winsBy ∈ lw_tbl := List.mem_of_getElem? (i := 906) (by decide +kernel)
theorem mC_X10_winsBy : Cond.code yX10_winsBy cX10_winsBy 4 (some .int) ∈ lw_tbl := List.mem_of_getElem? (i := 907) (by decide +kernel)
theorem mM_L_123 : Cond.methodLink RL 123 yX10_first ∈ lw_tbl := List.mem_of_getElem? (i := 908) (by decide +kernel)
theorem mV_X10_first : Cond.instanceMethod yX10_first ∈ lw_tbl := List.mem_of_getElem? (i := 909) (by decide +kernel)
theorem mE_X10_first : Cond.selects RX10 yX10_first yX10_first ∈ lw_tbl := List.mem_of_getElem? (i := 910) (by decide +kernel)
theorem mC_X10_first : Cond.code yX10_first cX10_first 3 (some .int) ∈ lw_tbl := List.mem_of_getElem? (i := 911) (by decide +kernel)
theorem mM_L_127 : Cond.methodLink RL 127 yX10_count ∈ lw_tbl := List.mem_of_getElem? (i := 912) (by decide +kernel)
theorem mV_X10_count : Cond.instanceMethod yX10_count ∈ lw_tbl := List.mem_of_getElem? (i := 913) (by decide +kernel)
theorem mE_X10_count : Cond.selects RX10 yX10_count yX10_count ∈ lw_tbl := List.mem_of_getElem? (i := 914) (by decide +kernel)
theorem mC_X10_count : Cond.code yX10_count cX10_count 1 (some .int) ∈ lw_tbl := List.mem_of_getElem? (i := 915) (by decide +kernel)
theorem mK_L_89 : Cond.constantLong RL 89 (4294967295 : Int64) ∈ lw_tbl := List.mem_of_getElem? (i := 916) (by decide +kernel)
theorem kl_X0 : ∀ w ∈ u_ws RX0 TX0 3, w ∈ lw_tbl := by decide +kernel
theorem kl_X1 : ∀ w ∈ u_ws RX1 TX1 4, w ∈ lw_tbl := by decide +kernel
theorem kl_X2 : ∀ w ∈ u_ws RX2 TX2 1, w ∈ lw_tbl := by decide +kernel
theorem kl_X3 : ∀ w ∈ u_ws RX3 TX3 4, w ∈ lw_tbl := by decide +kernel
theorem kl_X4 : ∀ w ∈ u_ws RX4 TX4 8, w ∈ lw_tbl := by decide +kernel
theorem kl_X5 : ∀ w ∈ u_ws RX5 TX5 1, w ∈ lw_tbl := by decide +kernel
theorem kl_X6 : ∀ w ∈ u_ws RX6 TX6 3, w ∈ lw_tbl := by decide +kernel
theorem kl_X7 : ∀ w ∈ u_ws RX7 TX7 5, w ∈ lw_tbl := by decide +kernel
theorem kl_X8 : ∀ w ∈ u_ws RX8 TX8 3, w ∈ lw_tbl := by decide +kernel
theorem kl_X9 : ∀ w ∈ u_ws RX9 TX9 9, w ∈ lw_tbl := by decide +kernel
theorem kl_X10 : ∀ w ∈ u_ws RX10 TX10 15, w ∈ lw_tbl := by decide +kernel
end
section
/-! my own small kit: one state of words for all methods, worlds that hang on a state of numbers, readers and writers -/
abbrev ln_S : Type := Nat → Nat → Int32
def ln_up (σ : ln_S) (k : Nat) (f : Nat → Int32) : ln_S := fun j => if j = k then f else σ j
theorem ln_up_s (σ : ln_S) (k : Nat) (f : Nat → Int32) : ln_up σ k f k = f := if_pos rfl
theorem ln_up_n (σ : ln_S) {k j : Nat} (f : Nat → Int32) (h : j ≠ k) : ln_up σ k f j = σ j := if_neg h
abbrev ln_cl : List vw_C := [(RX0, TX0, 3), (RX1, TX1, 4), (RX2, TX2, 1), (RX3, TX3, 4), (RX4, TX4, 8), (RX5, TX5, 1), (RX6, TX6, 3), (RX7, TX7, 5), (RX8, TX8, 3), (RX9, TX9, 9), (RX10, TX10, 15)]
def ln_ty (g : Nat → ClassId) : List (ClassId × FieldType) := [(g 0, .int), (g 1, .boolean), (g 2, .byte), (g 3, .array .int), (g 4, .array .byte)]
def ln_ok (w : Cond) : Bool := goodWord w || ln_nest w
def ln_G (U : State) : Prop := ∀ (a : Array Value) (w : Cond), w ∈ lw_tbl → ln_ok w = true → w.before a U = true
theorem ln_G.warm {s U : State} (hW : s.WarmedH U.vm) (h : ln_G s) : ln_G U := by
  intro a w hw hk
  have h1 := h #[] w hw hk
  by_cases hg : goodWord w = true
  · exact word_at hW (good_of_word hg) h1
  · have hn : ln_nest w = true := by
      unfold ln_ok at hk
      rcases Bool.or_eq_true _ _ ▸ hk with q | q
      · exact absurd q hg
      · exact q
    cases w with
    | fieldLinkNest x1 x2 x3 x4 x5 x6 => exact va_Nw.use rfl (va_Nw.warmF hW (va_Nw.of rfl h1))
    | methodLinkNest x1 x2 x3 x4 => exact va_Nw.use rfl (va_Nw.warmM hW (va_Nw.of rfl h1))
    | _ => exact absurd hn (by simp [ln_nest])
def ln_rm (d : Nat) : Room := { frames := d, cells := 0, slots := 0, locals := 60 * d }
/-- what a method's body has at hand, all along -/
def ln_X (p : Program) (R : Room) (s : State) (m : MethodId) (c : Code) (cc : ByteArray) (nL : Nat) (own : String) (D : va_G) (g : Nat → ClassId) (d : Nat) : Prop :=
  p.tables.exec = Jvm.exec ∧ c.code = cc ∧ c.maxLocals = nL ∧ s.vm.findClass own = some m.cls ∧ va_K D ln_cl (ln_ty g) s ∧ ln_G s ∧ d ≤ R.frames ∧ 60 * d ≤ R.locals
/-- a reader: the heap stays -/
def ln_R (l : Launch) (D : va_G) (g : Nat → ClassId) (ws : va_W) (y : MethodName) (cd : Cond) (d : Nat) (av : List Value) (post : Int32 → Prop) : Prop :=
  Met l y [cd] (ln_rm d) (va_Pc av (fun U => va_P D ln_cl ws U.heap ∧ va_K D ln_cl (ln_ty g) U ∧ ln_G U)) (vp_Si post) 0 0 (fun _ => False)
/-- a writer over a world that hangs on a state: an int comes back -/
def ln_U (l : Launch) (D : va_G) (g : Nat → ClassId) (Wd : ln_S → va_W) (y : MethodName) (cd : Cond) (d : Nat) (av : List Value) (σ : ln_S) (post : Int32 → ln_S → Prop) : Prop :=
  ∀ sz : Nat, Met l y [cd] (ln_rm d) (va_Pc av (fun U => U.heap.size = sz ∧ va_P D ln_cl (Wd σ) U.heap ∧ va_D (fun _ => True) (Wd σ) ∧ va_K D ln_cl (ln_ty g) U ∧ ln_G U)) (va_Qi post (fun τ t => va_P D ln_cl (Wd τ) t.heap) (va_A (Wd σ) sz)) 0 0 (va_A (Wd σ) sz)
/-- the same, nothing comes back -/
def ln_V (l : Launch) (D : va_G) (g : Nat → ClassId) (Wd : ln_S → va_W) (y : MethodName) (cd : Cond) (d : Nat) (av : List Value) (σ : ln_S) (post : ln_S → Prop) : Prop :=
  ∀ sz : Nat, Met l y [cd] (ln_rm d) (va_Pc av (fun U => U.heap.size = sz ∧ va_P D ln_cl (Wd σ) U.heap ∧ va_D (fun _ => True) (Wd σ) ∧ va_K D ln_cl (ln_ty g) U ∧ ln_G U)) (va_Qv post (fun τ t => va_P D ln_cl (Wd τ) t.heap) (va_A (Wd σ) sz)) 0 0 (va_A (Wd σ) sz)
/-- the same, the address ad comes back -/
def ln_F (l : Launch) (D : va_G) (g : Nat → ClassId) (Wd : ln_S → va_W) (y : MethodName) (cd : Cond) (d : Nat) (av : List Value) (σ : ln_S) (ad : Nat) (post : ln_S → Prop) : Prop :=
  ∀ sz : Nat, Met l y [cd] (ln_rm d) (va_Pc av (fun U => U.heap.size = sz ∧ va_P D ln_cl (Wd σ) U.heap ∧ va_D (fun _ => True) (Wd σ) ∧ va_K D ln_cl (ln_ty g) U ∧ ln_G U)) (va_Qr post (fun τ a t => a = ad ∧ va_P D ln_cl (Wd τ) t.heap) (va_A (Wd σ) sz)) 0 0 (va_A (Wd σ) sz)
/-- worlds whose addresses don't hang on the state -/
def ln_ad (Wd : ln_S → va_W) : Prop := ∀ (σ τ : ln_S) (k : Nat) (q : Nat × va_E), (Wd σ)[k]? = some q → ∃ e, (Wd τ)[k]? = some (q.1, e)
theorem ln_ad.D {Wd : ln_S → va_W} (h : ln_ad Wd) {A : Nat → Prop} {σ τ : ln_S} (hD : va_D A (Wd σ)) : va_D A (Wd τ) := by
  refine ⟨fun i j x y hi hj hxy => ?_, fun k q hk => ?_⟩
  · obtain ⟨e1, h1⟩ := h τ σ i x hi
    obtain ⟨e2, h2⟩ := h τ σ j y hj
    exact hD.1 i j _ _ h1 h2 hxy
  · obtain ⟨e1, h1⟩ := h τ σ k q hk
    exact hD.2 k (q.1, e1) h1
theorem ln_ad.A {Wd : ln_S → va_W} (h : ln_ad Wd) {σ : ln_S} (τ : ln_S) {sz q : Nat} (hq : va_A (Wd σ) sz q) : va_A (Wd τ) sz q := by
  rcases hq with ⟨k, e, hk⟩ | hz
  · obtain ⟨e1, h1⟩ := h σ τ k _ hk
    exact Or.inl ⟨k, e1, h1⟩
  · exact Or.inr hz
theorem ln_blind {D : va_G} {g : Nat → ClassId} {ws : va_W} {av : List Value} : FrameBlind (va_Pc av (fun U => va_P D ln_cl ws U.heap ∧ va_K D ln_cl (ln_ty g) U ∧ ln_G U)) := by
  intro a U gf mk q
  obtain ⟨q0, qP, qK, qG⟩ := q
  exact ⟨q0, qP, va_K.moved (u := U) (U := U.calling gf mk a) (Vm.Alike.refl U.vm) qK, ln_G.warm (s := U) (U := U.calling gf mk a) (State.WarmedH.refl U) qG⟩
theorem ln_blindU {D : va_G} {g : Nat → ClassId} {ws : va_W} {av : List Value} {sz : Nat} : FrameBlind (va_Pc av (fun U => U.heap.size = sz ∧ va_P D ln_cl ws U.heap ∧ va_D (fun _ => True) ws ∧ va_K D ln_cl (ln_ty g) U ∧ ln_G U)) := by
  intro a U gf mk q
  obtain ⟨q0, q1, qP, qD, qK, qG⟩ := q
  exact ⟨q0, q1, qP, qD, va_K.moved (u := U) (U := U.calling gf mk a) (Vm.Alike.refl U.vm) qK, ln_G.warm (s := U) (U := U.calling gf mk a) (State.WarmedH.refl U) qG⟩
def ln_yn (y : MethodName) (n : Nat) : Prop := y.cls ≠ "java/lang/invoke/MethodHandle" ∧ y.cls ≠ "java/lang/invoke/VarHandle" ∧ (parseMethodDescriptor y.desc).map (fun d => d.parameters.length) = some n
section LNA
variable {p : Program} {l : Launch} {e : Env} {R : Room} {s : State} {m : MethodId} {args : Array Value} {below : List Frame} {meth : Method} {c : Code} {H : Heap} {locs : List Loc} {cells slots : Nat} {Q : State → Prop}
variable {cc : ByteArray} {nL : Nat} {own : String} {D : va_G} {g : Nat → ClassId} {d : Nat} {pc : Nat} {ls : Array Slot} {rest : List Value}
theorem ln_X.ts (X : ln_X p R s m c cc nL own D g d) (a : Array Value) {w : Cond} (hw : w ∈ lw_tbl) (hk : ln_ok w = true) : w.before a s = true := X.2.2.2.2.2.1 a w hw hk
theorem ln_lays (X : ln_X p R s m c cc nL own D g d) {C : String} {T : u_T} {N : Nat} (hin : ∀ w ∈ u_ws C T N, w ∈ lw_tbl) (w : Cond) (hw : w ∈ u_ws C T N) : w.before args s = true := by
  refine X.ts args (hin w hw) ?_
  obtain ⟨k, -, rfl⟩ := List.mem_map.mp hw
  unfold u_lay
  split <;> rfl
theorem ln_get (X : ln_X p R s m c cc nL own D g d) {ws : va_W} (hP : va_P D ln_cl ws H) (q0 : Nat) {a ci : Nat} {fs : List Value} (he : ws[q0]? = some (a, .inr (ci, fs))) {C : String} {T : u_T} {N : Nat} (hc : ln_cl[ci]? = some (C, T, N)) (hin : ∀ w ∈ u_ws C T N, w ∈ lw_tbl) (k : Nat) (hk : k < N) {index : Nat} (hlink : Cond.fieldLink own index (T k).1 (T k).2.1 (T k).2.2.1 ∈ lw_tbl) {v : Value} (hv : fs[k]? = some v) (hdg : decode cc pc = .ok (.getfield index, 3))
    (kk : W p l e R s m args below meth c H locs cells slots Q (F0 m (pc + 3) ls (v :: rest))) : W p l e R s m args below meth c H locs cells slots Q (F0 m pc ls (.ref a :: rest)) :=
  va_get X.1 X.2.1 (Ts := u_ws C T N) (ln_lays X hin) (fun _ h => h) X.2.2.2.1 X.2.2.2.2.1 hP q0 he hc k hk (X.ts args hlink rfl) (fun _ h => h) hv hdg kk
theorem ln_getN (X : ln_X p R s m c cc nL own D g d) {ws : va_W} (hP : va_P D ln_cl ws H) (q0 : Nat) {a ci : Nat} {fs : List Value} (he : ws[q0]? = some (a, .inr (ci, fs))) {C : String} {T : u_T} {N : Nat} (hc : ln_cl[ci]? = some (C, T, N)) (hin : ∀ w ∈ u_ws C T N, w ∈ lw_tbl) (k : Nat) (hk : k < N) {index : Nat} {host : String} (hlink : Cond.fieldLinkNest own index (T k).1 (T k).2.1 (T k).2.2.1 host ∈ lw_tbl) {v : Value} (hv : fs[k]? = some v) (hdg : decode cc pc = .ok (.getfield index, 3))
    (kk : W p l e R s m args below meth c H locs cells slots Q (F0 m (pc + 3) ls (v :: rest))) : W p l e R s m args below meth c H locs cells slots Q (F0 m pc ls (.ref a :: rest)) :=
  va_getN X.1 X.2.1 (Ts := u_ws C T N) (ln_lays X hin) (fun _ h => h) X.2.2.2.1 X.2.2.2.2.1 hP q0 he hc k hk (X.ts args hlink rfl) (fun _ h => h) hv hdg kk
theorem ln_put (X : ln_X p R s m c cc nL own D g d) {Wd : ln_S → va_W} {σ τ : ln_S} {A : Nat → Prop} {H0 : Heap} (hP : va_P D ln_cl (Wd σ) H) (hD : va_D A (Wd σ)) (hS : va_S A H0 H locs) (q0 : Nat) {a ci : Nat} {fs : List Value} (he : (Wd σ)[q0]? = some (a, .inr (ci, fs))) {C : String} {T : u_T} {N : Nat} (hc : ln_cl[ci]? = some (C, T, N)) (hin : ∀ w ∈ u_ws C T N, w ∈ lw_tbl) (ty0 : Nat → FieldType) (hty : ∀ k, k < N → parseFieldDescriptor (T k).2.2.1 = some (ty0 k)) (hnm : ∀ a, a < N → ∀ b, b < N → a ≠ b → (T a).2.1 ≠ (T b).2.1) (k : Nat) (hk : k < N) {index : Nat} (hlink : Cond.fieldLink own index (T k).1 (T k).2.1 (T k).2.2.1 ∈ lw_tbl) (hfin : (T k).2.2.2 = false) {x : Int32} (hd : parseFieldDescriptor (T k).2.2.1 = some .int) (hl : k < fs.length) (hset : (Wd σ).set q0 (a, .inr (ci, fs.set k (.int x))) = Wd τ) (hdg : decode cc pc = .ok (.putfield index, 3))
    (kk : ∀ (H1 : Heap) (locs1 : List Loc), va_P D ln_cl (Wd τ) H1 → va_D A (Wd τ) → va_S A H0 H1 locs1 → W p l e R s m args below meth c H1 locs1 cells slots Q (F0 m (pc + 3) ls rest)) : W p l e R s m args below meth c H locs cells slots Q (F0 m pc ls (.int x :: .ref a :: rest)) :=
  va_put X.1 X.2.1 (Ts := u_ws C T N) (ln_lays X hin) (fun _ h => h) ty0 hty hnm X.2.2.2.1 X.2.2.2.2.1 hP hD hS q0 he hc k hk (X.ts args hlink rfl) (fun _ h => h) hfin hd rfl rfl hl hdg (fun H1 locs1 h1 h2 h3 => kk H1 locs1 (hset ▸ h1) (hset ▸ h2) h3)
theorem ln_iald (X : ln_X p R s m c cc nL own D g d) {ws : va_W} (hP : va_P D ln_cl ws H) (q0 : Nat) {a n k : Nat} {f : Nat → Int32} (ha : ws[q0]? = some (a, .inl (g 0, n, .inl f))) (hk : k < n) (hn : n < 2 ^ 31) {v : Int32} (hv : f k = v) (hdg : decode cc pc = .ok (.iaload, 1))
    (kk : W p l e R s m args below meth c H locs cells slots Q (F0 m (pc + 1) ls (.int v :: rest))) : W p l e R s m args below meth c H locs cells slots Q (F0 m pc ls (.int (nI k) :: .ref a :: rest)) := by
  refine va_iald X.1 X.2.1 X.2.2.2.2.1 hP q0 0 ha rfl (vp_in_nI hk hn) hdg ?_
  rw [nI_clamp (Nat.lt_trans hk hn), hv]
  exact kk
theorem ln_zald (X : ln_X p R s m c cc nL own D g d) {ws : va_W} (hP : va_P D ln_cl ws H) (q0 : Nat) {a n k : Nat} {f : Nat → Int32} (ha : ws[q0]? = some (a, .inl (g 1, n, .inl f))) (hk : k < n) (hn : n < 2 ^ 31) {v : Int32} (hv : f k = v) (hdg : decode cc pc = .ok (.baload, 1))
    (kk : W p l e R s m args below meth c H locs cells slots Q (F0 m (pc + 1) ls (.int v :: rest))) : W p l e R s m args below meth c H locs cells slots Q (F0 m pc ls (.int (nI k) :: .ref a :: rest)) := by
  refine va_zald X.1 X.2.1 X.2.2.2.2.1 hP q0 1 ha rfl (vp_in_nI hk hn) hdg ?_
  rw [nI_clamp (Nat.lt_trans hk hn), hv]
  exact kk
theorem ln_bald (X : ln_X p R s m c cc nL own D g d) {ws : va_W} (hP : va_P D ln_cl ws H) (q0 : Nat) {a n k : Nat} {f : Nat → Int32} (ha : ws[q0]? = some (a, .inl (g 2, n, .inl f))) (hk : k < n) (hn : n < 2 ^ 31) {v : Int32} (hv : f k = v) (hdg : decode cc pc = .ok (.baload, 1))
    (kk : W p l e R s m args below meth c H locs cells slots Q (F0 m (pc + 1) ls (.int v :: rest))) : W p l e R s m args below meth c H locs cells slots Q (F0 m pc ls (.int (nI k) :: .ref a :: rest)) := by
  refine va_bald X.1 X.2.1 X.2.2.2.2.1 hP q0 2 ha rfl (vp_in_nI hk hn) hdg ?_
  rw [nI_clamp (Nat.lt_trans hk hn), hv]
  exact kk
theorem ln_aald (X : ln_X p R s m c cc nL own D g d) {ws : va_W} (hP : va_P D ln_cl ws H) (q0 t0 : Nat) {a n k : Nat} {f : Nat → Option Nat} {cA : ClassId} {ty : FieldType} (ha : ws[q0]? = some (a, .inl (cA, n, .inr (.inr (.inr (.inr f)))))) (ht : (ln_ty g)[t0]? = some (cA, ty)) (hty : ty.isReference = true) (hk : k < n) (hn : n < 2 ^ 31) {v : Nat} (hv : f k = some v) (hdg : decode cc pc = .ok (.aaload, 1))
    (kk : W p l e R s m args below meth c H locs cells slots Q (F0 m (pc + 1) ls (.ref v :: rest))) : W p l e R s m args below meth c H locs cells slots Q (F0 m pc ls (.int (nI k) :: .ref a :: rest)) := by
  have hc : (nI k).toNatClampNeg = k := nI_clamp (Nat.lt_trans hk hn)
  refine W.aald (v := .ref v) (ty := ty) X.1 X.2.1 (hP q0 _ ha) ((X.2.2.2.2.1.2 t0 _ ht).1 n (fun j => va_rf (f j))) hty (fun q => by cases q) (by show ¬ (nI k < 0 ∨ (arrV _ _ _).slots.size ≤ _); rw [arrV_size]; exact vp_in_nI hk hn) (by show (arrV _ _ _).slots[_]? = _; rw [hc, arrV_read _ _ hk, hv]; rfl) rfl rfl hdg kk
theorem ln_iast (X : ln_X p R s m c cc nL own D g d) {Wd : ln_S → va_W} {σ τ : ln_S} {A : Nat → Prop} {H0 : Heap} (hP : va_P D ln_cl (Wd σ) H) (hD : va_D A (Wd σ)) (hS : va_S A H0 H locs) (q0 : Nat) {a n k : Nat} {f : Nat → Int32} (ha : (Wd σ)[q0]? = some (a, .inl (g 0, n, .inl f))) (hk : k < n) (hn : n < 2 ^ 31) {x : Int32} (hset : (Wd σ).set q0 (a, .inl (g 0, n, .inl (upd f k x))) = Wd τ) (hdg : decode cc pc = .ok (.iastore, 1))
    (kk : ∀ (H1 : Heap) (locs1 : List Loc), va_P D ln_cl (Wd τ) H1 → va_D A (Wd τ) → va_S A H0 H1 locs1 → W p l e R s m args below meth c H1 locs1 cells slots Q (F0 m (pc + 1) ls rest)) : W p l e R s m args below meth c H locs cells slots Q (F0 m pc ls (.int x :: .int (nI k) :: .ref a :: rest)) := by
  have hc : (nI k).toNatClampNeg = k := nI_clamp (Nat.lt_trans hk hn)
  refine va_iast X.1 X.2.1 X.2.2.2.2.1 hP hD hS q0 0 ha rfl (vp_in_nI hk hn) hdg (fun H1 locs1 h1 h2 h3 => ?_)
  rw [hc, hset] at h1 h2
  exact kk H1 locs1 h1 h2 h3
theorem ln_zast (X : ln_X p R s m c cc nL own D g d) {Wd : ln_S → va_W} {σ τ : ln_S} {A : Nat → Prop} {H0 : Heap} (hP : va_P D ln_cl (Wd σ) H) (hD : va_D A (Wd σ)) (hS : va_S A H0 H locs) (q0 : Nat) {a n k : Nat} {f : Nat → Int32} (ha : (Wd σ)[q0]? = some (a, .inl (g 1, n, .inl f))) (hk : k < n) (hn : n < 2 ^ 31) {x : Int32} (hx : vp_nar .boolean x = x) (hset : (Wd σ).set q0 (a, .inl (g 1, n, .inl (upd f k x))) = Wd τ) (hdg : decode cc pc = .ok (.bastore, 1))
    (kk : ∀ (H1 : Heap) (locs1 : List Loc), va_P D ln_cl (Wd τ) H1 → va_D A (Wd τ) → va_S A H0 H1 locs1 → W p l e R s m args below meth c H1 locs1 cells slots Q (F0 m (pc + 1) ls rest)) : W p l e R s m args below meth c H locs cells slots Q (F0 m pc ls (.int x :: .int (nI k) :: .ref a :: rest)) := by
  have hc : (nI k).toNatClampNeg = k := nI_clamp (Nat.lt_trans hk hn)
  refine va_zast X.1 X.2.1 X.2.2.2.2.1 hP hD hS q0 1 ha rfl (vp_in_nI hk hn) hdg (fun H1 locs1 h1 h2 h3 => ?_)
  rw [hc, hx, hset] at h1 h2
  exact kk H1 locs1 h1 h2 h3
theorem ln_bast (X : ln_X p R s m c cc nL own D g d) {Wd : ln_S → va_W} {σ τ : ln_S} {A : Nat → Prop} {H0 : Heap} (hP : va_P D ln_cl (Wd σ) H) (hD : va_D A (Wd σ)) (hS : va_S A H0 H locs) (q0 : Nat) {a n k : Nat} {f : Nat → Int32} (ha : (Wd σ)[q0]? = some (a, .inl (g 2, n, .inl f))) (hk : k < n) (hn : n < 2 ^ 31) {x : Int32} (hx : vp_nar .byte x = x) (hset : (Wd σ).set q0 (a, .inl (g 2, n, .inl (upd f k x))) = Wd τ) (hdg : decode cc pc = .ok (.bastore, 1))
    (kk : ∀ (H1 : Heap) (locs1 : List Loc), va_P D ln_cl (Wd τ) H1 → va_D A (Wd τ) → va_S A H0 H1 locs1 → W p l e R s m args below meth c H1 locs1 cells slots Q (F0 m (pc + 1) ls rest)) : W p l e R s m args below meth c H locs cells slots Q (F0 m pc ls (.int x :: .int (nI k) :: .ref a :: rest)) := by
  have hc : (nI k).toNatClampNeg = k := nI_clamp (Nat.lt_trans hk hn)
  refine va_bast X.1 X.2.1 X.2.2.2.2.1 hP hD hS q0 2 ha rfl (vp_in_nI hk hn) hdg (fun H1 locs1 h1 h2 h3 => ?_)
  rw [hc, hx, hset] at h1 h2
  exact kk H1 locs1 h1 h2 h3
end LNA
end
section
/-! numbers: the machine's ints as naturals -/
def ln_b (b : Bool) : Int32 := if b then 1 else 0
/-- a without b, as sets -/
def ln_df (a b : Nat) : Nat := a ^^^ (a &&& b)
theorem ln_df_bit (a b i : Nat) : (ln_df a b).testBit i = (a.testBit i && !b.testBit i) := by
  unfold ln_df
  rw [Nat.testBit_xor, Nat.testBit_and]
  cases a.testBit i <;> cases b.testBit i <;> rfl
theorem ln_and (a b : Nat) : nI a &&& nI b = nI (a &&& b) := by
  apply Int32.toBitVec_inj.1
  show BitVec.ofNat 32 a &&& BitVec.ofNat 32 b = BitVec.ofNat 32 (a &&& b)
  apply BitVec.eq_of_getLsbD_eq
  intro i hi
  simp [hi]
theorem ln_or (a b : Nat) : nI a ||| nI b = nI (a ||| b) := by
  apply Int32.toBitVec_inj.1
  show BitVec.ofNat 32 a ||| BitVec.ofNat 32 b = BitVec.ofNat 32 (a ||| b)
  apply BitVec.eq_of_getLsbD_eq
  intro i hi
  simp [hi]
theorem ln_nt (a b : Nat) : nI a &&& (nI b ^^^ (-1)) = nI (ln_df a b) := by
  apply Int32.toBitVec_inj.1
  show BitVec.ofNat 32 a &&& (BitVec.ofNat 32 b ^^^ BitVec.allOnes 32) = BitVec.ofNat 32 (ln_df a b)
  apply BitVec.eq_of_getLsbD_eq
  intro i hi
  rw [BitVec.getLsbD_and, BitVec.getLsbD_xor, BitVec.getLsbD_allOnes, BitVec.getLsbD_ofNat, BitVec.getLsbD_ofNat, BitVec.getLsbD_ofNat, ln_df_bit]
  simp [hi]
theorem ln_sl : ∀ n, n < 31 → (1 : Int32) <<< (nI n &&& 31) = nI (2 ^ n) := by decide +kernel
theorem ln_sm : ∀ n, n < 32 → ((nI n &&& 31).toBitVec.smod 32).toNat = n := by decide +kernel
theorem ln_sr {a n : Nat} (ha : a < 2 ^ 31) (hn : n < 32) : nI a >>> (nI n &&& 31) = nI (a >>> n) := by
  rw [pk_shrN ha _ n (ln_sm n hn), Nat.shiftRight_eq_div_pow]
theorem ln_and_lt {a b N : Nat} (ha : a < N) : a &&& b < N := Nat.lt_of_le_of_lt Nat.and_le_left ha
theorem ln_df_le (a b : Nat) : ln_df a b ≤ a := by
  apply Nat.le_of_testBit
  intro i
  rw [ln_df_bit]
  cases a.testBit i <;> simp
theorem ln_df_lt {a b N : Nat} (ha : a < N) : ln_df a b < N := Nat.lt_of_le_of_lt (ln_df_le a b) ha
theorem ln_or_lt {a b : Nat} (k : Nat) (ha : a < 2 ^ k) (hb : b < 2 ^ k) : a ||| b < 2 ^ k := Nat.or_lt_two_pow ha hb
theorem ln_dec {s : Nat} : nI s &&& (nI s - 1) = nI (s &&& (s - 1)) := by
  cases s with
  | zero => decide
  | succ k => rw [nI_pred, ln_and]; rfl
theorem ln_shr_and (a n : Nat) : (a >>> n) &&& 1 = if a.testBit n then 1 else 0 := by
  rw [Nat.testBit, Nat.and_comm 1]
  have h : (a >>> n) &&& 1 = (a >>> n) % 2 := Nat.and_one_is_mod _
  rw [h]
  rcases Nat.mod_two_eq_zero_or_one (a >>> n) with q | q <;> rw [q] <;> rfl
theorem ln_nb (b : Bool) : nI (if b then 1 else 0) = ln_b b := by cases b <;> rfl
theorem ln_b_in (b : Bool) : ln_b b = nI (if b then 1 else 0) := by cases b <;> rfl
theorem ln_b_nar (b : Bool) : narrow .boolean (.int (ln_b b)) = .int (ln_b b) := by cases b <;> rfl
theorem ln_b_zar (b : Bool) : vp_nar .boolean (ln_b b) = ln_b b := by cases b <;> rfl
theorem ln_b_bar (b : Bool) : vp_nar .byte (ln_b b) = ln_b b := by cases b <;> rfl
section LNB
variable {p : Program} {l : Launch} {e : Env} {R : Room} {s : State} {m : MethodId} {args : Array Value} {below : List Frame} {meth : Method} {c : Code} {H : Heap} {locs : List Loc} {cells slots : Nat} {Q : State → Prop}
variable {cc : ByteArray} {nL : Nat} {own : String} {D : va_G} {g : Nat → ClassId} {d : Nat} {pc : Nat} {ls : Array Slot} {rest : List Value}
theorem rn_add (X : ln_X p R s m c cc nL own D g d) {a b : Nat} (hdg : decode cc pc = .ok (.iadd, 1)) (kk : W p l e R s m args below meth c H locs cells slots Q (F0 m (pc + 1) ls (.int (nI (a + b)) :: rest))) : W p l e R s m args below meth c H locs cells slots Q (F0 m pc ls (.int (nI b) :: .int (nI a) :: rest)) :=
  lv_iadd X.1 X.2.1 hdg (by rw [nI_add]; exact kk)
theorem rn_sub (X : ln_X p R s m c cc nL own D g d) {a b : Nat} (h : b ≤ a) (hdg : decode cc pc = .ok (.isub, 1)) (kk : W p l e R s m args below meth c H locs cells slots Q (F0 m (pc + 1) ls (.int (nI (a - b)) :: rest))) : W p l e R s m args below meth c H locs cells slots Q (F0 m pc ls (.int (nI b) :: .int (nI a) :: rest)) :=
  lv_isub X.1 X.2.1 hdg (by rw [pk_sub h]; exact kk)
theorem rn_mul (X : ln_X p R s m c cc nL own D g d) {a b : Nat} (hdg : decode cc pc = .ok (.imul, 1)) (kk : W p l e R s m args below meth c H locs cells slots Q (F0 m (pc + 1) ls (.int (nI (a * b)) :: rest))) : W p l e R s m args below meth c H locs cells slots Q (F0 m pc ls (.int (nI b) :: .int (nI a) :: rest)) :=
  lv_imul X.1 X.2.1 hdg (by rw [pk_mul]; exact kk)
theorem rn_and (X : ln_X p R s m c cc nL own D g d) {a b : Nat} (hdg : decode cc pc = .ok (.iand, 1)) (kk : W p l e R s m args below meth c H locs cells slots Q (F0 m (pc + 1) ls (.int (nI (a &&& b)) :: rest))) : W p l e R s m args below meth c H locs cells slots Q (F0 m pc ls (.int (nI b) :: .int (nI a) :: rest)) :=
  lv_iand X.1 X.2.1 hdg (by rw [ln_and]; exact kk)
theorem rn_or (X : ln_X p R s m c cc nL own D g d) {a b : Nat} (hdg : decode cc pc = .ok (.ior, 1)) (kk : W p l e R s m args below meth c H locs cells slots Q (F0 m (pc + 1) ls (.int (nI (a ||| b)) :: rest))) : W p l e R s m args below meth c H locs cells slots Q (F0 m pc ls (.int (nI b) :: .int (nI a) :: rest)) :=
  lv_ior X.1 X.2.1 hdg (by rw [ln_or]; exact kk)
theorem rn_nt (X : ln_X p R s m c cc nL own D g d) {a b : Nat} (hdg : decode cc pc = .ok (.iand, 1)) (kk : W p l e R s m args below meth c H locs cells slots Q (F0 m (pc + 1) ls (.int (nI (ln_df a b)) :: rest))) : W p l e R s m args below meth c H locs cells slots Q (F0 m pc ls (.int (nI b ^^^ (-1)) :: .int (nI a) :: rest)) :=
  lv_iand X.1 X.2.1 hdg (by rw [ln_nt]; exact kk)
theorem rn_dec (X : ln_X p R s m c cc nL own D g d) {a : Nat} (hdg : decode cc pc = .ok (.iand, 1)) (kk : W p l e R s m args below meth c H locs cells slots Q (F0 m (pc + 1) ls (.int (nI (a &&& (a - 1))) :: rest))) : W p l e R s m args below meth c H locs cells slots Q (F0 m pc ls (.int (nI a - nI 1) :: .int (nI a) :: rest)) :=
  lv_iand X.1 X.2.1 hdg (by rw [show nI 1 = 1 from rfl, ln_dec]; exact kk)
theorem rn_shl (X : ln_X p R s m c cc nL own D g d) {b : Nat} (h : b < 31) (hdg : decode cc pc = .ok (.ishl, 1)) (kk : W p l e R s m args below meth c H locs cells slots Q (F0 m (pc + 1) ls (.int (nI (2 ^ b)) :: rest))) : W p l e R s m args below meth c H locs cells slots Q (F0 m pc ls (.int (nI b) :: .int (nI 1) :: rest)) :=
  lv_ishl X.1 X.2.1 hdg (by rw [show nI 1 = 1 from rfl, ln_sl b h]; exact kk)
theorem rn_shr (X : ln_X p R s m c cc nL own D g d) {a b : Nat} (ha : a < 2 ^ 31) (h : b < 32) (hdg : decode cc pc = .ok (.ishr, 1)) (kk : W p l e R s m args below meth c H locs cells slots Q (F0 m (pc + 1) ls (.int (nI (a >>> b)) :: rest))) : W p l e R s m args below meth c H locs cells slots Q (F0 m pc ls (.int (nI b) :: .int (nI a) :: rest)) :=
  lv_ishr X.1 X.2.1 hdg (by rw [ln_sr ha h]; exact kk)
theorem rn_ge (X : ln_X p R s m c cc nL own D g d) {a b : Nat} {off : Int} {tgt : Nat} (ha : a < 2 ^ 31) (hb : b < 2 ^ 31) (hdg : decode cc pc = .ok (.if_icmp .ge off, 3)) (ht : (pc : Int) + off = (tgt : Int))
    (kt : b ≤ a → W p l e R s m args below meth c H locs cells slots Q (F0 m tgt ls rest)) (kf : a < b → W p l e R s m args below meth c H locs cells slots Q (F0 m (pc + 3) ls rest)) : W p l e R s m args below meth c H locs cells slots Q (F0 m pc ls (.int (nI b) :: .int (nI a) :: rest)) :=
  lv_icmp_ge X.1 X.2.1 hdg ht (fun h => kt ((nI_leI hb ha).mp h)) (fun h => kf (Nat.lt_of_not_le (fun q => h ((nI_leI hb ha).mpr q))))
theorem rn_le (X : ln_X p R s m c cc nL own D g d) {a b : Nat} {off : Int} {tgt : Nat} (ha : a < 2 ^ 31) (hb : b < 2 ^ 31) (hdg : decode cc pc = .ok (.if_icmp .le off, 3)) (ht : (pc : Int) + off = (tgt : Int))
    (kt : a ≤ b → W p l e R s m args below meth c H locs cells slots Q (F0 m tgt ls rest)) (kf : b < a → W p l e R s m args below meth c H locs cells slots Q (F0 m (pc + 3) ls rest)) : W p l e R s m args below meth c H locs cells slots Q (F0 m pc ls (.int (nI b) :: .int (nI a) :: rest)) :=
  lv_icmp_le X.1 X.2.1 hdg ht (fun h => kt ((nI_leI ha hb).mp h)) (fun h => kf (Nat.lt_of_not_le (fun q => h ((nI_leI ha hb).mpr q))))
theorem rn_lt (X : ln_X p R s m c cc nL own D g d) {a b : Nat} {off : Int} {tgt : Nat} (ha : a < 2 ^ 31) (hb : b < 2 ^ 31) (hdg : decode cc pc = .ok (.if_icmp .lt off, 3)) (ht : (pc : Int) + off = (tgt : Int))
    (kt : a < b → W p l e R s m args below meth c H locs cells slots Q (F0 m tgt ls rest)) (kf : b ≤ a → W p l e R s m args below meth c H locs cells slots Q (F0 m (pc + 3) ls rest)) : W p l e R s m args below meth c H locs cells slots Q (F0 m pc ls (.int (nI b) :: .int (nI a) :: rest)) :=
  lv_icmp_lt X.1 X.2.1 hdg ht (fun h => kt ((nI_ltI ha hb).mp h)) (fun h => kf (Nat.le_of_not_lt (fun q => h ((nI_ltI ha hb).mpr q))))
theorem rn_gt (X : ln_X p R s m c cc nL own D g d) {a b : Nat} {off : Int} {tgt : Nat} (ha : a < 2 ^ 31) (hb : b < 2 ^ 31) (hdg : decode cc pc = .ok (.if_icmp .gt off, 3)) (ht : (pc : Int) + off = (tgt : Int))
    (kt : b < a → W p l e R s m args below meth c H locs cells slots Q (F0 m tgt ls rest)) (kf : a ≤ b → W p l e R s m args below meth c H locs cells slots Q (F0 m (pc + 3) ls rest)) : W p l e R s m args below meth c H locs cells slots Q (F0 m pc ls (.int (nI b) :: .int (nI a) :: rest)) :=
  lv_icmp_gt X.1 X.2.1 hdg ht (fun h => kt ((nI_ltI hb ha).mp h)) (fun h => kf (Nat.le_of_not_lt (fun q => h ((nI_ltI hb ha).mpr q))))
theorem rn_eq (X : ln_X p R s m c cc nL own D g d) {a b : Nat} {off : Int} {tgt : Nat} (ha : a < 2 ^ 31) (hb : b < 2 ^ 31) (hdg : decode cc pc = .ok (.if_icmp .eq off, 3)) (ht : (pc : Int) + off = (tgt : Int))
    (kt : a = b → W p l e R s m args below meth c H locs cells slots Q (F0 m tgt ls rest)) (kf : a ≠ b → W p l e R s m args below meth c H locs cells slots Q (F0 m (pc + 3) ls rest)) : W p l e R s m args below meth c H locs cells slots Q (F0 m pc ls (.int (nI b) :: .int (nI a) :: rest)) :=
  lv_icmp_eq X.1 X.2.1 hdg ht (fun h => kt ((nI_eq ha hb).mp h)) (fun h => kf (fun q => h ((nI_eq ha hb).mpr q)))
theorem rn_ne (X : ln_X p R s m c cc nL own D g d) {a b : Nat} {off : Int} {tgt : Nat} (ha : a < 2 ^ 31) (hb : b < 2 ^ 31) (hdg : decode cc pc = .ok (.if_icmp .ne off, 3)) (ht : (pc : Int) + off = (tgt : Int))
    (kt : a ≠ b → W p l e R s m args below meth c H locs cells slots Q (F0 m tgt ls rest)) (kf : a = b → W p l e R s m args below meth c H locs cells slots Q (F0 m (pc + 3) ls rest)) : W p l e R s m args below meth c H locs cells slots Q (F0 m pc ls (.int (nI b) :: .int (nI a) :: rest)) :=
  lv_icmp_ne X.1 X.2.1 hdg ht (fun h => kt (fun q => h ((nI_eq ha hb).mpr q))) (fun h => kf ((nI_eq ha hb).mp h))
theorem rn_eq0 (X : ln_X p R s m c cc nL own D g d) {a : Nat} {off : Int} {tgt : Nat} (ha : a < 2 ^ 31) (hdg : decode cc pc = .ok (.ifCond .eq off, 3)) (ht : (pc : Int) + off = (tgt : Int))
    (kt : a = 0 → W p l e R s m args below meth c H locs cells slots Q (F0 m tgt ls rest)) (kf : a ≠ 0 → W p l e R s m args below meth c H locs cells slots Q (F0 m (pc + 3) ls rest)) : W p l e R s m args below meth c H locs cells slots Q (F0 m pc ls (.int (nI a) :: rest)) :=
  lv_if_eq X.1 X.2.1 hdg ht (fun h => kt ((nI_eq ha (by decide)).mp h)) (fun h => kf (fun q => h (by rw [q]; rfl)))
theorem rn_ne0 (X : ln_X p R s m c cc nL own D g d) {a : Nat} {off : Int} {tgt : Nat} (ha : a < 2 ^ 31) (hdg : decode cc pc = .ok (.ifCond .ne off, 3)) (ht : (pc : Int) + off = (tgt : Int))
    (kt : a ≠ 0 → W p l e R s m args below meth c H locs cells slots Q (F0 m tgt ls rest)) (kf : a = 0 → W p l e R s m args below meth c H locs cells slots Q (F0 m (pc + 3) ls rest)) : W p l e R s m args below meth c H locs cells slots Q (F0 m pc ls (.int (nI a) :: rest)) :=
  lv_if_ne X.1 X.2.1 hdg ht (fun h => kt (fun q => h (by rw [q]; rfl))) (fun h => kf ((nI_eq ha (by decide)).mp h))
theorem rn_lt0 (X : ln_X p R s m c cc nL own D g d) {a : Nat} {off : Int} {tgt : Nat} (ha : a < 2 ^ 31) (hdg : decode cc pc = .ok (.ifCond .lt off, 3)) (ht : (pc : Int) + off = (tgt : Int))
    (kf : W p l e R s m args below meth c H locs cells slots Q (F0 m (pc + 3) ls rest)) : W p l e R s m args below meth c H locs cells slots Q (F0 m pc ls (.int (nI a) :: rest)) :=
  lv_if_lt X.1 X.2.1 hdg ht (fun h => absurd h (nI_pos ha)) (fun _ => kf)
theorem rn_ge0 (X : ln_X p R s m c cc nL own D g d) {a : Nat} {off : Int} {tgt : Nat} (ha : a < 2 ^ 31) (hdg : decode cc pc = .ok (.ifCond .ge off, 3)) (ht : (pc : Int) + off = (tgt : Int))
    (kt : W p l e R s m args below meth c H locs cells slots Q (F0 m tgt ls rest)) : W p l e R s m args below meth c H locs cells slots Q (F0 m pc ls (.int (nI a) :: rest)) :=
  lv_if_ge X.1 X.2.1 hdg ht (fun _ => kt) (fun h => absurd (nI_pos' ha) h)
theorem rn_le0 (X : ln_X p R s m c cc nL own D g d) {a : Nat} {off : Int} {tgt : Nat} (ha : a < 2 ^ 31) (hdg : decode cc pc = .ok (.ifCond .le off, 3)) (ht : (pc : Int) + off = (tgt : Int))
    (kt : a = 0 → W p l e R s m args below meth c H locs cells slots Q (F0 m tgt ls rest)) (kf : a ≠ 0 → W p l e R s m args below meth c H locs cells slots Q (F0 m (pc + 3) ls rest)) : W p l e R s m args below meth c H locs cells slots Q (F0 m pc ls (.int (nI a) :: rest)) :=
  lv_if_le X.1 X.2.1 hdg ht (fun h => kt (Nat.le_zero.mp ((nI_leI ha (by decide)).mp h))) (fun h => kf (fun q => h (by rw [q]; decide)))
theorem rn_gt0 (X : ln_X p R s m c cc nL own D g d) {a : Nat} {off : Int} {tgt : Nat} (ha : a < 2 ^ 31) (hdg : decode cc pc = .ok (.ifCond .gt off, 3)) (ht : (pc : Int) + off = (tgt : Int))
    (kt : a ≠ 0 → W p l e R s m args below meth c H locs cells slots Q (F0 m tgt ls rest)) (kf : a = 0 → W p l e R s m args below meth c H locs cells slots Q (F0 m (pc + 3) ls rest)) : W p l e R s m args below meth c H locs cells slots Q (F0 m pc ls (.int (nI a) :: rest)) :=
  lv_if_gt X.1 X.2.1 hdg ht (fun h => kt (fun q => absurd h (by rw [q]; decide))) (fun h => kf (Decidable.byContradiction (fun q => h (nI_lt (Nat.pos_of_ne_zero q) ha))))
theorem rn_eqB (X : ln_X p R s m c cc nL own D g d) {a : Bool} {off : Int} {tgt : Nat} (hdg : decode cc pc = .ok (.ifCond .eq off, 3)) (ht : (pc : Int) + off = (tgt : Int))
    (kt : a = false → W p l e R s m args below meth c H locs cells slots Q (F0 m tgt ls rest)) (kf : a = true → W p l e R s m args below meth c H locs cells slots Q (F0 m (pc + 3) ls rest)) : W p l e R s m args below meth c H locs cells slots Q (F0 m pc ls (.int (ln_b a) :: rest)) :=
  lv_if_eq X.1 X.2.1 hdg ht (fun h => kt (by cases a with | false => rfl | true => exact absurd h (by decide))) (fun h => kf (by cases a with | true => rfl | false => exact absurd rfl h))
theorem rn_neB (X : ln_X p R s m c cc nL own D g d) {a : Bool} {off : Int} {tgt : Nat} (hdg : decode cc pc = .ok (.ifCond .ne off, 3)) (ht : (pc : Int) + off = (tgt : Int))
    (kt : a = true → W p l e R s m args below meth c H locs cells slots Q (F0 m tgt ls rest)) (kf : a = false → W p l e R s m args below meth c H locs cells slots Q (F0 m (pc + 3) ls rest)) : W p l e R s m args below meth c H locs cells slots Q (F0 m pc ls (.int (ln_b a) :: rest)) :=
  lv_if_ne X.1 X.2.1 hdg ht (fun h => kt (by cases a with | true => rfl | false => exact absurd rfl h)) (fun h => kf (by cases a with | false => rfl | true => exact absurd h (by decide)))
theorem rn_top {x y : Int32} (h : x = y) (kk : W p l e R s m args below meth c H locs cells slots Q (F0 m pc ls (.int y :: rest))) : W p l e R s m args below meth c H locs cells slots Q (F0 m pc ls (.int x :: rest)) := h ▸ kk
theorem rn_inc {k : Nat} : nI k + Int32.ofInt 1 = nI (k + 1) := nI_1 k
theorem rn_inm {k : Nat} (h : 0 < k) : nI k + Int32.ofInt (-1) = nI (k - 1) := sb_m1 h
end LNB
end
section
/-! calls, entries and ends -/
def ln_Y (y : MethodName) (bytes : ByteArray) (maxL n : Nat) (ret : Option FieldType) (C : String) : Prop := Cond.instanceMethod y ∈ lw_tbl ∧ Cond.selects C y y ∈ lw_tbl ∧ Cond.initialized y.cls ∈ lw_tbl ∧ Cond.code y bytes maxL ret ∈ lw_tbl ∧ ln_yn y n ∧ maxL ≤ 40
def ln_Z (y : MethodName) (bytes : ByteArray) (maxL n : Nat) (ret : Option FieldType) : Prop := Cond.static y ∈ lw_tbl ∧ Cond.initialized y.cls ∈ lw_tbl ∧ Cond.code y bytes maxL ret ∈ lw_tbl ∧ ln_yn y n ∧ maxL ≤ 40
section LNC
variable {p : Program} {l : Launch} {e : Env} {R : Room} {s : State} {m : MethodId} {args : Array Value} {below : List Frame} {meth : Method} {c : Code} {H : Heap} {locs : List Loc} {cells slots : Nat} {Q : State → Prop}
variable {cc : ByteArray} {nL : Nat} {own : String} {D : va_G} {g : Nat → ClassId} {d : Nat} {pc : Nat} {ls : Array Slot} {rest st : List Value}
theorem ln_nil : va_P D ln_cl [] H := fun k q h => by simp at h
theorem ln_cb (X : ln_X p R s m c cc nL own D g d) {y : MethodName} {bytes : ByteArray} {maxL n index d' : Nat} {ret : Option FieldType} (h1 : Cond.initialized y.cls ∈ lw_tbl) (h2 : Cond.code y bytes maxL ret ∈ lw_tbl) (h3 : ln_yn y n) (h4 : maxL ≤ 40) (hd : d' + 1 ≤ d) (hl : Cond.methodLink own index y ∈ lw_tbl) :
    CallB R s args own index y bytes maxL ret [Cond.code y bytes maxL ret] (ln_rm d') 0 0 n := by
  refine ⟨rfl, rfl, Nat.le_trans hd X.2.2.2.2.2.2.1, ?_, ?_, List.mem_singleton.mpr rfl, X.ts args h2 rfl, X.ts args h1 rfl, ⟨h3.1, h3.2.1⟩, ?_, X.ts args hl rfl⟩
  · have := X.2.2.2.2.2.2.2
    show 8 + (maxL + 11) + 60 * d' ≤ R.locals
    omega
  · intro w hw a' U hW
    rw [List.mem_singleton.mp hw]
    exact (ln_G.warm hW X.2.2.2.2.2.1) a' _ h2 rfl
  · intro sig h
    have h5 := h3.2.2
    rw [h] at h5
    exact (Option.some.inj h5).symm
theorem ln_vR (X : ln_X p R s m c cc nL own D g d) {y : MethodName} {bytes : ByteArray} {maxL n index d' b : Nat} {ret : Option FieldType} {As : List Value} {ws : va_W} {post : Int32 → Prop} (hM : ln_R l D g ws y (.code y bytes maxL ret) d' (.ref b :: As) post) (hP : va_P D ln_cl ws H) (q0 : Nat) {ci : Nat} {r : vw_C} {fs : List Value} (he : ws[q0]? = some (b, .inr (ci, fs))) (hc : ln_cl[ci]? = some r) (hl : Cond.methodLink own index y ∈ lw_tbl) (hY : ln_Y y bytes maxL n ret r.1) (hn : As.length = n) (hd : d' + 1 ≤ d) (hls : ls.size = nL) (hst : st = As.reverse ++ .ref b :: rest) (hr : (rest.map fun v => v.category).sum ≤ 8) (hdg : decode cc pc = .ok (.invokevirtual index, 3))
    (hf : cells ≤ R.cells ∧ slots ≤ R.slots) (kk : ∀ r : Int32, post r → W p l e R s m args below meth c H locs cells slots Q (F0 m (pc + 3) ls (.int r :: rest))) : W p l e R s m args below meth c H locs cells slots Q (F0 m pc ls st) :=
  vp_callSi (W.runV (Ts := []) (As := As) ⟨X.1, X.2.1, X.2.2.1, X.2.2.2.1, fun _ h => absurd h List.not_mem_nil⟩ hM ⟨ln_cb X hY.2.2.1 hY.2.2.2.1 hY.2.2.2.2.1 hY.2.2.2.2.2 hd hl, X.ts args hY.1 rfl, X.ts args hY.2.1 rfl⟩ ⟨ln_blind, va_recv X.2.2.2.2.1 hP hc he, fun U hU hW => ⟨rfl, by rw [hU]; exact hP, va_K.moved hW.alike X.2.2.2.2.1, ln_G.warm hW X.2.2.2.2.2.1⟩⟩ rfl hn hls hst (lv_room hr) hdg hf) kk
theorem ln_sR (X : ln_X p R s m c cc nL own D g d) {y : MethodName} {bytes : ByteArray} {maxL n index d' : Nat} {ret : Option FieldType} {As : List Value} {ws : va_W} {post : Int32 → Prop} (hM : ln_R l D g ws y (.code y bytes maxL ret) d' As post) (hP : va_P D ln_cl ws H) (hl : Cond.methodLink own index y ∈ lw_tbl) (hY : ln_Z y bytes maxL n ret) (hn : As.length = n) (hd : d' + 1 ≤ d) (hls : ls.size = nL) (hst : st = As.reverse ++ rest) (hr : (rest.map fun v => v.category).sum ≤ 8) (hdg : decode cc pc = .ok (.invokestatic index, 3))
    (hf : cells ≤ R.cells ∧ slots ≤ R.slots) (kk : ∀ r : Int32, post r → W p l e R s m args below meth c H locs cells slots Q (F0 m (pc + 3) ls (.int r :: rest))) : W p l e R s m args below meth c H locs cells slots Q (F0 m pc ls st) :=
  vp_callSi (W.runS (Ts := []) (As := As) ⟨X.1, X.2.1, X.2.2.1, X.2.2.2.1, fun _ h => absurd h List.not_mem_nil⟩ hM ⟨ln_cb X hY.2.1 hY.2.2.1 hY.2.2.2.1 hY.2.2.2.2 hd hl, X.ts args hY.1 rfl⟩ ⟨ln_blind, fun U hU hW => ⟨rfl, by rw [hU]; exact hP, va_K.moved hW.alike X.2.2.2.2.1, ln_G.warm hW X.2.2.2.2.2.1⟩⟩ rfl hn hls hst (lv_room hr) hdg hf) kk
theorem ln_nR (X : ln_X p R s m c cc nL own D g d) {y : MethodName} {bytes : ByteArray} {maxL n index d' : Nat} {ret : Option FieldType} {host : String} {As : List Value} {ws : va_W} {post : Int32 → Prop} (hM : ln_R l D g ws y (.code y bytes maxL ret) d' As post) (hP : va_P D ln_cl ws H) (hl : Cond.methodLinkNest own index y host ∈ lw_tbl) (hY : ln_Z y bytes maxL n ret) (hn : As.length = n) (hd : d' + 1 ≤ d) (hls : ls.size = nL) (hst : st = As.reverse ++ rest) (hr : (rest.map fun v => v.category).sum ≤ 8) (hdg : decode cc pc = .ok (.invokestatic index, 3))
    (hf : cells ≤ R.cells ∧ slots ≤ R.slots) (kk : ∀ r : Int32, post r → W p l e R s m args below meth c H locs cells slots Q (F0 m (pc + 3) ls (.int r :: rest))) : W p l e R s m args below meth c H locs cells slots Q (F0 m pc ls st) := by
  have hloc : 8 + (maxL + 11) + 60 * d' ≤ R.locals := by
    have := X.2.2.2.2.2.2.2
    have := hY.2.2.2.2
    omega
  have hrun := va_runSN (Ts := []) (As := As) (rest := rest) (H := H) (locs := locs) (cells := cells) (slots := slots) (e := e) (below := below) (meth := meth) (g := F0 m pc ls st) (args := args) (R := R) (nL := nL) (maxL := maxL) (n := n) (index := index) (host := host) ⟨X.1, X.2.1, X.2.2.1, X.2.2.2.1, fun _ h => absurd h List.not_mem_nil⟩ hM
    ⟨⟨⟨rfl, rfl, Nat.le_trans hd X.2.2.2.2.2.2.1, hloc, (fun w hw a' U hW => by rw [List.mem_singleton.mp hw]; exact (ln_G.warm hW X.2.2.2.2.2.1) a' _ hY.2.2.1 rfl), List.mem_singleton.mpr rfl⟩, X.ts args hY.2.2.1 rfl, X.ts args hY.2.1 rfl, ⟨hY.2.2.2.1.1, hY.2.2.2.1.2.1⟩, (fun sig h => by have h5 := hY.2.2.2.1.2.2; rw [h] at h5; exact (Option.some.inj h5).symm), X.ts args hl rfl⟩, X.ts args hY.1 rfl, trivial⟩
    ⟨ln_blind, fun U hU hW => ⟨rfl, by rw [hU]; exact hP, va_K.moved hW.alike X.2.2.2.2.1, ln_G.warm hW X.2.2.2.2.2.1⟩⟩ rfl hn hls hst (lv_room hr) hdg hf
  intro T hT Xs
  obtain ⟨v, st₀, t, T', L, h0, X', hL, e1, e2, ⟨r, hv, hp, hh⟩, stp⟩ := hrun T hT Xs
  cases hv
  obtain ⟨t2, a1, b1⟩ := kk r hp T' (by rw [e1, hh, h0]) (Stand.forget X' (fun q h => (hL q h).elim))
  exact ⟨t2, stp t2 a1, b1⟩
/-- a writer is called by a writer over the same world -/
theorem ln_vU (X : ln_X p R s m c cc nL own D g d) {Wd : ln_S → va_W} (had : ln_ad Wd) {σ : ln_S} {A : Nat → Prop} (hA : ∀ q, s.heap.size ≤ q → A q) {y : MethodName} {bytes : ByteArray} {maxL n index d' b : Nat} {ret : Option FieldType} {As : List Value} {post : Int32 → ln_S → Prop} (hM : ln_U l D g Wd y (.code y bytes maxL ret) d' (.ref b :: As) σ post) (hP : va_P D ln_cl (Wd σ) H) (hD : va_D A (Wd σ)) (hS : va_S A s.heap H locs) (q0 : Nat) {ci : Nat} {r : vw_C} {fs : List Value} (he : (Wd σ)[q0]? = some (b, .inr (ci, fs))) (hc : ln_cl[ci]? = some r) (hl : Cond.methodLink own index y ∈ lw_tbl) (hY : ln_Y y bytes maxL n ret r.1) (hn : As.length = n) (hd : d' + 1 ≤ d) (hls : ls.size = nL) (hst : st = As.reverse ++ .ref b :: rest) (hr : (rest.map fun v => v.category).sum ≤ 8) (hdg : decode cc pc = .ok (.invokevirtual index, 3))
    (hf : cells ≤ R.cells ∧ slots ≤ R.slots) (kk : ∀ (r : Int32) (τ : ln_S) (H1 : Heap) (locs1 : List Loc), post r τ → va_P D ln_cl (Wd τ) H1 → va_D A (Wd τ) → va_S A s.heap H1 locs1 → W p l e R s m args below meth c H1 locs1 cells slots Q (F0 m (pc + 3) ls (.int r :: rest))) : W p l e R s m args below meth c H locs cells slots Q (F0 m pc ls st) := by
  have hfr : ∀ q, va_A (Wd σ) H.size q → A q := fun q h => by
    rcases h with ⟨k, e9, h⟩ | h
    · exact hD.2 k _ h
    · exact hA q (Nat.le_trans hS.1 h)
  refine va_calli (va_runV (Ts := []) (As := As) ⟨X.1, X.2.1, X.2.2.1, X.2.2.2.1, fun _ h => absurd h List.not_mem_nil⟩ (hM H.size) ⟨ln_cb X hY.2.2.1 hY.2.2.2.1 hY.2.2.2.2.1 hY.2.2.2.2.2 hd hl, X.ts args hY.1 rfl, X.ts args hY.2.1 rfl⟩ ⟨ln_blindU, va_recv X.2.2.2.2.1 hP hc he, fun U hU hW => ⟨rfl, by rw [hU], by rw [hU]; exact hP, hD.weaken (fun _ _ _ _ => trivial), va_K.moved hW.alike X.2.2.2.2.1, ln_G.warm hW X.2.2.2.2.2.1⟩⟩ rfl hn hls hst (lv_room hr) hdg hf) hS (fun q _ h => hfr q h) hfr (fun r τ t H1 locs1 ht hvm hp hB hz hk hS1 => ?_)
  exact kk r τ H1 locs1 hp (by rw [← ht]; exact hB) (had.D hD) hS1
theorem ln_vV (X : ln_X p R s m c cc nL own D g d) {Wd : ln_S → va_W} (had : ln_ad Wd) {σ : ln_S} {A : Nat → Prop} (hA : ∀ q, s.heap.size ≤ q → A q) {y : MethodName} {bytes : ByteArray} {maxL n index d' b : Nat} {ret : Option FieldType} {As : List Value} {post : ln_S → Prop} (hM : ln_V l D g Wd y (.code y bytes maxL ret) d' (.ref b :: As) σ post) (hP : va_P D ln_cl (Wd σ) H) (hD : va_D A (Wd σ)) (hS : va_S A s.heap H locs) (q0 : Nat) {ci : Nat} {r : vw_C} {fs : List Value} (he : (Wd σ)[q0]? = some (b, .inr (ci, fs))) (hc : ln_cl[ci]? = some r) (hl : Cond.methodLink own index y ∈ lw_tbl) (hY : ln_Y y bytes maxL n ret r.1) (hn : As.length = n) (hd : d' + 1 ≤ d) (hls : ls.size = nL) (hst : st = As.reverse ++ .ref b :: rest) (hr : (rest.map fun v => v.category).sum ≤ 8) (hdg : decode cc pc = .ok (.invokevirtual index, 3))
    (hf : cells ≤ R.cells ∧ slots ≤ R.slots) (kk : ∀ (τ : ln_S) (H1 : Heap) (locs1 : List Loc), post τ → va_P D ln_cl (Wd τ) H1 → va_D A (Wd τ) → va_S A s.heap H1 locs1 → W p l e R s m args below meth c H1 locs1 cells slots Q (F0 m (pc + 3) ls rest)) : W p l e R s m args below meth c H locs cells slots Q (F0 m pc ls st) := by
  have hfr : ∀ q, va_A (Wd σ) H.size q → A q := fun q h => by
    rcases h with ⟨k, e9, h⟩ | h
    · exact hD.2 k _ h
    · exact hA q (Nat.le_trans hS.1 h)
  refine va_callv (va_runV (Ts := []) (As := As) ⟨X.1, X.2.1, X.2.2.1, X.2.2.2.1, fun _ h => absurd h List.not_mem_nil⟩ (hM H.size) ⟨ln_cb X hY.2.2.1 hY.2.2.2.1 hY.2.2.2.2.1 hY.2.2.2.2.2 hd hl, X.ts args hY.1 rfl, X.ts args hY.2.1 rfl⟩ ⟨ln_blindU, va_recv X.2.2.2.2.1 hP hc he, fun U hU hW => ⟨rfl, by rw [hU], by rw [hU]; exact hP, hD.weaken (fun _ _ _ _ => trivial), va_K.moved hW.alike X.2.2.2.2.1, ln_G.warm hW X.2.2.2.2.2.1⟩⟩ rfl hn hls hst (lv_room hr) hdg hf) hS (fun q _ h => hfr q h) hfr (fun τ t H1 locs1 ht hvm hp hB hz hk hS1 => ?_)
  exact kk τ H1 locs1 hp (by rw [← ht]; exact hB) (had.D hD) hS1
theorem ln_vF (X : ln_X p R s m c cc nL own D g d) {Wd : ln_S → va_W} (had : ln_ad Wd) {σ : ln_S} {A : Nat → Prop} (hA : ∀ q, s.heap.size ≤ q → A q) {y : MethodName} {bytes : ByteArray} {maxL n index d' b ad : Nat} {ret : Option FieldType} {As : List Value} {post : ln_S → Prop} (hM : ln_F l D g Wd y (.code y bytes maxL ret) d' (.ref b :: As) σ ad post) (hP : va_P D ln_cl (Wd σ) H) (hD : va_D A (Wd σ)) (hS : va_S A s.heap H locs) (q0 : Nat) {ci : Nat} {r : vw_C} {fs : List Value} (he : (Wd σ)[q0]? = some (b, .inr (ci, fs))) (hc : ln_cl[ci]? = some r) (hl : Cond.methodLink own index y ∈ lw_tbl) (hY : ln_Y y bytes maxL n ret r.1) (hn : As.length = n) (hd : d' + 1 ≤ d) (hls : ls.size = nL) (hst : st = As.reverse ++ .ref b :: rest) (hr : (rest.map fun v => v.category).sum ≤ 8) (hdg : decode cc pc = .ok (.invokevirtual index, 3))
    (hf : cells ≤ R.cells ∧ slots ≤ R.slots) (kk : ∀ (τ : ln_S) (H1 : Heap) (locs1 : List Loc), post τ → va_P D ln_cl (Wd τ) H1 → va_D A (Wd τ) → va_S A s.heap H1 locs1 → W p l e R s m args below meth c H1 locs1 cells slots Q (F0 m (pc + 3) ls (.ref ad :: rest))) : W p l e R s m args below meth c H locs cells slots Q (F0 m pc ls st) := by
  have hfr : ∀ q, va_A (Wd σ) H.size q → A q := fun q h => by
    rcases h with ⟨k, e9, h⟩ | h
    · exact hD.2 k _ h
    · exact hA q (Nat.le_trans hS.1 h)
  refine va_callr (va_runV (Ts := []) (As := As) ⟨X.1, X.2.1, X.2.2.1, X.2.2.2.1, fun _ h => absurd h List.not_mem_nil⟩ (hM H.size) ⟨ln_cb X hY.2.2.1 hY.2.2.2.1 hY.2.2.2.2.1 hY.2.2.2.2.2 hd hl, X.ts args hY.1 rfl, X.ts args hY.2.1 rfl⟩ ⟨ln_blindU, va_recv X.2.2.2.2.1 hP hc he, fun U hU hW => ⟨rfl, by rw [hU], by rw [hU]; exact hP, hD.weaken (fun _ _ _ _ => trivial), va_K.moved hW.alike X.2.2.2.2.1, ln_G.warm hW X.2.2.2.2.2.1⟩⟩ rfl hn hls hst (lv_room hr) hdg hf) hS (fun q _ h => hfr q h) hfr (fun τ t a1 H1 locs1 ht hvm hp hB hz hk hS1 => ?_)
  obtain ⟨hB1, hB2⟩ := hB
  subst hB1
  exact kk τ H1 locs1 hp (by rw [← ht]; exact hB2) (had.D hD) hS1
/-- a reader's body -/
theorem ln_ofR {y : MethodName} {ret : Option FieldType} {ws : va_W} {av : List Value} {post : Int32 → Prop} (hy : plainName y.cls = true) (hlen : (lg_sl av).length ≤ nL)
    (body : ∀ (p : Program) (e : Env) (R : Room) (s : State) (m : MethodId) (args : Array Value) (below : List Frame) (meth : Method) (c : Code) (ls : Array Slot), meth.sig.returnType = ret → meth.locks = false → ln_X p R s m c cc nL y.cls D g d → va_P D ln_cl ws s.heap → lv_has ls nL (lv_args 0 av) →
      W p l e R s m args below meth c s.heap [] 0 0 (MQ below (vp_Si post) args s 0 0 (fun _ => False)) (F0 m 0 ls [])) : ln_R l D g ws y (.code y cc nL ret) d av post := by
  refine Met.ofW (cc := cc) (maxL := nL) (ret := ret) hy rfl ?_
  intro p e s m args below meth c s₁ B hml hv
  obtain ⟨rfl, hP, hK, hG⟩ := hv
  rw [lg_entry_eq]
  exact body p e _ s m _ below meth c _ B.returns B.notSynchronized ⟨B.exec, B.bytes, hml, findClass_of_methodNamed B.named, hK, hG, Nat.le_refl d, Nat.le_refl (60 * d)⟩ hP (lv_entry av hlen)
theorem ln_retR {post : Int32 → Prop} {v : Int32} {ty : FieldType} (X : ln_X p R s m c cc nL own D g d) (hr : meth.sig.returnType = some ty) (hlk : meth.locks = false) (hn : narrow ty (.int v) = .int v) (hp : post v) (hdg : decode cc pc = .ok (.ireturn, 1)) : W p l e R s m args below meth c s.heap [] 0 0 (MQ below (vp_Si post) args s 0 0 (fun _ => False)) (F0 m pc ls [.int v]) :=
  W.zret X.1 X.2.1 hr hn (fun t ht hW => ⟨v, rfl, hp, ht⟩) (fun q h => absurd h List.not_mem_nil) hdg hlk
theorem ln_ofU {y : MethodName} {ret : Option FieldType} {Wd : ln_S → va_W} {σ : ln_S} {av : List Value} {post : Int32 → ln_S → Prop} (hy : plainName y.cls = true) (hlen : (lg_sl av).length ≤ nL)
    (body : ∀ (p : Program) (e : Env) (R : Room) (s : State) (m : MethodId) (args : Array Value) (below : List Frame) (meth : Method) (c : Code) (ls : Array Slot) (A : Nat → Prop), meth.sig.returnType = ret → meth.locks = false → ln_X p R s m c cc nL y.cls D g d → (∀ q, s.heap.size ≤ q → A q) → va_P D ln_cl (Wd σ) s.heap → va_D A (Wd σ) → va_S A s.heap s.heap [] → lv_has ls nL (lv_args 0 av) →
      W p l e R s m args below meth c s.heap [] 0 0 (MQ below (va_Qi post (fun τ t => va_P D ln_cl (Wd τ) t.heap) A) args s 0 0 A) (F0 m 0 ls [])) : ln_U l D g Wd y (.code y cc nL ret) d av σ post := by
  intro sz
  refine Met.ofW (cc := cc) (maxL := nL) (ret := ret) hy rfl ?_
  intro p e s m args below meth c s₁ B hml hv
  obtain ⟨rfl, hsz, hP, hD, hK, hG⟩ := hv
  subst hsz
  rw [lg_entry_eq]
  exact body p e _ s m _ below meth c _ _ B.returns B.notSynchronized ⟨B.exec, B.bytes, hml, findClass_of_methodNamed B.named, hK, hG, Nat.le_refl d, Nat.le_refl (60 * d)⟩ (fun q h => Or.inr h) hP hD.self va_S.rf (lv_entry av hlen)
theorem ln_retU {Wd : ln_S → va_W} {τ : ln_S} {A : Nat → Prop} {post : Int32 → ln_S → Prop} {v : Int32} {ty : FieldType} (X : ln_X p R s m c cc nL own D g d) (hr : meth.sig.returnType = some ty) (hlk : meth.locks = false) (hP : va_P D ln_cl (Wd τ) H) (hS : va_S A s.heap H locs) (hn : narrow ty (.int v) = .int v) (hp : post v τ) (hdg : decode cc pc = .ok (.ireturn, 1)) : W p l e R s m args below meth c H locs 0 0 (MQ below (va_Qi post (fun τ t => va_P D ln_cl (Wd τ) t.heap) A) args s 0 0 A) (F0 m pc ls [.int v]) :=
  W.zret X.1 X.2.1 hr hn (fun t ht hW => ⟨⟨v, τ, rfl, hp, by show va_P D ln_cl (Wd τ) t.heap; rw [ht]; exact hP⟩, hS.F ht⟩) hS.2.2 hdg hlk
theorem ln_ofV {y : MethodName} {Wd : ln_S → va_W} {σ : ln_S} {av : List Value} {post : ln_S → Prop} (hy : plainName y.cls = true) (hlen : (lg_sl av).length ≤ nL)
    (body : ∀ (p : Program) (e : Env) (R : Room) (s : State) (m : MethodId) (args : Array Value) (below : List Frame) (meth : Method) (c : Code) (ls : Array Slot) (A : Nat → Prop), meth.sig.returnType = none → meth.locks = false → ln_X p R s m c cc nL y.cls D g d → (∀ q, s.heap.size ≤ q → A q) → va_P D ln_cl (Wd σ) s.heap → va_D A (Wd σ) → va_S A s.heap s.heap [] → lv_has ls nL (lv_args 0 av) →
      W p l e R s m args below meth c s.heap [] 0 0 (MQ below (va_Qv post (fun τ t => va_P D ln_cl (Wd τ) t.heap) A) args s 0 0 A) (F0 m 0 ls [])) : ln_V l D g Wd y (.code y cc nL none) d av σ post := by
  intro sz
  refine Met.ofW (cc := cc) (maxL := nL) (ret := none) hy rfl ?_
  intro p e s m args below meth c s₁ B hml hv
  obtain ⟨rfl, hsz, hP, hD, hK, hG⟩ := hv
  subst hsz
  rw [lg_entry_eq]
  exact body p e _ s m _ below meth c _ _ B.returns B.notSynchronized ⟨B.exec, B.bytes, hml, findClass_of_methodNamed B.named, hK, hG, Nat.le_refl d, Nat.le_refl (60 * d)⟩ (fun q h => Or.inr h) hP hD.self va_S.rf (lv_entry av hlen)
theorem ln_retV {Wd : ln_S → va_W} {τ : ln_S} {A : Nat → Prop} {post : ln_S → Prop} (X : ln_X p R s m c cc nL own D g d) (hr : meth.sig.returnType = none) (hlk : meth.locks = false) (hP : va_P D ln_cl (Wd τ) H) (hS : va_S A s.heap H locs) (hp : post τ) (hdg : decode cc pc = .ok (.return_, 1)) : W p l e R s m args below meth c H locs 0 0 (MQ below (va_Qv post (fun τ t => va_P D ln_cl (Wd τ) t.heap) A) args s 0 0 A) (F0 m pc ls []) :=
  W.vret X.1 X.2.1 hr (fun t ht hW => ⟨⟨τ, rfl, hp, by show va_P D ln_cl (Wd τ) t.heap; rw [ht]; exact hP⟩, hS.F ht⟩) hS.2.2 hdg hlk
theorem ln_ofF {y : MethodName} {ret : Option FieldType} {Wd : ln_S → va_W} {σ : ln_S} {av : List Value} {ad : Nat} {post : ln_S → Prop} (hy : plainName y.cls = true) (hlen : (lg_sl av).length ≤ nL)
    (body : ∀ (p : Program) (e : Env) (R : Room) (s : State) (m : MethodId) (args : Array Value) (below : List Frame) (meth : Method) (c : Code) (ls : Array Slot) (A : Nat → Prop), meth.sig.returnType = ret → meth.locks = false → ln_X p R s m c cc nL y.cls D g d → (∀ q, s.heap.size ≤ q → A q) → va_P D ln_cl (Wd σ) s.heap → va_D A (Wd σ) → va_S A s.heap s.heap [] → lv_has ls nL (lv_args 0 av) →
      W p l e R s m args below meth c s.heap [] 0 0 (MQ below (va_Qr post (fun τ a t => a = ad ∧ va_P D ln_cl (Wd τ) t.heap) A) args s 0 0 A) (F0 m 0 ls [])) : ln_F l D g Wd y (.code y cc nL ret) d av σ ad post := by
  intro sz
  refine Met.ofW (cc := cc) (maxL := nL) (ret := ret) hy rfl ?_
  intro p e s m args below meth c s₁ B hml hv
  obtain ⟨rfl, hsz, hP, hD, hK, hG⟩ := hv
  subst hsz
  rw [lg_entry_eq]
  exact body p e _ s m _ below meth c _ _ B.returns B.notSynchronized ⟨B.exec, B.bytes, hml, findClass_of_methodNamed B.named, hK, hG, Nat.le_refl d, Nat.le_refl (60 * d)⟩ (fun q h => Or.inr h) hP hD.self va_S.rf (lv_entry av hlen)
theorem ln_retF {Wd : ln_S → va_W} {τ : ln_S} {A : Nat → Prop} {ad : Nat} {post : ln_S → Prop} {ty : FieldType} (X : ln_X p R s m c cc nL own D g d) (hr : meth.sig.returnType = some (.array ty)) (hlk : meth.locks = false) (hP : va_P D ln_cl (Wd τ) H) (hS : va_S A s.heap H locs) (hp : post τ) (hdg : decode cc pc = .ok (.areturn, 1)) : W p l e R s m args below meth c H locs 0 0 (MQ below (va_Qr post (fun τ a t => a = ad ∧ va_P D ln_cl (Wd τ) t.heap) A) args s 0 0 A) (F0 m pc ls [.ref ad]) :=
  W.aret X.1 X.2.1 hr (Or.inr ⟨ty, rfl⟩) (Or.inr ⟨ad, rfl⟩) (fun t ht hW => ⟨⟨τ, ad, rfl, hp, rfl, by show va_P D ln_cl (Wd τ) t.heap; rw [ht]; exact hP⟩, hS.F ht⟩) hS.2.2 hdg hlk
end LNC
end
