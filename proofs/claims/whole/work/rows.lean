section
-- ===== PART A: goes FIRST, ahead of the names: the tables' words, and 'selects' of the private methods out of them =====
/-- a private method of a class that the tables say can be made, by its rows of tables_1 -/
def lw_okq (q : MethodName × Nat) : Prop := (q.1.cls ≠ "java/lang/invoke/MethodHandle" ∧ q.1.cls ≠ "java/lang/invoke/VarHandle") ∧ Cond.instantiable q.1.cls q.2 ∈ tables_1 ∧ Cond.privateMethod q.1 ∈ tables_1 ∧ Cond.instanceMethod q.1 ∈ tables_1
theorem lw_p0 : lw_okq (⟨"PathChecker$Reader", "startAnew", "()V"⟩, 11) := ⟨⟨by decide +kernel, by decide +kernel⟩, List.mem_of_getElem? (i := 28) (by decide +kernel), List.mem_of_getElem? (i := 396) (by decide +kernel), List.mem_of_getElem? (i := 397) (by decide +kernel)⟩
theorem lw_p1 : lw_okq (⟨"PathChecker$Reader", "takeInUnit", "(C)Z"⟩, 11) := ⟨⟨by decide +kernel, by decide +kernel⟩, List.mem_of_getElem? (i := 28) (by decide +kernel), List.mem_of_getElem? (i := 400) (by decide +kernel), List.mem_of_getElem? (i := 401) (by decide +kernel)⟩
theorem lw_p2 : lw_okq (⟨"PathChecker$Reader", "newPart", "(CII)I"⟩, 11) := ⟨⟨by decide +kernel, by decide +kernel⟩, List.mem_of_getElem? (i := 28) (by decide +kernel), List.mem_of_getElem? (i := 407) (by decide +kernel), List.mem_of_getElem? (i := 408) (by decide +kernel)⟩
theorem lw_p3 : lw_okq (⟨"PathChecker$Reader", "await", "(C)V"⟩, 11) := ⟨⟨by decide +kernel, by decide +kernel⟩, List.mem_of_getElem? (i := 28) (by decide +kernel), List.mem_of_getElem? (i := 414) (by decide +kernel), List.mem_of_getElem? (i := 415) (by decide +kernel)⟩
theorem lw_p4 : lw_okq (⟨"PathChecker$Reader", "takeBehindUnit", "(C)Z"⟩, 11) := ⟨⟨by decide +kernel, by decide +kernel⟩, List.mem_of_getElem? (i := 28) (by decide +kernel), List.mem_of_getElem? (i := 418) (by decide +kernel), List.mem_of_getElem? (i := 419) (by decide +kernel)⟩
theorem lw_p5 : lw_okq (⟨"PathChecker$Reader", "joinDownTo", "(I)V"⟩, 11) := ⟨⟨by decide +kernel, by decide +kernel⟩, List.mem_of_getElem? (i := 28) (by decide +kernel), List.mem_of_getElem? (i := 422) (by decide +kernel), List.mem_of_getElem? (i := 423) (by decide +kernel)⟩
theorem lw_p6 : lw_okq (⟨"PathChecker$Reader", "join", "(C)V"⟩, 11) := ⟨⟨by decide +kernel, by decide +kernel⟩, List.mem_of_getElem? (i := 28) (by decide +kernel), List.mem_of_getElem? (i := 426) (by decide +kernel), List.mem_of_getElem? (i := 427) (by decide +kernel)⟩
theorem lw_p7 : lw_okq (⟨"java/lang/Throwable", "fillInStackTrace", "(I)Ljava/lang/Throwable;"⟩, 6) := ⟨⟨by decide +kernel, by decide +kernel⟩, List.mem_of_getElem? (i := 478) (by decide +kernel), List.mem_of_getElem? (i := 476) (by decide +kernel), List.mem_of_getElem? (i := 477) (by decide +kernel)⟩
theorem lw_p8 : lw_okq (⟨"PathChecker$NormalForm", "write", "(LPathChecker$Reader;)V"⟩, 10) := ⟨⟨by decide +kernel, by decide +kernel⟩, List.mem_of_getElem? (i := 119) (by decide +kernel), List.mem_of_getElem? (i := 522) (by decide +kernel), List.mem_of_getElem? (i := 523) (by decide +kernel)⟩
theorem lw_p9 : lw_okq (⟨"PathChecker$NormalForm", "keepForLater", "(IZ)V"⟩, 10) := ⟨⟨by decide +kernel, by decide +kernel⟩, List.mem_of_getElem? (i := 119) (by decide +kernel), List.mem_of_getElem? (i := 526) (by decide +kernel), List.mem_of_getElem? (i := 527) (by decide +kernel)⟩
theorem lw_p10 : lw_okq (⟨"PathChecker$NormalForm", "writeSigns", "(CZ)V"⟩, 10) := ⟨⟨by decide +kernel, by decide +kernel⟩, List.mem_of_getElem? (i := 119) (by decide +kernel), List.mem_of_getElem? (i := 530) (by decide +kernel), List.mem_of_getElem? (i := 531) (by decide +kernel)⟩
theorem lw_p11 : lw_okq (⟨"PathChecker$NormalForm", "add", "(C)V"⟩, 10) := ⟨⟨by decide +kernel, by decide +kernel⟩, List.mem_of_getElem? (i := 119) (by decide +kernel), List.mem_of_getElem? (i := 534) (by decide +kernel), List.mem_of_getElem? (i := 535) (by decide +kernel)⟩
theorem lw_p12 : lw_okq (⟨"PathChecker$NormalForm", "connect", "()V"⟩, 10) := ⟨⟨by decide +kernel, by decide +kernel⟩, List.mem_of_getElem? (i := 119) (by decide +kernel), List.mem_of_getElem? (i := 541) (by decide +kernel), List.mem_of_getElem? (i := 542) (by decide +kernel)⟩
theorem lw_p13 : lw_okq (⟨"PathChecker", "bringUpToDate", "()V"⟩, 11) := ⟨⟨by decide +kernel, by decide +kernel⟩, List.mem_of_getElem? (i := 20) (by decide +kernel), List.mem_of_getElem? (i := 599) (by decide +kernel), List.mem_of_getElem? (i := 600) (by decide +kernel)⟩
theorem lw_p14 : lw_okq (⟨"PathChecker$Graph", "weighHere", "(I)V"⟩, 8) := ⟨⟨by decide +kernel, by decide +kernel⟩, List.mem_of_getElem? (i := 113) (by decide +kernel), List.mem_of_getElem? (i := 607) (by decide +kernel), List.mem_of_getElem? (i := 608) (by decide +kernel)⟩
theorem lw_p15 : lw_okq (⟨"PathChecker$Graph", "untimed", "([III)I"⟩, 8) := ⟨⟨by decide +kernel, by decide +kernel⟩, List.mem_of_getElem? (i := 113) (by decide +kernel), List.mem_of_getElem? (i := 611) (by decide +kernel), List.mem_of_getElem? (i := 612) (by decide +kernel)⟩
def lw_privs_1 : List (MethodName × Nat) := [(⟨"PathChecker$Reader", "startAnew", "()V"⟩, 11), (⟨"PathChecker$Reader", "takeInUnit", "(C)Z"⟩, 11), (⟨"PathChecker$Reader", "newPart", "(CII)I"⟩, 11), (⟨"PathChecker$Reader", "await", "(C)V"⟩, 11), (⟨"PathChecker$Reader", "takeBehindUnit", "(C)Z"⟩, 11), (⟨"PathChecker$Reader", "joinDownTo", "(I)V"⟩, 11), (⟨"PathChecker$Reader", "join", "(C)V"⟩, 11), (⟨"java/lang/Throwable", "fillInStackTrace", "(I)Ljava/lang/Throwable;"⟩, 6), (⟨"PathChecker$NormalForm", "write", "(LPathChecker$Reader;)V"⟩, 10), (⟨"PathChecker$NormalForm", "keepForLater", "(IZ)V"⟩, 10), (⟨"PathChecker$NormalForm", "writeSigns", "(CZ)V"⟩, 10), (⟨"PathChecker$NormalForm", "add", "(C)V"⟩, 10), (⟨"PathChecker$NormalForm", "connect", "()V"⟩, 10), (⟨"PathChecker", "bringUpToDate", "()V"⟩, 11), (⟨"PathChecker$Graph", "weighHere", "(I)V"⟩, 8), (⟨"PathChecker$Graph", "untimed", "([III)I"⟩, 8)]
theorem lw_r1 : ∀ q ∈ lw_privs_1, lw_okq q := List.forall_mem_cons.mpr ⟨lw_p0, List.forall_mem_cons.mpr ⟨lw_p1, List.forall_mem_cons.mpr ⟨lw_p2, List.forall_mem_cons.mpr ⟨lw_p3, List.forall_mem_cons.mpr ⟨lw_p4, List.forall_mem_cons.mpr ⟨lw_p5, List.forall_mem_cons.mpr ⟨lw_p6, List.forall_mem_cons.mpr ⟨lw_p7, List.forall_mem_cons.mpr ⟨lw_p8, List.forall_mem_cons.mpr ⟨lw_p9, List.forall_mem_cons.mpr ⟨lw_p10, List.forall_mem_cons.mpr ⟨lw_p11, List.forall_mem_cons.mpr ⟨lw_p12, List.forall_mem_cons.mpr ⟨lw_p13, List.forall_mem_cons.mpr ⟨lw_p14, List.forall_mem_cons.mpr ⟨lw_p15, fun _ h => absurd h List.not_mem_nil⟩⟩⟩⟩⟩⟩⟩⟩⟩⟩⟩⟩⟩⟩⟩⟩
theorem lw_p16 : lw_okq (⟨"PathChecker$Graph", "promptGuesses", "(II)I"⟩, 8) := ⟨⟨by decide +kernel, by decide +kernel⟩, List.mem_of_getElem? (i := 113) (by decide +kernel), List.mem_of_getElem? (i := 620) (by decide +kernel), List.mem_of_getElem? (i := 621) (by decide +kernel)⟩
theorem lw_p17 : lw_okq (⟨"PathChecker$Graph", "weighBefore", "(I)V"⟩, 8) := ⟨⟨by decide +kernel, by decide +kernel⟩, List.mem_of_getElem? (i := 113) (by decide +kernel), List.mem_of_getElem? (i := 625) (by decide +kernel), List.mem_of_getElem? (i := 626) (by decide +kernel)⟩
theorem lw_p18 : lw_okq (⟨"PathChecker$Graph", "timedBefore", "(II)I"⟩, 8) := ⟨⟨by decide +kernel, by decide +kernel⟩, List.mem_of_getElem? (i := 113) (by decide +kernel), List.mem_of_getElem? (i := 629) (by decide +kernel), List.mem_of_getElem? (i := 630) (by decide +kernel)⟩
theorem lw_p19 : lw_okq (⟨"PathChecker$Graph", "writeGuesses", "(II)V"⟩, 8) := ⟨⟨by decide +kernel, by decide +kernel⟩, List.mem_of_getElem? (i := 113) (by decide +kernel), List.mem_of_getElem? (i := 633) (by decide +kernel), List.mem_of_getElem? (i := 634) (by decide +kernel)⟩
theorem lw_p20 : lw_okq (⟨"PathChecker$Knots", "startAnew", "()V"⟩, 12) := ⟨⟨by decide +kernel, by decide +kernel⟩, List.mem_of_getElem? (i := 107) (by decide +kernel), List.mem_of_getElem? (i := 641) (by decide +kernel), List.mem_of_getElem? (i := 642) (by decide +kernel)⟩
theorem lw_p21 : lw_okq (⟨"PathChecker$Knots", "walkFrom", "(I)V"⟩, 12) := ⟨⟨by decide +kernel, by decide +kernel⟩, List.mem_of_getElem? (i := 107) (by decide +kernel), List.mem_of_getElem? (i := 645) (by decide +kernel), List.mem_of_getElem? (i := 646) (by decide +kernel)⟩
theorem lw_p22 : lw_okq (⟨"PathChecker$Knots", "enter", "(I)V"⟩, 12) := ⟨⟨by decide +kernel, by decide +kernel⟩, List.mem_of_getElem? (i := 107) (by decide +kernel), List.mem_of_getElem? (i := 649) (by decide +kernel), List.mem_of_getElem? (i := 650) (by decide +kernel)⟩
theorem lw_p23 : lw_okq (⟨"PathChecker$Knots", "tryStep", "(II)V"⟩, 12) := ⟨⟨by decide +kernel, by decide +kernel⟩, List.mem_of_getElem? (i := 107) (by decide +kernel), List.mem_of_getElem? (i := 653) (by decide +kernel), List.mem_of_getElem? (i := 654) (by decide +kernel)⟩
theorem lw_p24 : lw_okq (⟨"PathChecker$Knots", "release", "(I)V"⟩, 12) := ⟨⟨by decide +kernel, by decide +kernel⟩, List.mem_of_getElem? (i := 107) (by decide +kernel), List.mem_of_getElem? (i := 665) (by decide +kernel), List.mem_of_getElem? (i := 666) (by decide +kernel)⟩
theorem lw_p25 : lw_okq (⟨"PathChecker$Knots", "goesToItself", "(I)Z"⟩, 12) := ⟨⟨by decide +kernel, by decide +kernel⟩, List.mem_of_getElem? (i := 107) (by decide +kernel), List.mem_of_getElem? (i := 669) (by decide +kernel), List.mem_of_getElem? (i := 670) (by decide +kernel)⟩
theorem lw_p26 : lw_okq (⟨"PathChecker$Knots", "isPrompt", "()Z"⟩, 12) := ⟨⟨by decide +kernel, by decide +kernel⟩, List.mem_of_getElem? (i := 107) (by decide +kernel), List.mem_of_getElem? (i := 673) (by decide +kernel), List.mem_of_getElem? (i := 674) (by decide +kernel)⟩
theorem lw_p27 : lw_okq (⟨"PathChecker$Nearness", "oneStepMore", "([III)I"⟩, 4) := ⟨⟨by decide +kernel, by decide +kernel⟩, List.mem_of_getElem? (i := 101) (by decide +kernel), List.mem_of_getElem? (i := 681) (by decide +kernel), List.mem_of_getElem? (i := 682) (by decide +kernel)⟩
theorem lw_p28 : lw_okq (⟨"PathChecker$Nearness", "growReaching", "()Z"⟩, 4) := ⟨⟨by decide +kernel, by decide +kernel⟩, List.mem_of_getElem? (i := 101) (by decide +kernel), List.mem_of_getElem? (i := 691) (by decide +kernel), List.mem_of_getElem? (i := 692) (by decide +kernel)⟩
theorem lw_p29 : lw_okq (⟨"PathChecker$Search", "extend", "(I)V"⟩, 6) := ⟨⟨by decide +kernel, by decide +kernel⟩, List.mem_of_getElem? (i := 95) (by decide +kernel), List.mem_of_getElem? (i := 732) (by decide +kernel), List.mem_of_getElem? (i := 733) (by decide +kernel)⟩
theorem lw_p30 : lw_okq (⟨"PathChecker$Search", "closeLoop", "(I)V"⟩, 6) := ⟨⟨by decide +kernel, by decide +kernel⟩, List.mem_of_getElem? (i := 95) (by decide +kernel), List.mem_of_getElem? (i := 736) (by decide +kernel), List.mem_of_getElem? (i := 737) (by decide +kernel)⟩
theorem lw_p31 : lw_okq (⟨"PathChecker$Search", "mayGoOnAt", "(II)Z"⟩, 6) := ⟨⟨by decide +kernel, by decide +kernel⟩, List.mem_of_getElem? (i := 95) (by decide +kernel), List.mem_of_getElem? (i := 740) (by decide +kernel), List.mem_of_getElem? (i := 741) (by decide +kernel)⟩
def lw_privs_2 : List (MethodName × Nat) := [(⟨"PathChecker$Graph", "promptGuesses", "(II)I"⟩, 8), (⟨"PathChecker$Graph", "weighBefore", "(I)V"⟩, 8), (⟨"PathChecker$Graph", "timedBefore", "(II)I"⟩, 8), (⟨"PathChecker$Graph", "writeGuesses", "(II)V"⟩, 8), (⟨"PathChecker$Knots", "startAnew", "()V"⟩, 12), (⟨"PathChecker$Knots", "walkFrom", "(I)V"⟩, 12), (⟨"PathChecker$Knots", "enter", "(I)V"⟩, 12), (⟨"PathChecker$Knots", "tryStep", "(II)V"⟩, 12), (⟨"PathChecker$Knots", "release", "(I)V"⟩, 12), (⟨"PathChecker$Knots", "goesToItself", "(I)Z"⟩, 12), (⟨"PathChecker$Knots", "isPrompt", "()Z"⟩, 12), (⟨"PathChecker$Nearness", "oneStepMore", "([III)I"⟩, 4), (⟨"PathChecker$Nearness", "growReaching", "()Z"⟩, 4), (⟨"PathChecker$Search", "extend", "(I)V"⟩, 6), (⟨"PathChecker$Search", "closeLoop", "(I)V"⟩, 6), (⟨"PathChecker$Search", "mayGoOnAt", "(II)Z"⟩, 6)]
theorem lw_r2 : ∀ q ∈ lw_privs_2, lw_okq q := List.forall_mem_cons.mpr ⟨lw_p16, List.forall_mem_cons.mpr ⟨lw_p17, List.forall_mem_cons.mpr ⟨lw_p18, List.forall_mem_cons.mpr ⟨lw_p19, List.forall_mem_cons.mpr ⟨lw_p20, List.forall_mem_cons.mpr ⟨lw_p21, List.forall_mem_cons.mpr ⟨lw_p22, List.forall_mem_cons.mpr ⟨lw_p23, List.forall_mem_cons.mpr ⟨lw_p24, List.forall_mem_cons.mpr ⟨lw_p25, List.forall_mem_cons.mpr ⟨lw_p26, List.forall_mem_cons.mpr ⟨lw_p27, List.forall_mem_cons.mpr ⟨lw_p28, List.forall_mem_cons.mpr ⟨lw_p29, List.forall_mem_cons.mpr ⟨lw_p30, List.forall_mem_cons.mpr ⟨lw_p31, fun _ h => absurd h List.not_mem_nil⟩⟩⟩⟩⟩⟩⟩⟩⟩⟩⟩⟩⟩⟩⟩⟩
theorem lw_p32 : lw_okq (⟨"PathChecker$Path", "placesBefore", "(II)I"⟩, 3) := ⟨⟨by decide +kernel, by decide +kernel⟩, List.mem_of_getElem? (i := 75) (by decide +kernel), List.mem_of_getElem? (i := 753) (by decide +kernel), List.mem_of_getElem? (i := 754) (by decide +kernel)⟩
theorem lw_p33 : lw_okq (⟨"PathChecker$Path", "placesOfUntil", "(III)I"⟩, 3) := ⟨⟨by decide +kernel, by decide +kernel⟩, List.mem_of_getElem? (i := 75) (by decide +kernel), List.mem_of_getElem? (i := 757) (by decide +kernel), List.mem_of_getElem? (i := 758) (by decide +kernel)⟩
theorem lw_p34 : lw_okq (⟨"PathChecker$Path", "placesOfRelease", "(III)I"⟩, 3) := ⟨⟨by decide +kernel, by decide +kernel⟩, List.mem_of_getElem? (i := 75) (by decide +kernel), List.mem_of_getElem? (i := 761) (by decide +kernel), List.mem_of_getElem? (i := 762) (by decide +kernel)⟩
theorem lw_p35 : lw_okq (⟨"PathChecker$Path", "placesOfLeaf", "(CLPathChecker$Structure;)I"⟩, 3) := ⟨⟨by decide +kernel, by decide +kernel⟩, List.mem_of_getElem? (i := 75) (by decide +kernel), List.mem_of_getElem? (i := 765) (by decide +kernel), List.mem_of_getElem? (i := 766) (by decide +kernel)⟩
theorem lw_p36 : lw_okq (⟨"PathCheckerModel", "reads", "()Z"⟩, 41) := ⟨⟨by decide +kernel, by decide +kernel⟩, List.mem_of_getElem? (i := 787) (by decide +kernel), List.mem_of_getElem? (i := 938) (by decide +kernel), List.mem_of_getElem? (i := 939) (by decide +kernel)⟩
theorem lw_p37 : lw_okq (⟨"PathCheckerModel", "node", "(III)V"⟩, 41) := ⟨⟨by decide +kernel, by decide +kernel⟩, List.mem_of_getElem? (i := 787) (by decide +kernel), List.mem_of_getElem? (i := 945) (by decide +kernel), List.mem_of_getElem? (i := 946) (by decide +kernel)⟩
theorem lw_p38 : lw_okq (⟨"PathCheckerModel", "reduceFrom", "(I)V"⟩, 41) := ⟨⟨by decide +kernel, by decide +kernel⟩, List.mem_of_getElem? (i := 787) (by decide +kernel), List.mem_of_getElem? (i := 952) (by decide +kernel), List.mem_of_getElem? (i := 953) (by decide +kernel)⟩
theorem lw_p39 : lw_okq (⟨"PathCheckerModel", "reduce", "()V"⟩, 41) := ⟨⟨by decide +kernel, by decide +kernel⟩, List.mem_of_getElem? (i := 787) (by decide +kernel), List.mem_of_getElem? (i := 959) (by decide +kernel), List.mem_of_getElem? (i := 960) (by decide +kernel)⟩
theorem lw_p40 : lw_okq (⟨"PathCheckerModel", "countTimed", "()I"⟩, 41) := ⟨⟨by decide +kernel, by decide +kernel⟩, List.mem_of_getElem? (i := 787) (by decide +kernel), List.mem_of_getElem? (i := 963) (by decide +kernel), List.mem_of_getElem? (i := 964) (by decide +kernel)⟩
theorem lw_p41 : lw_okq (⟨"PathCheckerModel", "forget", "()V"⟩, 41) := ⟨⟨by decide +kernel, by decide +kernel⟩, List.mem_of_getElem? (i := 787) (by decide +kernel), List.mem_of_getElem? (i := 970) (by decide +kernel), List.mem_of_getElem? (i := 971) (by decide +kernel)⟩
theorem lw_p42 : lw_okq (⟨"PathCheckerModel", "write", "()V"⟩, 41) := ⟨⟨by decide +kernel, by decide +kernel⟩, List.mem_of_getElem? (i := 787) (by decide +kernel), List.mem_of_getElem? (i := 974) (by decide +kernel), List.mem_of_getElem? (i := 975) (by decide +kernel)⟩
theorem lw_p43 : lw_okq (⟨"PathCheckerModel", "hold", "(IZ)V"⟩, 41) := ⟨⟨by decide +kernel, by decide +kernel⟩, List.mem_of_getElem? (i := 787) (by decide +kernel), List.mem_of_getElem? (i := 978) (by decide +kernel), List.mem_of_getElem? (i := 979) (by decide +kernel)⟩
theorem lw_p44 : lw_okq (⟨"PathCheckerModel", "emit", "(I)V"⟩, 41) := ⟨⟨by decide +kernel, by decide +kernel⟩, List.mem_of_getElem? (i := 787) (by decide +kernel), List.mem_of_getElem? (i := 982) (by decide +kernel), List.mem_of_getElem? (i := 983) (by decide +kernel)⟩
theorem lw_p45 : lw_okq (⟨"PathCheckerModel", "someone", "(Z)I"⟩, 41) := ⟨⟨by decide +kernel, by decide +kernel⟩, List.mem_of_getElem? (i := 787) (by decide +kernel), List.mem_of_getElem? (i := 1013) (by decide +kernel), List.mem_of_getElem? (i := 1014) (by decide +kernel)⟩
theorem lw_p46 : lw_okq (⟨"PathCheckerModel", "study", "()V"⟩, 41) := ⟨⟨by decide +kernel, by decide +kernel⟩, List.mem_of_getElem? (i := 787) (by decide +kernel), List.mem_of_getElem? (i := 1017) (by decide +kernel), List.mem_of_getElem? (i := 1018) (by decide +kernel)⟩
theorem lw_p47 : lw_okq (⟨"PathCheckerModel", "tables", "()V"⟩, 41) := ⟨⟨by decide +kernel, by decide +kernel⟩, List.mem_of_getElem? (i := 787) (by decide +kernel), List.mem_of_getElem? (i := 1021) (by decide +kernel), List.mem_of_getElem? (i := 1022) (by decide +kernel)⟩
def lw_privs_3 : List (MethodName × Nat) := [(⟨"PathChecker$Path", "placesBefore", "(II)I"⟩, 3), (⟨"PathChecker$Path", "placesOfUntil", "(III)I"⟩, 3), (⟨"PathChecker$Path", "placesOfRelease", "(III)I"⟩, 3), (⟨"PathChecker$Path", "placesOfLeaf", "(CLPathChecker$Structure;)I"⟩, 3), (⟨"PathCheckerModel", "reads", "()Z"⟩, 41), (⟨"PathCheckerModel", "node", "(III)V"⟩, 41), (⟨"PathCheckerModel", "reduceFrom", "(I)V"⟩, 41), (⟨"PathCheckerModel", "reduce", "()V"⟩, 41), (⟨"PathCheckerModel", "countTimed", "()I"⟩, 41), (⟨"PathCheckerModel", "forget", "()V"⟩, 41), (⟨"PathCheckerModel", "write", "()V"⟩, 41), (⟨"PathCheckerModel", "hold", "(IZ)V"⟩, 41), (⟨"PathCheckerModel", "emit", "(I)V"⟩, 41), (⟨"PathCheckerModel", "someone", "(Z)I"⟩, 41), (⟨"PathCheckerModel", "study", "()V"⟩, 41), (⟨"PathCheckerModel", "tables", "()V"⟩, 41)]
theorem lw_r3 : ∀ q ∈ lw_privs_3, lw_okq q := List.forall_mem_cons.mpr ⟨lw_p32, List.forall_mem_cons.mpr ⟨lw_p33, List.forall_mem_cons.mpr ⟨lw_p34, List.forall_mem_cons.mpr ⟨lw_p35, List.forall_mem_cons.mpr ⟨lw_p36, List.forall_mem_cons.mpr ⟨lw_p37, List.forall_mem_cons.mpr ⟨lw_p38, List.forall_mem_cons.mpr ⟨lw_p39, List.forall_mem_cons.mpr ⟨lw_p40, List.forall_mem_cons.mpr ⟨lw_p41, List.forall_mem_cons.mpr ⟨lw_p42, List.forall_mem_cons.mpr ⟨lw_p43, List.forall_mem_cons.mpr ⟨lw_p44, List.forall_mem_cons.mpr ⟨lw_p45, List.forall_mem_cons.mpr ⟨lw_p46, List.forall_mem_cons.mpr ⟨lw_p47, fun _ h => absurd h List.not_mem_nil⟩⟩⟩⟩⟩⟩⟩⟩⟩⟩⟩⟩⟩⟩⟩⟩
theorem lw_p48 : lw_okq (⟨"PathCheckerModel", "evaluate", "(II)V"⟩, 41) := ⟨⟨by decide +kernel, by decide +kernel⟩, List.mem_of_getElem? (i := 787) (by decide +kernel), List.mem_of_getElem? (i := 1025) (by decide +kernel), List.mem_of_getElem? (i := 1026) (by decide +kernel)⟩
theorem lw_p49 : lw_okq (⟨"PathCheckerModel", "plain", "(II)Z"⟩, 41) := ⟨⟨by decide +kernel, by decide +kernel⟩, List.mem_of_getElem? (i := 787) (by decide +kernel), List.mem_of_getElem? (i := 1029) (by decide +kernel), List.mem_of_getElem? (i := 1030) (by decide +kernel)⟩
theorem lw_p50 : lw_okq (⟨"PathCheckerModel", "decider", "(I)I"⟩, 41) := ⟨⟨by decide +kernel, by decide +kernel⟩, List.mem_of_getElem? (i := 787) (by decide +kernel), List.mem_of_getElem? (i := 1033) (by decide +kernel), List.mem_of_getElem? (i := 1034) (by decide +kernel)⟩
theorem lw_p51 : lw_okq (⟨"PathCheckerModel", "bitsBefore", "(III)I"⟩, 41) := ⟨⟨by decide +kernel, by decide +kernel⟩, List.mem_of_getElem? (i := 787) (by decide +kernel), List.mem_of_getElem? (i := 1037) (by decide +kernel), List.mem_of_getElem? (i := 1038) (by decide +kernel)⟩
theorem lw_p52 : lw_okq (⟨"PathCheckerModel", "cut", "(I)Z"⟩, 41) := ⟨⟨by decide +kernel, by decide +kernel⟩, List.mem_of_getElem? (i := 787) (by decide +kernel), List.mem_of_getElem? (i := 1041) (by decide +kernel), List.mem_of_getElem? (i := 1042) (by decide +kernel)⟩
theorem lw_p53 : lw_okq (⟨"PathCheckerModel", "step", "()V"⟩, 41) := ⟨⟨by decide +kernel, by decide +kernel⟩, List.mem_of_getElem? (i := 787) (by decide +kernel), List.mem_of_getElem? (i := 1045) (by decide +kernel), List.mem_of_getElem? (i := 1046) (by decide +kernel)⟩
theorem lw_p54 : lw_okq (⟨"PathCheckerModel", "search", "(I)V"⟩, 41) := ⟨⟨by decide +kernel, by decide +kernel⟩, List.mem_of_getElem? (i := 787) (by decide +kernel), List.mem_of_getElem? (i := 1061) (by decide +kernel), List.mem_of_getElem? (i := 1062) (by decide +kernel)⟩
theorem lw_p55 : lw_okq (⟨"PathCheckerModel", "linked", "()Z"⟩, 41) := ⟨⟨by decide +kernel, by decide +kernel⟩, List.mem_of_getElem? (i := 787) (by decide +kernel), List.mem_of_getElem? (i := 1065) (by decide +kernel), List.mem_of_getElem? (i := 1066) (by decide +kernel)⟩
theorem lw_p56 : lw_okq (⟨"PathCheckerModel", "holds", "(I)Z"⟩, 41) := ⟨⟨by decide +kernel, by decide +kernel⟩, List.mem_of_getElem? (i := 787) (by decide +kernel), List.mem_of_getElem? (i := 1069) (by decide +kernel), List.mem_of_getElem? (i := 1070) (by decide +kernel)⟩
theorem lw_p57 : lw_okq (⟨"PathCheckerModel", "advance", "()Z"⟩, 41) := ⟨⟨by decide +kernel, by decide +kernel⟩, List.mem_of_getElem? (i := 787) (by decide +kernel), List.mem_of_getElem? (i := 1073) (by decide +kernel), List.mem_of_getElem? (i := 1074) (by decide +kernel)⟩
def lw_privs_4 : List (MethodName × Nat) := [(⟨"PathCheckerModel", "evaluate", "(II)V"⟩, 41), (⟨"PathCheckerModel", "plain", "(II)Z"⟩, 41), (⟨"PathCheckerModel", "decider", "(I)I"⟩, 41), (⟨"PathCheckerModel", "bitsBefore", "(III)I"⟩, 41), (⟨"PathCheckerModel", "cut", "(I)Z"⟩, 41), (⟨"PathCheckerModel", "step", "()V"⟩, 41), (⟨"PathCheckerModel", "search", "(I)V"⟩, 41), (⟨"PathCheckerModel", "linked", "()Z"⟩, 41), (⟨"PathCheckerModel", "holds", "(I)Z"⟩, 41), (⟨"PathCheckerModel", "advance", "()Z"⟩, 41)]
theorem lw_r4 : ∀ q ∈ lw_privs_4, lw_okq q := List.forall_mem_cons.mpr ⟨lw_p48, List.forall_mem_cons.mpr ⟨lw_p49, List.forall_mem_cons.mpr ⟨lw_p50, List.forall_mem_cons.mpr ⟨lw_p51, List.forall_mem_cons.mpr ⟨lw_p52, List.forall_mem_cons.mpr ⟨lw_p53, List.forall_mem_cons.mpr ⟨lw_p54, List.forall_mem_cons.mpr ⟨lw_p55, List.forall_mem_cons.mpr ⟨lw_p56, List.forall_mem_cons.mpr ⟨lw_p57, fun _ h => absurd h List.not_mem_nil⟩⟩⟩⟩⟩⟩⟩⟩⟩⟩
def lw_privs : List (MethodName × Nat) := lw_privs_1 ++ (lw_privs_2 ++ (lw_privs_3 ++ (lw_privs_4)))
def lw_tbl : List Cond := k2_sels lw_privs ++ tables_1
theorem lw_privs_ok : ∀ q ∈ lw_privs, lw_okq q := by
  show ∀ q ∈ lw_privs_1 ++ (lw_privs_2 ++ (lw_privs_3 ++ (lw_privs_4))), lw_okq q
  exact List.forall_mem_append.mpr ⟨lw_r1, List.forall_mem_append.mpr ⟨lw_r2, List.forall_mem_append.mpr ⟨lw_r3, lw_r4⟩⟩⟩
end
section
/-! names of the classes, their fields, methods, codes; the tables' words -/
def R_PC : String := "PathChecker"
def T_PC : u_T := fun k => match k with
  | 0 => ("PathChecker", "text", "[C", true)
  | 1 => ("PathChecker", "typed", "I", false)
  | 2 => ("PathChecker", "reader", "LPathChecker$Reader;", true)
  | 3 => ("PathChecker", "row", "LPathChecker$Path;", true)
  | 4 => ("PathChecker", "search", "LPathChecker$Search;", true)
  | 5 => ("PathChecker", "nearness", "LPathChecker$Nearness;", true)
  | 6 => ("PathChecker", "knots", "LPathChecker$Knots;", true)
  | 7 => ("PathChecker", "graph", "LPathChecker$Graph;", true)
  | 8 => ("PathChecker", "form", "LPathChecker$NormalForm;", true)
  | 9 => ("PathChecker", "structure", "LPathChecker$Structure;", true)
  | _ => ("PathChecker", "upToDate", "Z", false)
def ty_PC : Nat → FieldType := fun k => match k with
  | 0 => .array .char
  | 1 => .int
  | 2 => .object "PathChecker$Reader"
  | 3 => .object "PathChecker$Path"
  | 4 => .object "PathChecker$Search"
  | 5 => .object "PathChecker$Nearness"
  | 6 => .object "PathChecker$Knots"
  | 7 => .object "PathChecker$Graph"
  | 8 => .object "PathChecker$NormalForm"
  | 9 => .object "PathChecker$Structure"
  | _ => .boolean
theorem nm_PC : ∀ a, a < 11 → ∀ b, b < 11 → a ≠ b → (T_PC a).2.1 ≠ (T_PC b).2.1 := by decide +kernel
theorem tyk_PC : ∀ k, k < 11 → parseFieldDescriptor (T_PC k).2.2.1 = some (ty_PC k) := by decide +kernel
def R_GR : String := "PathChecker$Graph"
def T_GR : u_T := fun k => match k with
  | 0 => ("PathChecker$Graph", "form", "LPathChecker$NormalForm;", true)
  | 1 => ("PathChecker$Graph", "structure", "LPathChecker$Structure;", true)
  | 2 => ("PathChecker$Graph", "guesses", "I", false)
  | 3 => ("PathChecker$Graph", "here", "[I", true)
  | 4 => ("PathChecker$Graph", "before", "[I", true)
  | 5 => ("PathChecker$Graph", "guessBefore", "[I", true)
  | 6 => ("PathChecker$Graph", "holding", "[I", true)
  | _ => ("PathChecker$Graph", "prompt", "[I", true)
def ty_GR : Nat → FieldType := fun k => match k with
  | 0 => .object "PathChecker$NormalForm"
  | 1 => .object "PathChecker$Structure"
  | 2 => .int
  | 3 => .array .int
  | 4 => .array .int
  | 5 => .array .int
  | 6 => .array .int
  | _ => .array .int
theorem nm_GR : ∀ a, a < 8 → ∀ b, b < 8 → a ≠ b → (T_GR a).2.1 ≠ (T_GR b).2.1 := by decide +kernel
theorem tyk_GR : ∀ k, k < 8 → parseFieldDescriptor (T_GR k).2.2.1 = some (ty_GR k) := by decide +kernel
def R_KN : String := "PathChecker$Knots"
def T_KN : u_T := fun k => match k with
  | 0 => ("PathChecker$Knots", "graph", "LPathChecker$Graph;", true)
  | 1 => ("PathChecker$Knots", "guesses", "[I", true)
  | 2 => ("PathChecker$Knots", "numbers", "[I", true)
  | 3 => ("PathChecker$Knots", "numbered", "I", false)
  | 4 => ("PathChecker$Knots", "lows", "[I", true)
  | 5 => ("PathChecker$Knots", "tried", "[I", true)
  | 6 => ("PathChecker$Knots", "walk", "[I", true)
  | 7 => ("PathChecker$Knots", "walkCount", "I", false)
  | 8 => ("PathChecker$Knots", "held", "[I", true)
  | 9 => ("PathChecker$Knots", "heldCount", "I", false)
  | 10 => ("PathChecker$Knots", "isHeld", "[Z", true)
  | _ => ("PathChecker$Knots", "members", "[I", true)
def ty_KN : Nat → FieldType := fun k => match k with
  | 0 => .object "PathChecker$Graph"
  | 1 => .array .int
  | 2 => .array .int
  | 3 => .int
  | 4 => .array .int
  | 5 => .array .int
  | 6 => .array .int
  | 7 => .int
  | 8 => .array .int
  | 9 => .int
  | 10 => .array .boolean
  | _ => .array .int
theorem nm_KN : ∀ a, a < 12 → ∀ b, b < 12 → a ≠ b → (T_KN a).2.1 ≠ (T_KN b).2.1 := by decide +kernel
theorem tyk_KN : ∀ k, k < 12 → parseFieldDescriptor (T_KN k).2.2.1 = some (ty_KN k) := by decide +kernel
def R_NE : String := "PathChecker$Nearness"
def T_NE : u_T := fun k => match k with
  | 0 => ("PathChecker$Nearness", "knots", "LPathChecker$Knots;", true)
  | 1 => ("PathChecker$Nearness", "graph", "LPathChecker$Graph;", true)
  | 2 => ("PathChecker$Nearness", "near", "[I", true)
  | _ => ("PathChecker$Nearness", "reaching", "[I", true)
def ty_NE : Nat → FieldType := fun k => match k with
  | 0 => .object "PathChecker$Knots"
  | 1 => .object "PathChecker$Graph"
  | 2 => .array .int
  | _ => .array .int
theorem nm_NE : ∀ a, a < 4 → ∀ b, b < 4 → a ≠ b → (T_NE a).2.1 ≠ (T_NE b).2.1 := by decide +kernel
theorem tyk_NE : ∀ k, k < 4 → parseFieldDescriptor (T_NE k).2.2.1 = some (ty_NE k) := by decide +kernel
def R_NF : String := "PathChecker$NormalForm"
def T_NF : u_T := fun k => match k with
  | 0 => ("PathChecker$NormalForm", "signs", "[C", true)
  | 1 => ("PathChecker$NormalForm", "size", "I", false)
  | 2 => ("PathChecker$NormalForm", "seconds", "[I", true)
  | 3 => ("PathChecker$NormalForm", "ends", "[I", true)
  | 4 => ("PathChecker$NormalForm", "timed", "I", false)
  | 5 => ("PathChecker$NormalForm", "timedParts", "[I", true)
  | 6 => ("PathChecker$NormalForm", "timedNumbers", "[I", true)
  | 7 => ("PathChecker$NormalForm", "todo", "[I", true)
  | 8 => ("PathChecker$NormalForm", "todoNegated", "[Z", true)
  | _ => ("PathChecker$NormalForm", "todoCount", "I", false)
def ty_NF : Nat → FieldType := fun k => match k with
  | 0 => .array .char
  | 1 => .int
  | 2 => .array .int
  | 3 => .array .int
  | 4 => .int
  | 5 => .array .int
  | 6 => .array .int
  | 7 => .array .int
  | 8 => .array .boolean
  | _ => .int
theorem nm_NF : ∀ a, a < 10 → ∀ b, b < 10 → a ≠ b → (T_NF a).2.1 ≠ (T_NF b).2.1 := by decide +kernel
theorem tyk_NF : ∀ k, k < 10 → parseFieldDescriptor (T_NF k).2.2.1 = some (ty_NF k) := by decide +kernel
def R_PA : String := "PathChecker$Path"
def T_PA : u_T := fun k => match k with
  | 0 => ("PathChecker$Path", "states", "[I", true)
  | 1 => ("PathChecker$Path", "count", "I", false)
  | _ => ("PathChecker$Path", "holds", "[I", true)
def ty_PA : Nat → FieldType := fun k => match k with
  | 0 => .array .int
  | 1 => .int
  | _ => .array .int
theorem nm_PA : ∀ a, a < 3 → ∀ b, b < 3 → a ≠ b → (T_PA a).2.1 ≠ (T_PA b).2.1 := by decide +kernel
theorem tyk_PA : ∀ k, k < 3 → parseFieldDescriptor (T_PA k).2.2.1 = some (ty_PA k) := by decide +kernel
def R_RE : String := "PathChecker$Reader"
def T_RE : u_T := fun k => match k with
  | 0 => ("PathChecker$Reader", "signs", "[C", true)
  | 1 => ("PathChecker$Reader", "firsts", "[I", true)
  | 2 => ("PathChecker$Reader", "seconds", "[I", true)
  | 3 => ("PathChecker$Reader", "parts", "I", false)
  | 4 => ("PathChecker$Reader", "timed", "I", false)
  | 5 => ("PathChecker$Reader", "waiting", "[C", true)
  | 6 => ("PathChecker$Reader", "waitingCount", "I", false)
  | 7 => ("PathChecker$Reader", "ready", "[I", true)
  | 8 => ("PathChecker$Reader", "readyCount", "I", false)
  | 9 => ("PathChecker$Reader", "depth", "I", false)
  | _ => ("PathChecker$Reader", "wantsUnit", "Z", false)
def ty_RE : Nat → FieldType := fun k => match k with
  | 0 => .array .char
  | 1 => .array .int
  | 2 => .array .int
  | 3 => .int
  | 4 => .int
  | 5 => .array .char
  | 6 => .int
  | 7 => .array .int
  | 8 => .int
  | 9 => .int
  | _ => .boolean
theorem nm_RE : ∀ a, a < 11 → ∀ b, b < 11 → a ≠ b → (T_RE a).2.1 ≠ (T_RE b).2.1 := by decide +kernel
theorem tyk_RE : ∀ k, k < 11 → parseFieldDescriptor (T_RE k).2.2.1 = some (ty_RE k) := by decide +kernel
def R_SE : String := "PathChecker$Search"
def T_SE : u_T := fun k => match k with
  | 0 => ("PathChecker$Search", "nearness", "LPathChecker$Nearness;", true)
  | 1 => ("PathChecker$Search", "graph", "LPathChecker$Graph;", true)
  | 2 => ("PathChecker$Search", "lasso", "LPathChecker$Path;", true)
  | 3 => ("PathChecker$Search", "open", "[I", true)
  | 4 => ("PathChecker$Search", "start", "I", false)
  | _ => ("PathChecker$Search", "loop", "I", false)
def ty_SE : Nat → FieldType := fun k => match k with
  | 0 => .object "PathChecker$Nearness"
  | 1 => .object "PathChecker$Graph"
  | 2 => .object "PathChecker$Path"
  | 3 => .array .int
  | 4 => .int
  | _ => .int
theorem nm_SE : ∀ a, a < 6 → ∀ b, b < 6 → a ≠ b → (T_SE a).2.1 ≠ (T_SE b).2.1 := by decide +kernel
theorem tyk_SE : ∀ k, k < 6 → parseFieldDescriptor (T_SE k).2.2.1 = some (ty_SE k) := by decide +kernel
def R_ST : String := "PathChecker$Structure"
def T_ST : u_T := fun k => match k with
  | 0 => ("PathChecker$Structure", "marks", "[I", true)
  | _ => ("PathChecker$Structure", "links", "[I", true)
def ty_ST : Nat → FieldType := fun k => match k with
  | 0 => .array .int
  | _ => .array .int
theorem nm_ST : ∀ a, a < 2 → ∀ b, b < 2 → a ≠ b → (T_ST a).2.1 ≠ (T_ST b).2.1 := by decide +kernel
theorem tyk_ST : ∀ k, k < 2 → parseFieldDescriptor (T_ST k).2.2.1 = some (ty_ST k) := by decide +kernel
def R_MO : String := "PathCheckerModel"
def T_MO : u_T := fun k => match k with
  | 0 => ("PathCheckerModel", "thrown", "I", false)
  | 1 => ("PathCheckerModel", "length", "I", false)
  | 2 => ("PathCheckerModel", "text", "[I", false)
  | 3 => ("PathCheckerModel", "loaded", "Z", false)
  | 4 => ("PathCheckerModel", "nodes", "I", false)
  | 5 => ("PathCheckerModel", "kind", "[I", false)
  | 6 => ("PathCheckerModel", "left", "[I", false)
  | 7 => ("PathCheckerModel", "right", "[I", false)
  | 8 => ("PathCheckerModel", "bitOf", "[I", false)
  | 9 => ("PathCheckerModel", "timed", "I", false)
  | 10 => ("PathCheckerModel", "made", "I", false)
  | 11 => ("PathCheckerModel", "newKind", "[I", false)
  | 12 => ("PathCheckerModel", "newLeft", "[I", false)
  | 13 => ("PathCheckerModel", "newRight", "[I", false)
  | 14 => ("PathCheckerModel", "operands", "I", false)
  | 15 => ("PathCheckerModel", "operand", "[I", false)
  | 16 => ("PathCheckerModel", "waiting", "I", false)
  | 17 => ("PathCheckerModel", "operator", "[I", false)
  | 18 => ("PathCheckerModel", "deepest", "I", false)
  | 19 => ("PathCheckerModel", "normals", "I", false)
  | 20 => ("PathCheckerModel", "normalForm", "[I", false)
  | 21 => ("PathCheckerModel", "marks", "[I", false)
  | 22 => ("PathCheckerModel", "links", "[Z", false)
  | 23 => ("PathCheckerModel", "rows", "I", false)
  | 24 => ("PathCheckerModel", "row", "[I", false)
  | 25 => ("PathCheckerModel", "known", "Z", false)
  | 26 => ("PathCheckerModel", "before", "[I", false)
  | 27 => ("PathCheckerModel", "top", "[Z", false)
  | 28 => ("PathCheckerModel", "value", "[Z", false)
  | 29 => ("PathCheckerModel", "fair", "[J", false)
  | 30 => ("PathCheckerModel", "good", "[J", false)
  | 31 => ("PathCheckerModel", "reach", "[J", false)
  | 32 => ("PathCheckerModel", "back", "[J", false)
  | 33 => ("PathCheckerModel", "goal", "[J", false)
  | 34 => ("PathCheckerModel", "size", "I", false)
  | 35 => ("PathCheckerModel", "turn", "I", false)
  | 36 => ("PathCheckerModel", "lasso", "[I", false)
  | 37 => ("PathCheckerModel", "at", "[Z", false)
  | 38 => ("PathCheckerModel", "foundSize", "[I", false)
  | 39 => ("PathCheckerModel", "foundTurn", "[I", false)
  | _ => ("PathCheckerModel", "found", "[I", false)
def ty_MO : Nat → FieldType := fun k => match k with
  | 0 => .int
  | 1 => .int
  | 2 => .array .int
  | 3 => .boolean
  | 4 => .int
  | 5 => .array .int
  | 6 => .array .int
  | 7 => .array .int
  | 8 => .array .int
  | 9 => .int
  | 10 => .int
  | 11 => .array .int
  | 12 => .array .int
  | 13 => .array .int
  | 14 => .int
  | 15 => .array .int
  | 16 => .int
  | 17 => .array .int
  | 18 => .int
  | 19 => .int
  | 20 => .array .int
  | 21 => .array .int
  | 22 => .array .boolean
  | 23 => .int
  | 24 => .array .int
  | 25 => .boolean
  | 26 => .array .int
  | 27 => .array .boolean
  | 28 => .array .boolean
  | 29 => .array .long
  | 30 => .array .long
  | 31 => .array .long
  | 32 => .array .long
  | 33 => .array .long
  | 34 => .int
  | 35 => .int
  | 36 => .array .int
  | 37 => .array .boolean
  | 38 => .array .int
  | 39 => .array .int
  | _ => .array .int
theorem nm_MO : ∀ a, a < 41 → ∀ b, b < 41 → a ≠ b → (T_MO a).2.1 ≠ (T_MO b).2.1 := by decide +kernel
theorem tyk_MO : ∀ k, k < 41 → parseFieldDescriptor (T_MO k).2.2.1 = some (ty_MO k) := by decide +kernel
abbrev vwCl : List vw_C := [(R_PC, T_PC, 11), (R_GR, T_GR, 8), (R_KN, T_KN, 12), (R_NE, T_NE, 4), (R_NF, T_NF, 10), (R_PA, T_PA, 3), (R_RE, T_RE, 11), (R_SE, T_SE, 6), (R_ST, T_ST, 2), (R_MO, T_MO, 41)]
def yPC_init : MethodName := ⟨"PathChecker", "<init>", "()V"⟩
abbrev cPC_init : ByteArray := prog_1_method_1_code
def yPC_type : MethodName := ⟨"PathChecker", "type", "(J)Z"⟩
abbrev cPC_type : ByteArray := prog_1_method_2_code
def yPC_wipe : MethodName := ⟨"PathChecker", "wipe", "()V"⟩
abbrev cPC_wipe : ByteArray := prog_1_method_3_code
def yPC_length : MethodName := ⟨"PathChecker", "length", "()I"⟩
abbrev cPC_length : ByteArray := prog_1_method_4_code
def yPC_formula : MethodName := ⟨"PathChecker", "formula", "()I"⟩
abbrev cPC_formula : ByteArray := prog_1_method_5_code
def yPC_normal : MethodName := ⟨"PathChecker", "normal", "(I)I"⟩
abbrev cPC_normal : ByteArray := prog_1_method_6_code
def yPC_mark : MethodName := ⟨"PathChecker", "mark", "(II)Z"⟩
abbrev cPC_mark : ByteArray := prog_1_method_7_code
def yPC_link : MethodName := ⟨"PathChecker", "link", "(IIZ)Z"⟩
abbrev cPC_link : ByteArray := prog_1_method_8_code
def yPC_state : MethodName := ⟨"PathChecker", "state", "(II)I"⟩
abbrev cPC_state : ByteArray := prog_1_method_9_code
def yPC_endless : MethodName := ⟨"PathChecker", "endless", "(I)Z"⟩
abbrev cPC_endless : ByteArray := prog_1_method_10_code
def yPC_keeps : MethodName := ⟨"PathChecker", "keeps", "(I)Z"⟩
abbrev cPC_keeps : ByteArray := prog_1_method_11_code
def yPC_breaking : MethodName := ⟨"PathChecker", "breaking", "()I"⟩
abbrev cPC_breaking : ByteArray := prog_1_method_12_code
def yPC_keeping : MethodName := ⟨"PathChecker", "keeping", "()I"⟩
abbrev cPC_keeping : ByteArray := prog_1_method_13_code
def yPC_witness : MethodName := ⟨"PathChecker", "witness", "(II)I"⟩
abbrev cPC_witness : ByteArray := prog_1_method_14_code
def yPC_go : MethodName := ⟨"PathChecker", "go", "(I)I"⟩
abbrev cPC_go : ByteArray := prog_1_method_15_code
def yPC_clear : MethodName := ⟨"PathChecker", "clear", "()V"⟩
abbrev cPC_clear : ByteArray := prog_1_method_16_code
def yPC_judge : MethodName := ⟨"PathChecker", "judge", "(II)Z"⟩
abbrev cPC_judge : ByteArray := prog_1_method_17_code
def yPC_isState : MethodName := ⟨"PathChecker", "isState", "(I)Z"⟩
abbrev cPC_isState : ByteArray := prog_1_method_18_code
def yPC_bringUpToDate : MethodName := ⟨"PathChecker", "bringUpToDate", "()V"⟩
abbrev cPC_bringUpToDate : ByteArray := prog_1_method_19_code
def yGR_init : MethodName := ⟨"PathChecker$Graph", "<init>", "()V"⟩
abbrev cGR_init : ByteArray := prog_2_method_1_code
def yGR_build : MethodName := ⟨"PathChecker$Graph", "build", "()V"⟩
abbrev cGR_build : ByteArray := prog_2_method_2_code
def yGR_weighHere : MethodName := ⟨"PathChecker$Graph", "weighHere", "(I)V"⟩
abbrev cGR_weighHere : ByteArray := prog_2_method_3_code
def yGR_promptGuesses : MethodName := ⟨"PathChecker$Graph", "promptGuesses", "(II)I"⟩
abbrev cGR_promptGuesses : ByteArray := prog_2_method_4_code
def yGR_weighBefore : MethodName := ⟨"PathChecker$Graph", "weighBefore", "(I)V"⟩
abbrev cGR_weighBefore : ByteArray := prog_2_method_5_code
def yGR_timedBefore : MethodName := ⟨"PathChecker$Graph", "timedBefore", "(II)I"⟩
abbrev cGR_timedBefore : ByteArray := prog_2_method_6_code
def yGR_untimed : MethodName := ⟨"PathChecker$Graph", "untimed", "([III)I"⟩
abbrev cGR_untimed : ByteArray := prog_2_method_7_code
def yGR_writeGuesses : MethodName := ⟨"PathChecker$Graph", "writeGuesses", "(II)V"⟩
abbrev cGR_writeGuesses : ByteArray := prog_2_method_8_code
def yGR_guessBefore : MethodName := ⟨"PathChecker$Graph", "guessBefore", "(III)I"⟩
abbrev cGR_guessBefore : ByteArray := prog_2_method_9_code
def yGR_guessesBefore : MethodName := ⟨"PathChecker$Graph", "guessesBefore", "(III)I"⟩
abbrev cGR_guessesBefore : ByteArray := prog_2_method_10_code
def yGR_guessesAfter : MethodName := ⟨"PathChecker$Graph", "guessesAfter", "(IIII)I"⟩
abbrev cGR_guessesAfter : ByteArray := prog_2_method_11_code
def yKN_init : MethodName := ⟨"PathChecker$Knots", "<init>", "()V"⟩
abbrev cKN_init : ByteArray := prog_3_method_1_code
def yKN_find : MethodName := ⟨"PathChecker$Knots", "find", "()V"⟩
abbrev cKN_find : ByteArray := prog_3_method_2_code
def yKN_startAnew : MethodName := ⟨"PathChecker$Knots", "startAnew", "()V"⟩
abbrev cKN_startAnew : ByteArray := prog_3_method_3_code
def yKN_walkFrom : MethodName := ⟨"PathChecker$Knots", "walkFrom", "(I)V"⟩
abbrev cKN_walkFrom : ByteArray := prog_3_method_4_code
def yKN_enter : MethodName := ⟨"PathChecker$Knots", "enter", "(I)V"⟩
abbrev cKN_enter : ByteArray := prog_3_method_5_code
def yKN_tryStep : MethodName := ⟨"PathChecker$Knots", "tryStep", "(II)V"⟩
abbrev cKN_tryStep : ByteArray := prog_3_method_6_code
def yKN_release : MethodName := ⟨"PathChecker$Knots", "release", "(I)V"⟩
abbrev cKN_release : ByteArray := prog_3_method_7_code
def yKN_goesToItself : MethodName := ⟨"PathChecker$Knots", "goesToItself", "(I)Z"⟩
abbrev cKN_goesToItself : ByteArray := prog_3_method_8_code
def yKN_isPrompt : MethodName := ⟨"PathChecker$Knots", "isPrompt", "()Z"⟩
abbrev cKN_isPrompt : ByteArray := prog_3_method_9_code
def yNE_init : MethodName := ⟨"PathChecker$Nearness", "<init>", "()V"⟩
abbrev cNE_init : ByteArray := prog_4_method_1_code
def yNE_measure : MethodName := ⟨"PathChecker$Nearness", "measure", "()V"⟩
abbrev cNE_measure : ByteArray := prog_4_method_2_code
def yNE_growReaching : MethodName := ⟨"PathChecker$Nearness", "growReaching", "()Z"⟩
abbrev cNE_growReaching : ByteArray := prog_4_method_3_code
def yNE_oneStepMore : MethodName := ⟨"PathChecker$Nearness", "oneStepMore", "([III)I"⟩
abbrev cNE_oneStepMore : ByteArray := prog_4_method_4_code
def yNE_within : MethodName := ⟨"PathChecker$Nearness", "within", "(II)I"⟩
abbrev cNE_within : ByteArray := prog_4_method_5_code
def yNE_statesWithPath : MethodName := ⟨"PathChecker$Nearness", "statesWithPath", "(Z)I"⟩
abbrev cNE_statesWithPath : ByteArray := prog_4_method_6_code
def yNF_init : MethodName := ⟨"PathChecker$NormalForm", "<init>", "()V"⟩
abbrev cNF_init : ByteArray := prog_5_method_1_code
def yNF_isMissing : MethodName := ⟨"PathChecker$NormalForm", "isMissing", "()Z"⟩
abbrev cNF_isMissing : ByteArray := prog_5_method_2_code
def yNF_take : MethodName := ⟨"PathChecker$NormalForm", "take", "(LPathChecker$Reader;)V"⟩
abbrev cNF_take : ByteArray := prog_5_method_3_code
def yNF_write : MethodName := ⟨"PathChecker$NormalForm", "write", "(LPathChecker$Reader;)V"⟩
abbrev cNF_write : ByteArray := prog_5_method_4_code
def yNF_keepForLater : MethodName := ⟨"PathChecker$NormalForm", "keepForLater", "(IZ)V"⟩
abbrev cNF_keepForLater : ByteArray := prog_5_method_5_code
def yNF_writeSigns : MethodName := ⟨"PathChecker$NormalForm", "writeSigns", "(CZ)V"⟩
abbrev cNF_writeSigns : ByteArray := prog_5_method_6_code
def yNF_add : MethodName := ⟨"PathChecker$NormalForm", "add", "(C)V"⟩
abbrev cNF_add : ByteArray := prog_5_method_7_code
def yNF_opposite : MethodName := ⟨"PathChecker$NormalForm", "opposite", "(C)C"⟩
abbrev cNF_opposite : ByteArray := prog_5_method_8_code
def yNF_connect : MethodName := ⟨"PathChecker$NormalForm", "connect", "()V"⟩
abbrev cNF_connect : ByteArray := prog_5_method_9_code
def yNF_isBinary : MethodName := ⟨"PathChecker$NormalForm", "isBinary", "(C)Z"⟩
abbrev cNF_isBinary : ByteArray := prog_5_method_10_code
def yNF_leafHolds : MethodName := ⟨"PathChecker$NormalForm", "leafHolds", "(CI)Z"⟩
abbrev cNF_leafHolds : ByteArray := prog_5_method_11_code
def yPA_init : MethodName := ⟨"PathChecker$Path", "<init>", "(I)V"⟩
abbrev cPA_init : ByteArray := prog_6_method_1_code
def yPA_hasPlace : MethodName := ⟨"PathChecker$Path", "hasPlace", "(I)Z"⟩
abbrev cPA_hasPlace : ByteArray := prog_6_method_2_code
def yPA_isLinked : MethodName := ⟨"PathChecker$Path", "isLinked", "(LPathChecker$Structure;I)Z"⟩
abbrev cPA_isLinked : ByteArray := prog_6_method_3_code
def yPA_placesOf : MethodName := ⟨"PathChecker$Path", "placesOf", "(LPathChecker$NormalForm;LPathChecker$Structure;I)I"⟩
abbrev cPA_placesOf : ByteArray := prog_6_method_4_code
def yPA_placesOfUntil : MethodName := ⟨"PathChecker$Path", "placesOfUntil", "(III)I"⟩
abbrev cPA_placesOfUntil : ByteArray := prog_6_method_5_code
def yPA_placesOfRelease : MethodName := ⟨"PathChecker$Path", "placesOfRelease", "(III)I"⟩
abbrev cPA_placesOfRelease : ByteArray := prog_6_method_6_code
def yPA_placesBefore : MethodName := ⟨"PathChecker$Path", "placesBefore", "(II)I"⟩
abbrev cPA_placesBefore : ByteArray := prog_6_method_7_code
def yPA_placesOfLeaf : MethodName := ⟨"PathChecker$Path", "placesOfLeaf", "(CLPathChecker$Structure;)I"⟩
abbrev cPA_placesOfLeaf : ByteArray := prog_6_method_8_code
def yRE_init : MethodName := ⟨"PathChecker$Reader", "<init>", "()V"⟩
abbrev cRE_init : ByteArray := prog_7_method_1_code
def yRE_reads : MethodName := ⟨"PathChecker$Reader", "reads", "([CI)Z"⟩
abbrev cRE_reads : ByteArray := prog_7_method_2_code
def yRE_startAnew : MethodName := ⟨"PathChecker$Reader", "startAnew", "()V"⟩
abbrev cRE_startAnew : ByteArray := prog_7_method_3_code
def yRE_takeInUnit : MethodName := ⟨"PathChecker$Reader", "takeInUnit", "(C)Z"⟩
abbrev cRE_takeInUnit : ByteArray := prog_7_method_4_code
def yRE_takeBehindUnit : MethodName := ⟨"PathChecker$Reader", "takeBehindUnit", "(C)Z"⟩
abbrev cRE_takeBehindUnit : ByteArray := prog_7_method_5_code
def yRE_await : MethodName := ⟨"PathChecker$Reader", "await", "(C)V"⟩
abbrev cRE_await : ByteArray := prog_7_method_6_code
def yRE_joinDownTo : MethodName := ⟨"PathChecker$Reader", "joinDownTo", "(I)V"⟩
abbrev cRE_joinDownTo : ByteArray := prog_7_method_7_code
def yRE_join : MethodName := ⟨"PathChecker$Reader", "join", "(C)V"⟩
abbrev cRE_join : ByteArray := prog_7_method_8_code
def yRE_newPart : MethodName := ⟨"PathChecker$Reader", "newPart", "(CII)I"⟩
abbrev cRE_newPart : ByteArray := prog_7_method_9_code
def yRE_isLeaf : MethodName := ⟨"PathChecker$Reader", "isLeaf", "(C)Z"⟩
abbrev cRE_isLeaf : ByteArray := prog_7_method_10_code
def yRE_isTimed : MethodName := ⟨"PathChecker$Reader", "isTimed", "(C)Z"⟩
abbrev cRE_isTimed : ByteArray := prog_7_method_11_code
def yRE_groupsToTheRight : MethodName := ⟨"PathChecker$Reader", "groupsToTheRight", "(C)Z"⟩
abbrev cRE_groupsToTheRight : ByteArray := prog_7_method_12_code
def yRE_rank : MethodName := ⟨"PathChecker$Reader", "rank", "(C)I"⟩
abbrev cRE_rank : ByteArray := prog_7_method_13_code
def ySE_init : MethodName := ⟨"PathChecker$Search", "<init>", "()V"⟩
abbrev cSE_init : ByteArray := prog_8_method_1_code
def ySE_forget : MethodName := ⟨"PathChecker$Search", "forget", "()V"⟩
abbrev cSE_forget : ByteArray := prog_8_method_2_code
def ySE_lookFrom : MethodName := ⟨"PathChecker$Search", "lookFrom", "(I)V"⟩
abbrev cSE_lookFrom : ByteArray := prog_8_method_3_code
def ySE_extend : MethodName := ⟨"PathChecker$Search", "extend", "(I)V"⟩
abbrev cSE_extend : ByteArray := prog_8_method_4_code
def ySE_closeLoop : MethodName := ⟨"PathChecker$Search", "closeLoop", "(I)V"⟩
abbrev cSE_closeLoop : ByteArray := prog_8_method_5_code
def ySE_mayGoOnAt : MethodName := ⟨"PathChecker$Search", "mayGoOnAt", "(II)Z"⟩
abbrev cSE_mayGoOnAt : ByteArray := prog_8_method_6_code
def yST_init : MethodName := ⟨"PathChecker$Structure", "<init>", "()V"⟩
abbrev cST_init : ByteArray := prog_9_method_1_code
def yST_joins : MethodName := ⟨"PathChecker$Structure", "joins", "(II)Z"⟩
abbrev cST_joins : ByteArray := prog_9_method_2_code
def yST_statesWithPath : MethodName := ⟨"PathChecker$Structure", "statesWithPath", "()I"⟩
abbrev cST_statesWithPath : ByteArray := prog_9_method_3_code
def yMO_init : MethodName := ⟨"PathCheckerModel", "<init>", "()V"⟩
abbrev cMO_init : ByteArray := prog_11_method_1_code
def yMO_thrown : MethodName := ⟨"PathCheckerModel", "thrown", "()I"⟩
abbrev cMO_thrown : ByteArray := prog_11_method_2_code
def yMO_type : MethodName := ⟨"PathCheckerModel", "type", "(J)Z"⟩
abbrev cMO_type : ByteArray := prog_11_method_3_code
def yMO_wipe : MethodName := ⟨"PathCheckerModel", "wipe", "()V"⟩
abbrev cMO_wipe : ByteArray := prog_11_method_4_code
def yMO_length : MethodName := ⟨"PathCheckerModel", "length", "()I"⟩
abbrev cMO_length : ByteArray := prog_11_method_5_code
def yMO_isAtom : MethodName := ⟨"PathCheckerModel", "isAtom", "(I)Z"⟩
abbrev cMO_isAtom : ByteArray := prog_11_method_6_code
def yMO_isPrefix : MethodName := ⟨"PathCheckerModel", "isPrefix", "(I)Z"⟩
abbrev cMO_isPrefix : ByteArray := prog_11_method_7_code
def yMO_isTimed : MethodName := ⟨"PathCheckerModel", "isTimed", "(I)Z"⟩
abbrev cMO_isTimed : ByteArray := prog_11_method_8_code
def yMO_strength : MethodName := ⟨"PathCheckerModel", "strength", "(I)I"⟩
abbrev cMO_strength : ByteArray := prog_11_method_9_code
def yMO_node : MethodName := ⟨"PathCheckerModel", "node", "(III)V"⟩
abbrev cMO_node : ByteArray := prog_11_method_10_code
def yMO_reduce : MethodName := ⟨"PathCheckerModel", "reduce", "()V"⟩
abbrev cMO_reduce : ByteArray := prog_11_method_11_code
def yMO_reduceFrom : MethodName := ⟨"PathCheckerModel", "reduceFrom", "(I)V"⟩
abbrev cMO_reduceFrom : ByteArray := prog_11_method_12_code
def yMO_reads : MethodName := ⟨"PathCheckerModel", "reads", "()Z"⟩
abbrev cMO_reads : ByteArray := prog_11_method_13_code
def yMO_countTimed : MethodName := ⟨"PathCheckerModel", "countTimed", "()I"⟩
abbrev cMO_countTimed : ByteArray := prog_11_method_14_code
def yMO_formula : MethodName := ⟨"PathCheckerModel", "formula", "()I"⟩
abbrev cMO_formula : ByteArray := prog_11_method_15_code
def yMO_emit : MethodName := ⟨"PathCheckerModel", "emit", "(I)V"⟩
abbrev cMO_emit : ByteArray := prog_11_method_16_code
def yMO_hold : MethodName := ⟨"PathCheckerModel", "hold", "(IZ)V"⟩
abbrev cMO_hold : ByteArray := prog_11_method_17_code
def yMO_write : MethodName := ⟨"PathCheckerModel", "write", "()V"⟩
abbrev cMO_write : ByteArray := prog_11_method_18_code
def yMO_normal : MethodName := ⟨"PathCheckerModel", "normal", "(I)I"⟩
abbrev cMO_normal : ByteArray := prog_11_method_19_code
def yMO_isState : MethodName := ⟨"PathCheckerModel", "isState", "(I)Z"⟩
abbrev cMO_isState : ByteArray := prog_11_method_20_code
def yMO_forget : MethodName := ⟨"PathCheckerModel", "forget", "()V"⟩
abbrev cMO_forget : ByteArray := prog_11_method_21_code
def yMO_mark : MethodName := ⟨"PathCheckerModel", "mark", "(II)Z"⟩
abbrev cMO_mark : ByteArray := prog_11_method_22_code
def yMO_link : MethodName := ⟨"PathCheckerModel", "link", "(IIZ)Z"⟩
abbrev cMO_link : ByteArray := prog_11_method_23_code
def yMO_state : MethodName := ⟨"PathCheckerModel", "state", "(II)I"⟩
abbrev cMO_state : ByteArray := prog_11_method_24_code
def yMO_endless : MethodName := ⟨"PathCheckerModel", "endless", "(I)Z"⟩
abbrev cMO_endless : ByteArray := prog_11_method_25_code
def yMO_plain : MethodName := ⟨"PathCheckerModel", "plain", "(II)Z"⟩
abbrev cMO_plain : ByteArray := prog_11_method_26_code
def yMO_evaluate : MethodName := ⟨"PathCheckerModel", "evaluate", "(II)V"⟩
abbrev cMO_evaluate : ByteArray := prog_11_method_27_code
def yMO_decider : MethodName := ⟨"PathCheckerModel", "decider", "(I)I"⟩
abbrev cMO_decider : ByteArray := prog_11_method_28_code
def yMO_bitsBefore : MethodName := ⟨"PathCheckerModel", "bitsBefore", "(III)I"⟩
abbrev cMO_bitsBefore : ByteArray := prog_11_method_29_code
def yMO_tables : MethodName := ⟨"PathCheckerModel", "tables", "()V"⟩
abbrev cMO_tables : ByteArray := prog_11_method_30_code
def yMO_step : MethodName := ⟨"PathCheckerModel", "step", "()V"⟩
abbrev cMO_step : ByteArray := prog_11_method_31_code
def yMO_cut : MethodName := ⟨"PathCheckerModel", "cut", "(I)Z"⟩
abbrev cMO_cut : ByteArray := prog_11_method_32_code
def yMO_study : MethodName := ⟨"PathCheckerModel", "study", "()V"⟩
abbrev cMO_study : ByteArray := prog_11_method_33_code
def yMO_someone : MethodName := ⟨"PathCheckerModel", "someone", "(Z)I"⟩
abbrev cMO_someone : ByteArray := prog_11_method_34_code
def yMO_keeps : MethodName := ⟨"PathCheckerModel", "keeps", "(I)Z"⟩
abbrev cMO_keeps : ByteArray := prog_11_method_35_code
def yMO_breaking : MethodName := ⟨"PathCheckerModel", "breaking", "()I"⟩
abbrev cMO_breaking : ByteArray := prog_11_method_36_code
def yMO_keeping : MethodName := ⟨"PathCheckerModel", "keeping", "()I"⟩
abbrev cMO_keeping : ByteArray := prog_11_method_37_code
def yMO_holds : MethodName := ⟨"PathCheckerModel", "holds", "(I)Z"⟩
abbrev cMO_holds : ByteArray := prog_11_method_38_code
def yMO_advance : MethodName := ⟨"PathCheckerModel", "advance", "()Z"⟩
abbrev cMO_advance : ByteArray := prog_11_method_39_code
def yMO_linked : MethodName := ⟨"PathCheckerModel", "linked", "()Z"⟩
abbrev cMO_linked : ByteArray := prog_11_method_40_code
def yMO_search : MethodName := ⟨"PathCheckerModel", "search", "(I)V"⟩
abbrev cMO_search : ByteArray := prog_11_method_41_code
def yMO_witness : MethodName := ⟨"PathCheckerModel", "witness", "(II)I"⟩
abbrev cMO_witness : ByteArray := prog_11_method_42_code
def yMO_go : MethodName := ⟨"PathCheckerModel", "go", "(I)I"⟩
abbrev cMO_go : ByteArray := prog_11_method_43_code
def yMO_clear : MethodName := ⟨"PathCheckerModel", "clear", "()V"⟩
abbrev cMO_clear : ByteArray := prog_11_method_44_code
def yMO_judge : MethodName := ⟨"PathCheckerModel", "judge", "(II)Z"⟩
abbrev cMO_judge : ByteArray := prog_11_method_45_code
def yLAW_formula : MethodName := ⟨"PathCheckerLaw", "formula", "(LPathChecker;[J)I"⟩
abbrev cLAW_formula : ByteArray := method_3_code
def yLAW_normal : MethodName := ⟨"PathCheckerLaw", "normal", "(LPathChecker;I[J)I"⟩
abbrev cLAW_normal : ByteArray := method_4_code
def yLAW_keeps : MethodName := ⟨"PathCheckerLaw", "keeps", "(LPathChecker;I[J)I"⟩
abbrev cLAW_keeps : ByteArray := method_5_code
def yLAW_breaking : MethodName := ⟨"PathCheckerLaw", "breaking", "(LPathChecker;[J)I"⟩
abbrev cLAW_breaking : ByteArray := method_6_code
def yLAW_keeping : MethodName := ⟨"PathCheckerLaw", "keeping", "(LPathChecker;[J)I"⟩
abbrev cLAW_keeping : ByteArray := method_7_code
def yLAW_witness : MethodName := ⟨"PathCheckerLaw", "witness", "(LPathChecker;II[J)I"⟩
abbrev cLAW_witness : ByteArray := method_8_code
def yLAW_judge : MethodName := ⟨"PathCheckerLaw", "judge", "(LPathChecker;II[J)I"⟩
abbrev cLAW_judge : ByteArray := method_9_code
abbrev cLAW_law : ByteArray := code
def zwd : List Cond := lw_tbl.filter goodWord
theorem zgood (w : Cond) (h : w ∈ zwd) : (w.onTables && w.keeps) = true ∨ ∃ ty, w = .arrayClass ty := good_of_word (List.mem_filter.mp h).2
theorem zwd_in (w : Cond) (h : w ∈ zwd) : w ∈ lw_tbl := (List.mem_filter.mp h).1
theorem qw_of {w : Cond} (i : Nat) (h : lw_tbl[i]? = some w) (hg : goodWord w = true) : w ∈ zwd := List.mem_filter.mpr ⟨List.mem_of_getElem? h, hg⟩
theorem qw_0 : (Jvm.Cond.initialized "PathCheckerLaw") ∈ zwd := qw_of 58 (by decide +kernel) (by decide +kernel)
theorem qw_1 : (Jvm.Cond.initialized "PathChecker") ∈ zwd := qw_of 59 (by decide +kernel) (by decide +kernel)
theorem qw_2 : (Jvm.Cond.initialized "PathChecker$Reader") ∈ zwd := qw_of 60 (by decide +kernel) (by decide +kernel)
theorem qw_3 : (Jvm.Cond.initialized "PathChecker$Path") ∈ zwd := qw_of 61 (by decide +kernel) (by decide +kernel)
theorem qw_4 : (Jvm.Cond.initialized "PathChecker$Search") ∈ zwd := qw_of 62 (by decide +kernel) (by decide +kernel)
theorem qw_5 : (Jvm.Cond.initialized "PathChecker$Nearness") ∈ zwd := qw_of 63 (by decide +kernel) (by decide +kernel)
theorem qw_6 : (Jvm.Cond.initialized "PathChecker$Knots") ∈ zwd := qw_of 64 (by decide +kernel) (by decide +kernel)
theorem qw_7 : (Jvm.Cond.initialized "PathChecker$Graph") ∈ zwd := qw_of 65 (by decide +kernel) (by decide +kernel)
theorem qw_8 : (Jvm.Cond.initialized "PathChecker$NormalForm") ∈ zwd := qw_of 66 (by decide +kernel) (by decide +kernel)
theorem qw_9 : (Jvm.Cond.initialized "PathChecker$Structure") ∈ zwd := qw_of 67 (by decide +kernel) (by decide +kernel)
theorem qw_10 : (Jvm.Cond.initialized "PathCheckerModel") ∈ zwd := qw_of 68 (by decide +kernel) (by decide +kernel)
theorem qw_11 : (Jvm.Cond.initialized "java/lang/Math") ∈ zwd := qw_of 69 (by decide +kernel) (by decide +kernel)
theorem qw_23 : (Jvm.Cond.code ({ cls := "PathChecker", name := "<init>", desc := "()V" } : Jvm.MethodName) prog_1_method_1_code (1 : Nat) (Option.none : Option Jvm.ClassFile.FieldType)) ∈ zwd := qw_of 81 (by decide +kernel) (by decide +kernel)
theorem qw_31 : (Jvm.Cond.code ({ cls := "PathChecker$Reader", name := "<init>", desc := "()V" } : Jvm.MethodName) prog_7_method_1_code (1 : Nat) (Option.none : Option Jvm.ClassFile.FieldType)) ∈ zwd := qw_of 89 (by decide +kernel) (by decide +kernel)
theorem qw_33 : (Jvm.Cond.fieldLink "PathChecker$Reader" (9 : Nat) "PathChecker$Reader" "signs" "[C") ∈ zwd := qw_of 91 (by decide +kernel) (by decide +kernel)
theorem qw_35 : (Jvm.Cond.fieldLink "PathChecker$Reader" (15 : Nat) "PathChecker$Reader" "firsts" "[I") ∈ zwd := qw_of 93 (by decide +kernel) (by decide +kernel)
theorem qw_37 : (Jvm.Cond.fieldLink "PathChecker$Reader" (19 : Nat) "PathChecker$Reader" "seconds" "[I") ∈ zwd := qw_of 95 (by decide +kernel) (by decide +kernel)
theorem qw_39 : (Jvm.Cond.fieldLink "PathChecker$Reader" (56 : Nat) "PathChecker$Reader" "parts" "I") ∈ zwd := qw_of 97 (by decide +kernel) (by decide +kernel)
theorem qw_41 : (Jvm.Cond.fieldLink "PathChecker$Reader" (45 : Nat) "PathChecker$Reader" "timed" "I") ∈ zwd := qw_of 99 (by decide +kernel) (by decide +kernel)
theorem qw_43 : (Jvm.Cond.fieldLink "PathChecker$Reader" (22 : Nat) "PathChecker$Reader" "waiting" "[C") ∈ zwd := qw_of 101 (by decide +kernel) (by decide +kernel)
theorem qw_44 : (Jvm.Cond.fieldLink "PathChecker$Reader" (59 : Nat) "PathChecker$Reader" "waitingCount" "I") ∈ zwd := qw_of 102 (by decide +kernel) (by decide +kernel)
theorem qw_45 : (Jvm.Cond.fieldLink "PathChecker$Reader" (25 : Nat) "PathChecker$Reader" "ready" "[I") ∈ zwd := qw_of 103 (by decide +kernel) (by decide +kernel)
theorem qw_46 : (Jvm.Cond.fieldLink "PathChecker$Reader" (62 : Nat) "PathChecker$Reader" "readyCount" "I") ∈ zwd := qw_of 104 (by decide +kernel) (by decide +kernel)
theorem qw_47 : (Jvm.Cond.fieldLink "PathChecker$Reader" (49 : Nat) "PathChecker$Reader" "depth" "I") ∈ zwd := qw_of 105 (by decide +kernel) (by decide +kernel)
theorem qw_48 : (Jvm.Cond.fieldLink "PathChecker$Reader" (31 : Nat) "PathChecker$Reader" "wantsUnit" "Z") ∈ zwd := qw_of 106 (by decide +kernel) (by decide +kernel)
theorem qw_49 : (Jvm.Cond.laysFinal "PathChecker$Reader" "PathChecker$Reader" "signs" "[C") ∈ zwd := qw_of 107 (by decide +kernel) (by decide +kernel)
theorem qw_51 : (Jvm.Cond.laysFinal "PathChecker$Reader" "PathChecker$Reader" "firsts" "[I") ∈ zwd := qw_of 109 (by decide +kernel) (by decide +kernel)
theorem qw_53 : (Jvm.Cond.laysFinal "PathChecker$Reader" "PathChecker$Reader" "seconds" "[I") ∈ zwd := qw_of 111 (by decide +kernel) (by decide +kernel)
theorem qw_55 : (Jvm.Cond.lays "PathChecker$Reader" "PathChecker$Reader" "parts" "I") ∈ zwd := qw_of 113 (by decide +kernel) (by decide +kernel)
theorem qw_57 : (Jvm.Cond.lays "PathChecker$Reader" "PathChecker$Reader" "timed" "I") ∈ zwd := qw_of 115 (by decide +kernel) (by decide +kernel)
theorem qw_59 : (Jvm.Cond.laysFinal "PathChecker$Reader" "PathChecker$Reader" "waiting" "[C") ∈ zwd := qw_of 117 (by decide +kernel) (by decide +kernel)
theorem qw_61 : (Jvm.Cond.lays "PathChecker$Reader" "PathChecker$Reader" "waitingCount" "I") ∈ zwd := qw_of 119 (by decide +kernel) (by decide +kernel)
theorem qw_63 : (Jvm.Cond.laysFinal "PathChecker$Reader" "PathChecker$Reader" "ready" "[I") ∈ zwd := qw_of 121 (by decide +kernel) (by decide +kernel)
theorem qw_65 : (Jvm.Cond.lays "PathChecker$Reader" "PathChecker$Reader" "readyCount" "I") ∈ zwd := qw_of 123 (by decide +kernel) (by decide +kernel)
theorem qw_67 : (Jvm.Cond.lays "PathChecker$Reader" "PathChecker$Reader" "depth" "I") ∈ zwd := qw_of 125 (by decide +kernel) (by decide +kernel)
theorem qw_69 : (Jvm.Cond.lays "PathChecker$Reader" "PathChecker$Reader" "wantsUnit" "Z") ∈ zwd := qw_of 127 (by decide +kernel) (by decide +kernel)
theorem qw_78 : (Jvm.Cond.code ({ cls := "PathChecker$Path", name := "<init>", desc := "(I)V" } : Jvm.MethodName) prog_6_method_1_code (2 : Nat) (Option.none : Option Jvm.ClassFile.FieldType)) ∈ zwd := qw_of 136 (by decide +kernel) (by decide +kernel)
theorem qw_80 : (Jvm.Cond.fieldLink "PathChecker$Path" (15 : Nat) "PathChecker$Path" "states" "[I") ∈ zwd := qw_of 138 (by decide +kernel) (by decide +kernel)
theorem qw_83 : (Jvm.Cond.fieldLink "PathChecker$Path" (18 : Nat) "PathChecker$Path" "count" "I") ∈ zwd := qw_of 141 (by decide +kernel) (by decide +kernel)
theorem qw_86 : (Jvm.Cond.fieldLink "PathChecker$Path" (9 : Nat) "PathChecker$Path" "holds" "[I") ∈ zwd := qw_of 144 (by decide +kernel) (by decide +kernel)
theorem qw_87 : (Jvm.Cond.laysFinal "PathChecker$Path" "PathChecker$Path" "states" "[I") ∈ zwd := qw_of 145 (by decide +kernel) (by decide +kernel)
theorem qw_89 : (Jvm.Cond.lays "PathChecker$Path" "PathChecker$Path" "count" "I") ∈ zwd := qw_of 147 (by decide +kernel) (by decide +kernel)
theorem qw_91 : (Jvm.Cond.laysFinal "PathChecker$Path" "PathChecker$Path" "holds" "[I") ∈ zwd := qw_of 149 (by decide +kernel) (by decide +kernel)
theorem qw_98 : (Jvm.Cond.code ({ cls := "PathChecker$Search", name := "<init>", desc := "()V" } : Jvm.MethodName) prog_8_method_1_code (1 : Nat) (Option.none : Option Jvm.ClassFile.FieldType)) ∈ zwd := qw_of 156 (by decide +kernel) (by decide +kernel)
theorem qw_104 : (Jvm.Cond.code ({ cls := "PathChecker$Nearness", name := "<init>", desc := "()V" } : Jvm.MethodName) prog_4_method_1_code (1 : Nat) (Option.none : Option Jvm.ClassFile.FieldType)) ∈ zwd := qw_of 162 (by decide +kernel) (by decide +kernel)
theorem qw_110 : (Jvm.Cond.code ({ cls := "PathChecker$Knots", name := "<init>", desc := "()V" } : Jvm.MethodName) prog_3_method_1_code (1 : Nat) (Option.none : Option Jvm.ClassFile.FieldType)) ∈ zwd := qw_of 168 (by decide +kernel) (by decide +kernel)
theorem qw_116 : (Jvm.Cond.code ({ cls := "PathChecker$Graph", name := "<init>", desc := "()V" } : Jvm.MethodName) prog_2_method_1_code (1 : Nat) (Option.none : Option Jvm.ClassFile.FieldType)) ∈ zwd := qw_of 174 (by decide +kernel) (by decide +kernel)
theorem qw_122 : (Jvm.Cond.code ({ cls := "PathChecker$NormalForm", name := "<init>", desc := "()V" } : Jvm.MethodName) prog_5_method_1_code (1 : Nat) (Option.none : Option Jvm.ClassFile.FieldType)) ∈ zwd := qw_of 180 (by decide +kernel) (by decide +kernel)
theorem qw_124 : (Jvm.Cond.fieldLink "PathChecker$NormalForm" (9 : Nat) "PathChecker$NormalForm" "signs" "[C") ∈ zwd := qw_of 182 (by decide +kernel) (by decide +kernel)
theorem qw_128 : (Jvm.Cond.fieldLink "PathChecker$NormalForm" (35 : Nat) "PathChecker$NormalForm" "size" "I") ∈ zwd := qw_of 186 (by decide +kernel) (by decide +kernel)
theorem qw_132 : (Jvm.Cond.fieldLink "PathChecker$NormalForm" (15 : Nat) "PathChecker$NormalForm" "seconds" "[I") ∈ zwd := qw_of 190 (by decide +kernel) (by decide +kernel)
theorem qw_135 : (Jvm.Cond.fieldLink "PathChecker$NormalForm" (19 : Nat) "PathChecker$NormalForm" "ends" "[I") ∈ zwd := qw_of 193 (by decide +kernel) (by decide +kernel)
theorem qw_138 : (Jvm.Cond.fieldLink "PathChecker$NormalForm" (75 : Nat) "PathChecker$NormalForm" "timed" "I") ∈ zwd := qw_of 196 (by decide +kernel) (by decide +kernel)
theorem qw_140 : (Jvm.Cond.fieldLink "PathChecker$NormalForm" (22 : Nat) "PathChecker$NormalForm" "timedParts" "[I") ∈ zwd := qw_of 198 (by decide +kernel) (by decide +kernel)
theorem qw_142 : (Jvm.Cond.fieldLink "PathChecker$NormalForm" (25 : Nat) "PathChecker$NormalForm" "timedNumbers" "[I") ∈ zwd := qw_of 200 (by decide +kernel) (by decide +kernel)
theorem qw_144 : (Jvm.Cond.fieldLink "PathChecker$NormalForm" (28 : Nat) "PathChecker$NormalForm" "todo" "[I") ∈ zwd := qw_of 202 (by decide +kernel) (by decide +kernel)
theorem qw_145 : (Jvm.Cond.fieldLink "PathChecker$NormalForm" (31 : Nat) "PathChecker$NormalForm" "todoNegated" "[Z") ∈ zwd := qw_of 203 (by decide +kernel) (by decide +kernel)
theorem qw_146 : (Jvm.Cond.fieldLink "PathChecker$NormalForm" (46 : Nat) "PathChecker$NormalForm" "todoCount" "I") ∈ zwd := qw_of 204 (by decide +kernel) (by decide +kernel)
theorem qw_147 : (Jvm.Cond.laysFinal "PathChecker$NormalForm" "PathChecker$NormalForm" "signs" "[C") ∈ zwd := qw_of 205 (by decide +kernel) (by decide +kernel)
theorem qw_149 : (Jvm.Cond.lays "PathChecker$NormalForm" "PathChecker$NormalForm" "size" "I") ∈ zwd := qw_of 207 (by decide +kernel) (by decide +kernel)
theorem qw_151 : (Jvm.Cond.laysFinal "PathChecker$NormalForm" "PathChecker$NormalForm" "seconds" "[I") ∈ zwd := qw_of 209 (by decide +kernel) (by decide +kernel)
theorem qw_153 : (Jvm.Cond.laysFinal "PathChecker$NormalForm" "PathChecker$NormalForm" "ends" "[I") ∈ zwd := qw_of 211 (by decide +kernel) (by decide +kernel)
theorem qw_155 : (Jvm.Cond.lays "PathChecker$NormalForm" "PathChecker$NormalForm" "timed" "I") ∈ zwd := qw_of 213 (by decide +kernel) (by decide +kernel)
theorem qw_157 : (Jvm.Cond.laysFinal "PathChecker$NormalForm" "PathChecker$NormalForm" "timedParts" "[I") ∈ zwd := qw_of 215 (by decide +kernel) (by decide +kernel)
theorem qw_159 : (Jvm.Cond.laysFinal "PathChecker$NormalForm" "PathChecker$NormalForm" "timedNumbers" "[I") ∈ zwd := qw_of 217 (by decide +kernel) (by decide +kernel)
theorem qw_161 : (Jvm.Cond.laysFinal "PathChecker$NormalForm" "PathChecker$NormalForm" "todo" "[I") ∈ zwd := qw_of 219 (by decide +kernel) (by decide +kernel)
theorem qw_163 : (Jvm.Cond.laysFinal "PathChecker$NormalForm" "PathChecker$NormalForm" "todoNegated" "[Z") ∈ zwd := qw_of 221 (by decide +kernel) (by decide +kernel)
theorem qw_165 : (Jvm.Cond.lays "PathChecker$NormalForm" "PathChecker$NormalForm" "todoCount" "I") ∈ zwd := qw_of 223 (by decide +kernel) (by decide +kernel)
theorem qw_173 : (Jvm.Cond.code ({ cls := "PathChecker$Structure", name := "<init>", desc := "()V" } : Jvm.MethodName) prog_9_method_1_code (1 : Nat) (Option.none : Option Jvm.ClassFile.FieldType)) ∈ zwd := qw_of 231 (by decide +kernel) (by decide +kernel)
theorem qw_175 : (Jvm.Cond.fieldLink "PathChecker$Structure" (9 : Nat) "PathChecker$Structure" "marks" "[I") ∈ zwd := qw_of 233 (by decide +kernel) (by decide +kernel)
theorem qw_179 : (Jvm.Cond.fieldLink "PathChecker$Structure" (15 : Nat) "PathChecker$Structure" "links" "[I") ∈ zwd := qw_of 237 (by decide +kernel) (by decide +kernel)
theorem qw_181 : (Jvm.Cond.laysFinal "PathChecker$Structure" "PathChecker$Structure" "marks" "[I") ∈ zwd := qw_of 239 (by decide +kernel) (by decide +kernel)
theorem qw_183 : (Jvm.Cond.laysFinal "PathChecker$Structure" "PathChecker$Structure" "links" "[I") ∈ zwd := qw_of 241 (by decide +kernel) (by decide +kernel)
theorem qw_186 : (Jvm.Cond.fieldLink "PathChecker$Graph" (12 : Nat) "PathChecker$Graph" "form" "LPathChecker$NormalForm;") ∈ zwd := qw_of 244 (by decide +kernel) (by decide +kernel)
theorem qw_190 : (Jvm.Cond.fieldLink "PathChecker$Graph" (21 : Nat) "PathChecker$Graph" "structure" "LPathChecker$Structure;") ∈ zwd := qw_of 248 (by decide +kernel) (by decide +kernel)
theorem qw_195 : (Jvm.Cond.fieldLink "PathChecker$Graph" (45 : Nat) "PathChecker$Graph" "guesses" "I") ∈ zwd := qw_of 253 (by decide +kernel) (by decide +kernel)
theorem qw_197 : (Jvm.Cond.fieldLink "PathChecker$Graph" (25 : Nat) "PathChecker$Graph" "here" "[I") ∈ zwd := qw_of 255 (by decide +kernel) (by decide +kernel)
theorem qw_198 : (Jvm.Cond.fieldLink "PathChecker$Graph" (29 : Nat) "PathChecker$Graph" "before" "[I") ∈ zwd := qw_of 256 (by decide +kernel) (by decide +kernel)
theorem qw_199 : (Jvm.Cond.fieldLink "PathChecker$Graph" (32 : Nat) "PathChecker$Graph" "guessBefore" "[I") ∈ zwd := qw_of 257 (by decide +kernel) (by decide +kernel)
theorem qw_200 : (Jvm.Cond.fieldLink "PathChecker$Graph" (35 : Nat) "PathChecker$Graph" "holding" "[I") ∈ zwd := qw_of 258 (by decide +kernel) (by decide +kernel)
theorem qw_203 : (Jvm.Cond.fieldLink "PathChecker$Graph" (38 : Nat) "PathChecker$Graph" "prompt" "[I") ∈ zwd := qw_of 261 (by decide +kernel) (by decide +kernel)
theorem qw_205 : (Jvm.Cond.laysFinal "PathChecker$Graph" "PathChecker$Graph" "form" "LPathChecker$NormalForm;") ∈ zwd := qw_of 263 (by decide +kernel) (by decide +kernel)
theorem qw_207 : (Jvm.Cond.laysFinal "PathChecker$Graph" "PathChecker$Graph" "structure" "LPathChecker$Structure;") ∈ zwd := qw_of 265 (by decide +kernel) (by decide +kernel)
theorem qw_209 : (Jvm.Cond.lays "PathChecker$Graph" "PathChecker$Graph" "guesses" "I") ∈ zwd := qw_of 267 (by decide +kernel) (by decide +kernel)
theorem qw_211 : (Jvm.Cond.laysFinal "PathChecker$Graph" "PathChecker$Graph" "here" "[I") ∈ zwd := qw_of 269 (by decide +kernel) (by decide +kernel)
theorem qw_213 : (Jvm.Cond.laysFinal "PathChecker$Graph" "PathChecker$Graph" "before" "[I") ∈ zwd := qw_of 271 (by decide +kernel) (by decide +kernel)
theorem qw_215 : (Jvm.Cond.laysFinal "PathChecker$Graph" "PathChecker$Graph" "guessBefore" "[I") ∈ zwd := qw_of 273 (by decide +kernel) (by decide +kernel)
theorem qw_217 : (Jvm.Cond.laysFinal "PathChecker$Graph" "PathChecker$Graph" "holding" "[I") ∈ zwd := qw_of 275 (by decide +kernel) (by decide +kernel)
theorem qw_219 : (Jvm.Cond.laysFinal "PathChecker$Graph" "PathChecker$Graph" "prompt" "[I") ∈ zwd := qw_of 277 (by decide +kernel) (by decide +kernel)
theorem qw_222 : (Jvm.Cond.fieldLink "PathChecker$Knots" (12 : Nat) "PathChecker$Knots" "graph" "LPathChecker$Graph;") ∈ zwd := qw_of 280 (by decide +kernel) (by decide +kernel)
theorem qw_225 : (Jvm.Cond.fieldLink "PathChecker$Knots" (18 : Nat) "PathChecker$Knots" "guesses" "[I") ∈ zwd := qw_of 283 (by decide +kernel) (by decide +kernel)
theorem qw_227 : (Jvm.Cond.fieldLink "PathChecker$Knots" (22 : Nat) "PathChecker$Knots" "numbers" "[I") ∈ zwd := qw_of 285 (by decide +kernel) (by decide +kernel)
theorem qw_228 : (Jvm.Cond.fieldLink "PathChecker$Knots" (54 : Nat) "PathChecker$Knots" "numbered" "I") ∈ zwd := qw_of 286 (by decide +kernel) (by decide +kernel)
theorem qw_229 : (Jvm.Cond.fieldLink "PathChecker$Knots" (25 : Nat) "PathChecker$Knots" "lows" "[I") ∈ zwd := qw_of 287 (by decide +kernel) (by decide +kernel)
theorem qw_230 : (Jvm.Cond.fieldLink "PathChecker$Knots" (28 : Nat) "PathChecker$Knots" "tried" "[I") ∈ zwd := qw_of 288 (by decide +kernel) (by decide +kernel)
theorem qw_231 : (Jvm.Cond.fieldLink "PathChecker$Knots" (31 : Nat) "PathChecker$Knots" "walk" "[I") ∈ zwd := qw_of 289 (by decide +kernel) (by decide +kernel)
theorem qw_232 : (Jvm.Cond.fieldLink "PathChecker$Knots" (57 : Nat) "PathChecker$Knots" "walkCount" "I") ∈ zwd := qw_of 290 (by decide +kernel) (by decide +kernel)
theorem qw_233 : (Jvm.Cond.fieldLink "PathChecker$Knots" (34 : Nat) "PathChecker$Knots" "held" "[I") ∈ zwd := qw_of 291 (by decide +kernel) (by decide +kernel)
theorem qw_234 : (Jvm.Cond.fieldLink "PathChecker$Knots" (60 : Nat) "PathChecker$Knots" "heldCount" "I") ∈ zwd := qw_of 292 (by decide +kernel) (by decide +kernel)
theorem qw_235 : (Jvm.Cond.fieldLink "PathChecker$Knots" (37 : Nat) "PathChecker$Knots" "isHeld" "[Z") ∈ zwd := qw_of 293 (by decide +kernel) (by decide +kernel)
theorem qw_236 : (Jvm.Cond.fieldLink "PathChecker$Knots" (41 : Nat) "PathChecker$Knots" "members" "[I") ∈ zwd := qw_of 294 (by decide +kernel) (by decide +kernel)
theorem qw_237 : (Jvm.Cond.laysFinal "PathChecker$Knots" "PathChecker$Knots" "graph" "LPathChecker$Graph;") ∈ zwd := qw_of 295 (by decide +kernel) (by decide +kernel)
theorem qw_239 : (Jvm.Cond.laysFinal "PathChecker$Knots" "PathChecker$Knots" "guesses" "[I") ∈ zwd := qw_of 297 (by decide +kernel) (by decide +kernel)
theorem qw_241 : (Jvm.Cond.laysFinal "PathChecker$Knots" "PathChecker$Knots" "numbers" "[I") ∈ zwd := qw_of 299 (by decide +kernel) (by decide +kernel)
theorem qw_243 : (Jvm.Cond.lays "PathChecker$Knots" "PathChecker$Knots" "numbered" "I") ∈ zwd := qw_of 301 (by decide +kernel) (by decide +kernel)
theorem qw_245 : (Jvm.Cond.laysFinal "PathChecker$Knots" "PathChecker$Knots" "lows" "[I") ∈ zwd := qw_of 303 (by decide +kernel) (by decide +kernel)
theorem qw_247 : (Jvm.Cond.laysFinal "PathChecker$Knots" "PathChecker$Knots" "tried" "[I") ∈ zwd := qw_of 305 (by decide +kernel) (by decide +kernel)
theorem qw_249 : (Jvm.Cond.laysFinal "PathChecker$Knots" "PathChecker$Knots" "walk" "[I") ∈ zwd := qw_of 307 (by decide +kernel) (by decide +kernel)
theorem qw_251 : (Jvm.Cond.lays "PathChecker$Knots" "PathChecker$Knots" "walkCount" "I") ∈ zwd := qw_of 309 (by decide +kernel) (by decide +kernel)
theorem qw_253 : (Jvm.Cond.laysFinal "PathChecker$Knots" "PathChecker$Knots" "held" "[I") ∈ zwd := qw_of 311 (by decide +kernel) (by decide +kernel)
theorem qw_255 : (Jvm.Cond.lays "PathChecker$Knots" "PathChecker$Knots" "heldCount" "I") ∈ zwd := qw_of 313 (by decide +kernel) (by decide +kernel)
theorem qw_257 : (Jvm.Cond.laysFinal "PathChecker$Knots" "PathChecker$Knots" "isHeld" "[Z") ∈ zwd := qw_of 315 (by decide +kernel) (by decide +kernel)
theorem qw_259 : (Jvm.Cond.laysFinal "PathChecker$Knots" "PathChecker$Knots" "members" "[I") ∈ zwd := qw_of 317 (by decide +kernel) (by decide +kernel)
theorem qw_262 : (Jvm.Cond.fieldLink "PathChecker$Nearness" (12 : Nat) "PathChecker$Nearness" "knots" "LPathChecker$Knots;") ∈ zwd := qw_of 320 (by decide +kernel) (by decide +kernel)
theorem qw_265 : (Jvm.Cond.fieldLink "PathChecker$Nearness" (22 : Nat) "PathChecker$Nearness" "graph" "LPathChecker$Graph;") ∈ zwd := qw_of 323 (by decide +kernel) (by decide +kernel)
theorem qw_266 : (Jvm.Cond.fieldLink "PathChecker$Nearness" (23 : Nat) "PathChecker$Nearness" "near" "[I") ∈ zwd := qw_of 324 (by decide +kernel) (by decide +kernel)
theorem qw_267 : (Jvm.Cond.fieldLink "PathChecker$Nearness" (27 : Nat) "PathChecker$Nearness" "reaching" "[I") ∈ zwd := qw_of 325 (by decide +kernel) (by decide +kernel)
theorem qw_268 : (Jvm.Cond.laysFinal "PathChecker$Nearness" "PathChecker$Nearness" "knots" "LPathChecker$Knots;") ∈ zwd := qw_of 326 (by decide +kernel) (by decide +kernel)
theorem qw_270 : (Jvm.Cond.laysFinal "PathChecker$Nearness" "PathChecker$Nearness" "graph" "LPathChecker$Graph;") ∈ zwd := qw_of 328 (by decide +kernel) (by decide +kernel)
theorem qw_272 : (Jvm.Cond.laysFinal "PathChecker$Nearness" "PathChecker$Nearness" "near" "[I") ∈ zwd := qw_of 330 (by decide +kernel) (by decide +kernel)
theorem qw_274 : (Jvm.Cond.laysFinal "PathChecker$Nearness" "PathChecker$Nearness" "reaching" "[I") ∈ zwd := qw_of 332 (by decide +kernel) (by decide +kernel)
theorem qw_279 : (Jvm.Cond.fieldLink "PathChecker$Search" (12 : Nat) "PathChecker$Search" "nearness" "LPathChecker$Nearness;") ∈ zwd := qw_of 337 (by decide +kernel) (by decide +kernel)
theorem qw_281 : (Jvm.Cond.fieldLink "PathChecker$Search" (22 : Nat) "PathChecker$Search" "graph" "LPathChecker$Graph;") ∈ zwd := qw_of 339 (by decide +kernel) (by decide +kernel)
theorem qw_282 : (Jvm.Cond.fieldLink "PathChecker$Search" (28 : Nat) "PathChecker$Search" "lasso" "LPathChecker$Path;") ∈ zwd := qw_of 340 (by decide +kernel) (by decide +kernel)
theorem qw_284 : (Jvm.Cond.fieldLink "PathChecker$Search" (32 : Nat) "PathChecker$Search" "open" "[I") ∈ zwd := qw_of 342 (by decide +kernel) (by decide +kernel)
theorem qw_285 : (Jvm.Cond.fieldLink "PathChecker$Search" (36 : Nat) "PathChecker$Search" "start" "I") ∈ zwd := qw_of 343 (by decide +kernel) (by decide +kernel)
theorem qw_286 : (Jvm.Cond.fieldLink "PathChecker$Search" (40 : Nat) "PathChecker$Search" "loop" "I") ∈ zwd := qw_of 344 (by decide +kernel) (by decide +kernel)
theorem qw_288 : (Jvm.Cond.laysFinal "PathChecker$Search" "PathChecker$Search" "nearness" "LPathChecker$Nearness;") ∈ zwd := qw_of 346 (by decide +kernel) (by decide +kernel)
theorem qw_290 : (Jvm.Cond.laysFinal "PathChecker$Search" "PathChecker$Search" "graph" "LPathChecker$Graph;") ∈ zwd := qw_of 348 (by decide +kernel) (by decide +kernel)
theorem qw_292 : (Jvm.Cond.laysFinal "PathChecker$Search" "PathChecker$Search" "lasso" "LPathChecker$Path;") ∈ zwd := qw_of 350 (by decide +kernel) (by decide +kernel)
theorem qw_294 : (Jvm.Cond.laysFinal "PathChecker$Search" "PathChecker$Search" "open" "[I") ∈ zwd := qw_of 352 (by decide +kernel) (by decide +kernel)
theorem qw_296 : (Jvm.Cond.lays "PathChecker$Search" "PathChecker$Search" "start" "I") ∈ zwd := qw_of 354 (by decide +kernel) (by decide +kernel)
theorem qw_298 : (Jvm.Cond.lays "PathChecker$Search" "PathChecker$Search" "loop" "I") ∈ zwd := qw_of 356 (by decide +kernel) (by decide +kernel)
theorem qw_301 : (Jvm.Cond.fieldLink "PathChecker" (9 : Nat) "PathChecker" "text" "[C") ∈ zwd := qw_of 359 (by decide +kernel) (by decide +kernel)
theorem qw_302 : (Jvm.Cond.fieldLink "PathChecker" (67 : Nat) "PathChecker" "typed" "I") ∈ zwd := qw_of 360 (by decide +kernel) (by decide +kernel)
theorem qw_303 : (Jvm.Cond.fieldLink "PathChecker" (16 : Nat) "PathChecker" "reader" "LPathChecker$Reader;") ∈ zwd := qw_of 361 (by decide +kernel) (by decide +kernel)
theorem qw_304 : (Jvm.Cond.fieldLink "PathChecker" (25 : Nat) "PathChecker" "row" "LPathChecker$Path;") ∈ zwd := qw_of 362 (by decide +kernel) (by decide +kernel)
theorem qw_305 : (Jvm.Cond.fieldLink "PathChecker" (32 : Nat) "PathChecker" "search" "LPathChecker$Search;") ∈ zwd := qw_of 363 (by decide +kernel) (by decide +kernel)
theorem qw_306 : (Jvm.Cond.fieldLink "PathChecker" (40 : Nat) "PathChecker" "nearness" "LPathChecker$Nearness;") ∈ zwd := qw_of 364 (by decide +kernel) (by decide +kernel)
theorem qw_307 : (Jvm.Cond.fieldLink "PathChecker" (47 : Nat) "PathChecker" "knots" "LPathChecker$Knots;") ∈ zwd := qw_of 365 (by decide +kernel) (by decide +kernel)
theorem qw_308 : (Jvm.Cond.fieldLink "PathChecker" (54 : Nat) "PathChecker" "graph" "LPathChecker$Graph;") ∈ zwd := qw_of 366 (by decide +kernel) (by decide +kernel)
theorem qw_309 : (Jvm.Cond.fieldLink "PathChecker" (61 : Nat) "PathChecker" "form" "LPathChecker$NormalForm;") ∈ zwd := qw_of 367 (by decide +kernel) (by decide +kernel)
theorem qw_310 : (Jvm.Cond.fieldLink "PathChecker" (66 : Nat) "PathChecker" "structure" "LPathChecker$Structure;") ∈ zwd := qw_of 368 (by decide +kernel) (by decide +kernel)
theorem qw_311 : (Jvm.Cond.fieldLink "PathChecker" (90 : Nat) "PathChecker" "upToDate" "Z") ∈ zwd := qw_of 369 (by decide +kernel) (by decide +kernel)
theorem qw_312 : (Jvm.Cond.laysFinal "PathChecker" "PathChecker" "text" "[C") ∈ zwd := qw_of 370 (by decide +kernel) (by decide +kernel)
theorem qw_314 : (Jvm.Cond.lays "PathChecker" "PathChecker" "typed" "I") ∈ zwd := qw_of 372 (by decide +kernel) (by decide +kernel)
theorem qw_316 : (Jvm.Cond.laysFinal "PathChecker" "PathChecker" "reader" "LPathChecker$Reader;") ∈ zwd := qw_of 374 (by decide +kernel) (by decide +kernel)
theorem qw_318 : (Jvm.Cond.laysFinal "PathChecker" "PathChecker" "row" "LPathChecker$Path;") ∈ zwd := qw_of 376 (by decide +kernel) (by decide +kernel)
theorem qw_320 : (Jvm.Cond.laysFinal "PathChecker" "PathChecker" "search" "LPathChecker$Search;") ∈ zwd := qw_of 378 (by decide +kernel) (by decide +kernel)
theorem qw_322 : (Jvm.Cond.laysFinal "PathChecker" "PathChecker" "nearness" "LPathChecker$Nearness;") ∈ zwd := qw_of 380 (by decide +kernel) (by decide +kernel)
theorem qw_324 : (Jvm.Cond.laysFinal "PathChecker" "PathChecker" "knots" "LPathChecker$Knots;") ∈ zwd := qw_of 382 (by decide +kernel) (by decide +kernel)
theorem qw_326 : (Jvm.Cond.laysFinal "PathChecker" "PathChecker" "graph" "LPathChecker$Graph;") ∈ zwd := qw_of 384 (by decide +kernel) (by decide +kernel)
theorem qw_328 : (Jvm.Cond.laysFinal "PathChecker" "PathChecker" "form" "LPathChecker$NormalForm;") ∈ zwd := qw_of 386 (by decide +kernel) (by decide +kernel)
theorem qw_330 : (Jvm.Cond.laysFinal "PathChecker" "PathChecker" "structure" "LPathChecker$Structure;") ∈ zwd := qw_of 388 (by decide +kernel) (by decide +kernel)
theorem qw_332 : (Jvm.Cond.lays "PathChecker" "PathChecker" "upToDate" "Z") ∈ zwd := qw_of 390 (by decide +kernel) (by decide +kernel)
theorem qw_335 : (Jvm.Cond.methodLink "PathCheckerLaw" (49 : Nat) ({ cls := "PathChecker", name := "type", desc := "(J)Z" } : Jvm.MethodName)) ∈ zwd := qw_of 393 (by decide +kernel) (by decide +kernel)
theorem qw_336 : (Jvm.Cond.instanceMethod ({ cls := "PathChecker", name := "type", desc := "(J)Z" } : Jvm.MethodName)) ∈ zwd := qw_of 394 (by decide +kernel) (by decide +kernel)
theorem qw_337 : (Jvm.Cond.selects "PathChecker" ({ cls := "PathChecker", name := "type", desc := "(J)Z" } : Jvm.MethodName) ({ cls := "PathChecker", name := "type", desc := "(J)Z" } : Jvm.MethodName)) ∈ zwd := qw_of 395 (by decide +kernel) (by decide +kernel)
theorem qw_338 : (Jvm.Cond.code ({ cls := "PathChecker", name := "type", desc := "(J)Z" } : Jvm.MethodName) prog_1_method_2_code (6 : Nat) (Option.some Jvm.ClassFile.FieldType.boolean)) ∈ zwd := qw_of 396 (by decide +kernel) (by decide +kernel)
theorem qw_339 : (Jvm.Cond.methodLink "PathCheckerLaw" (54 : Nat) ({ cls := "PathChecker", name := "wipe", desc := "()V" } : Jvm.MethodName)) ∈ zwd := qw_of 397 (by decide +kernel) (by decide +kernel)
theorem qw_340 : (Jvm.Cond.instanceMethod ({ cls := "PathChecker", name := "wipe", desc := "()V" } : Jvm.MethodName)) ∈ zwd := qw_of 398 (by decide +kernel) (by decide +kernel)
theorem qw_341 : (Jvm.Cond.selects "PathChecker" ({ cls := "PathChecker", name := "wipe", desc := "()V" } : Jvm.MethodName) ({ cls := "PathChecker", name := "wipe", desc := "()V" } : Jvm.MethodName)) ∈ zwd := qw_of 399 (by decide +kernel) (by decide +kernel)
theorem qw_342 : (Jvm.Cond.code ({ cls := "PathChecker", name := "wipe", desc := "()V" } : Jvm.MethodName) prog_1_method_3_code (1 : Nat) (Option.none : Option Jvm.ClassFile.FieldType)) ∈ zwd := qw_of 400 (by decide +kernel) (by decide +kernel)
theorem qw_343 : (Jvm.Cond.methodLink "PathCheckerLaw" (58 : Nat) ({ cls := "PathChecker", name := "length", desc := "()I" } : Jvm.MethodName)) ∈ zwd := qw_of 401 (by decide +kernel) (by decide +kernel)
theorem qw_344 : (Jvm.Cond.instanceMethod ({ cls := "PathChecker", name := "length", desc := "()I" } : Jvm.MethodName)) ∈ zwd := qw_of 402 (by decide +kernel) (by decide +kernel)
theorem qw_345 : (Jvm.Cond.selects "PathChecker" ({ cls := "PathChecker", name := "length", desc := "()I" } : Jvm.MethodName) ({ cls := "PathChecker", name := "length", desc := "()I" } : Jvm.MethodName)) ∈ zwd := qw_of 403 (by decide +kernel) (by decide +kernel)
theorem qw_346 : (Jvm.Cond.code ({ cls := "PathChecker", name := "length", desc := "()I" } : Jvm.MethodName) prog_1_method_4_code (1 : Nat) (Option.some Jvm.ClassFile.FieldType.int)) ∈ zwd := qw_of 404 (by decide +kernel) (by decide +kernel)
theorem qw_347 : (Jvm.Cond.methodLink "PathCheckerLaw" (75 : Nat) ({ cls := "PathChecker", name := "mark", desc := "(II)Z" } : Jvm.MethodName)) ∈ zwd := qw_of 405 (by decide +kernel) (by decide +kernel)
theorem qw_348 : (Jvm.Cond.instanceMethod ({ cls := "PathChecker", name := "mark", desc := "(II)Z" } : Jvm.MethodName)) ∈ zwd := qw_of 406 (by decide +kernel) (by decide +kernel)
theorem qw_349 : (Jvm.Cond.selects "PathChecker" ({ cls := "PathChecker", name := "mark", desc := "(II)Z" } : Jvm.MethodName) ({ cls := "PathChecker", name := "mark", desc := "(II)Z" } : Jvm.MethodName)) ∈ zwd := qw_of 407 (by decide +kernel) (by decide +kernel)
theorem qw_350 : (Jvm.Cond.code ({ cls := "PathChecker", name := "mark", desc := "(II)Z" } : Jvm.MethodName) prog_1_method_7_code (3 : Nat) (Option.some Jvm.ClassFile.FieldType.boolean)) ∈ zwd := qw_of 408 (by decide +kernel) (by decide +kernel)
theorem qw_351 : (Jvm.Cond.methodLink "PathChecker" (108 : Nat) ({ cls := "PathChecker", name := "isState", desc := "(I)Z" } : Jvm.MethodName)) ∈ zwd := qw_of 409 (by decide +kernel) (by decide +kernel)
theorem qw_352 : (Jvm.Cond.static ({ cls := "PathChecker", name := "isState", desc := "(I)Z" } : Jvm.MethodName)) ∈ zwd := qw_of 410 (by decide +kernel) (by decide +kernel)
theorem qw_353 : (Jvm.Cond.code ({ cls := "PathChecker", name := "isState", desc := "(I)Z" } : Jvm.MethodName) prog_1_method_18_code (1 : Nat) (Option.some Jvm.ClassFile.FieldType.boolean)) ∈ zwd := qw_of 411 (by decide +kernel) (by decide +kernel)
theorem qw_354 : (Jvm.Cond.methodLink "PathCheckerLaw" (79 : Nat) ({ cls := "PathChecker", name := "link", desc := "(IIZ)Z" } : Jvm.MethodName)) ∈ zwd := qw_of 412 (by decide +kernel) (by decide +kernel)
theorem qw_355 : (Jvm.Cond.instanceMethod ({ cls := "PathChecker", name := "link", desc := "(IIZ)Z" } : Jvm.MethodName)) ∈ zwd := qw_of 413 (by decide +kernel) (by decide +kernel)
theorem qw_356 : (Jvm.Cond.selects "PathChecker" ({ cls := "PathChecker", name := "link", desc := "(IIZ)Z" } : Jvm.MethodName) ({ cls := "PathChecker", name := "link", desc := "(IIZ)Z" } : Jvm.MethodName)) ∈ zwd := qw_of 414 (by decide +kernel) (by decide +kernel)
theorem qw_357 : (Jvm.Cond.code ({ cls := "PathChecker", name := "link", desc := "(IIZ)Z" } : Jvm.MethodName) prog_1_method_8_code (4 : Nat) (Option.some Jvm.ClassFile.FieldType.boolean)) ∈ zwd := qw_of 415 (by decide +kernel) (by decide +kernel)
theorem qw_358 : (Jvm.Cond.methodLink "PathChecker" (118 : Nat) ({ cls := "PathChecker$Structure", name := "joins", desc := "(II)Z" } : Jvm.MethodName)) ∈ zwd := qw_of 416 (by decide +kernel) (by decide +kernel)
theorem qw_359 : (Jvm.Cond.instanceMethod ({ cls := "PathChecker$Structure", name := "joins", desc := "(II)Z" } : Jvm.MethodName)) ∈ zwd := qw_of 417 (by decide +kernel) (by decide +kernel)
theorem qw_360 : (Jvm.Cond.selects "PathChecker$Structure" ({ cls := "PathChecker$Structure", name := "joins", desc := "(II)Z" } : Jvm.MethodName) ({ cls := "PathChecker$Structure", name := "joins", desc := "(II)Z" } : Jvm.MethodName)) ∈ zwd := qw_of 418 (by decide +kernel) (by decide +kernel)
theorem qw_361 : (Jvm.Cond.code ({ cls := "PathChecker$Structure", name := "joins", desc := "(II)Z" } : Jvm.MethodName) prog_9_method_2_code (3 : Nat) (Option.some Jvm.ClassFile.FieldType.boolean)) ∈ zwd := qw_of 419 (by decide +kernel) (by decide +kernel)
theorem qw_362 : (Jvm.Cond.methodLink "PathCheckerLaw" (84 : Nat) ({ cls := "PathChecker", name := "state", desc := "(II)I" } : Jvm.MethodName)) ∈ zwd := qw_of 420 (by decide +kernel) (by decide +kernel)
theorem qw_363 : (Jvm.Cond.instanceMethod ({ cls := "PathChecker", name := "state", desc := "(II)I" } : Jvm.MethodName)) ∈ zwd := qw_of 421 (by decide +kernel) (by decide +kernel)
theorem qw_364 : (Jvm.Cond.selects "PathChecker" ({ cls := "PathChecker", name := "state", desc := "(II)I" } : Jvm.MethodName) ({ cls := "PathChecker", name := "state", desc := "(II)I" } : Jvm.MethodName)) ∈ zwd := qw_of 422 (by decide +kernel) (by decide +kernel)
theorem qw_365 : (Jvm.Cond.code ({ cls := "PathChecker", name := "state", desc := "(II)I" } : Jvm.MethodName) prog_1_method_9_code (3 : Nat) (Option.some Jvm.ClassFile.FieldType.int)) ∈ zwd := qw_of 423 (by decide +kernel) (by decide +kernel)
theorem qw_366 : (Jvm.Cond.methodLink "PathCheckerLaw" (88 : Nat) ({ cls := "PathChecker", name := "endless", desc := "(I)Z" } : Jvm.MethodName)) ∈ zwd := qw_of 424 (by decide +kernel) (by decide +kernel)
theorem qw_367 : (Jvm.Cond.instanceMethod ({ cls := "PathChecker", name := "endless", desc := "(I)Z" } : Jvm.MethodName)) ∈ zwd := qw_of 425 (by decide +kernel) (by decide +kernel)
theorem qw_368 : (Jvm.Cond.selects "PathChecker" ({ cls := "PathChecker", name := "endless", desc := "(I)Z" } : Jvm.MethodName) ({ cls := "PathChecker", name := "endless", desc := "(I)Z" } : Jvm.MethodName)) ∈ zwd := qw_of 426 (by decide +kernel) (by decide +kernel)
theorem qw_369 : (Jvm.Cond.code ({ cls := "PathChecker", name := "endless", desc := "(I)Z" } : Jvm.MethodName) prog_1_method_10_code (2 : Nat) (Option.some Jvm.ClassFile.FieldType.boolean)) ∈ zwd := qw_of 427 (by decide +kernel) (by decide +kernel)
theorem qw_370 : (Jvm.Cond.methodLink "PathChecker" (125 : Nat) ({ cls := "PathChecker$Structure", name := "statesWithPath", desc := "()I" } : Jvm.MethodName)) ∈ zwd := qw_of 428 (by decide +kernel) (by decide +kernel)
theorem qw_371 : (Jvm.Cond.instanceMethod ({ cls := "PathChecker$Structure", name := "statesWithPath", desc := "()I" } : Jvm.MethodName)) ∈ zwd := qw_of 429 (by decide +kernel) (by decide +kernel)
theorem qw_372 : (Jvm.Cond.selects "PathChecker$Structure" ({ cls := "PathChecker$Structure", name := "statesWithPath", desc := "()I" } : Jvm.MethodName) ({ cls := "PathChecker$Structure", name := "statesWithPath", desc := "()I" } : Jvm.MethodName)) ∈ zwd := qw_of 430 (by decide +kernel) (by decide +kernel)
theorem qw_373 : (Jvm.Cond.code ({ cls := "PathChecker$Structure", name := "statesWithPath", desc := "()I" } : Jvm.MethodName) prog_9_method_3_code (4 : Nat) (Option.some Jvm.ClassFile.FieldType.int)) ∈ zwd := qw_of 431 (by decide +kernel) (by decide +kernel)
theorem qw_374 : (Jvm.Cond.methodLink "PathCheckerLaw" (105 : Nat) ({ cls := "PathChecker", name := "go", desc := "(I)I" } : Jvm.MethodName)) ∈ zwd := qw_of 432 (by decide +kernel) (by decide +kernel)
theorem qw_375 : (Jvm.Cond.instanceMethod ({ cls := "PathChecker", name := "go", desc := "(I)I" } : Jvm.MethodName)) ∈ zwd := qw_of 433 (by decide +kernel) (by decide +kernel)
theorem qw_376 : (Jvm.Cond.selects "PathChecker" ({ cls := "PathChecker", name := "go", desc := "(I)I" } : Jvm.MethodName) ({ cls := "PathChecker", name := "go", desc := "(I)I" } : Jvm.MethodName)) ∈ zwd := qw_of 434 (by decide +kernel) (by decide +kernel)
theorem qw_377 : (Jvm.Cond.code ({ cls := "PathChecker", name := "go", desc := "(I)I" } : Jvm.MethodName) prog_1_method_15_code (2 : Nat) (Option.some Jvm.ClassFile.FieldType.int)) ∈ zwd := qw_of 435 (by decide +kernel) (by decide +kernel)
theorem qw_378 : (Jvm.Cond.methodLink "PathCheckerLaw" (109 : Nat) ({ cls := "PathChecker", name := "clear", desc := "()V" } : Jvm.MethodName)) ∈ zwd := qw_of 436 (by decide +kernel) (by decide +kernel)
theorem qw_379 : (Jvm.Cond.instanceMethod ({ cls := "PathChecker", name := "clear", desc := "()V" } : Jvm.MethodName)) ∈ zwd := qw_of 437 (by decide +kernel) (by decide +kernel)
theorem qw_380 : (Jvm.Cond.selects "PathChecker" ({ cls := "PathChecker", name := "clear", desc := "()V" } : Jvm.MethodName) ({ cls := "PathChecker", name := "clear", desc := "()V" } : Jvm.MethodName)) ∈ zwd := qw_of 438 (by decide +kernel) (by decide +kernel)
theorem qw_381 : (Jvm.Cond.code ({ cls := "PathChecker", name := "clear", desc := "()V" } : Jvm.MethodName) prog_1_method_16_code (1 : Nat) (Option.none : Option Jvm.ClassFile.FieldType)) ∈ zwd := qw_of 439 (by decide +kernel) (by decide +kernel)
theorem qw_382 : (Jvm.Cond.methodLink "PathCheckerLaw" (62 : Nat) ({ cls := "PathCheckerLaw", name := "formula", desc := "(LPathChecker;[J)I" } : Jvm.MethodName)) ∈ zwd := qw_of 440 (by decide +kernel) (by decide +kernel)
theorem qw_383 : (Jvm.Cond.static ({ cls := "PathCheckerLaw", name := "formula", desc := "(LPathChecker;[J)I" } : Jvm.MethodName)) ∈ zwd := qw_of 441 (by decide +kernel) (by decide +kernel)
theorem qw_387 : (Jvm.Cond.methodLink "PathCheckerLaw" (7 : Nat) ({ cls := "PathChecker", name := "formula", desc := "()I" } : Jvm.MethodName)) ∈ zwd := qw_of 445 (by decide +kernel) (by decide +kernel)
theorem qw_388 : (Jvm.Cond.instanceMethod ({ cls := "PathChecker", name := "formula", desc := "()I" } : Jvm.MethodName)) ∈ zwd := qw_of 446 (by decide +kernel) (by decide +kernel)
theorem qw_389 : (Jvm.Cond.selects "PathChecker" ({ cls := "PathChecker", name := "formula", desc := "()I" } : Jvm.MethodName) ({ cls := "PathChecker", name := "formula", desc := "()I" } : Jvm.MethodName)) ∈ zwd := qw_of 447 (by decide +kernel) (by decide +kernel)
theorem qw_390 : (Jvm.Cond.code ({ cls := "PathChecker", name := "formula", desc := "()I" } : Jvm.MethodName) prog_1_method_5_code (1 : Nat) (Option.some Jvm.ClassFile.FieldType.int)) ∈ zwd := qw_of 448 (by decide +kernel) (by decide +kernel)
theorem qw_391 : (Jvm.Cond.methodLink "PathChecker" (71 : Nat) ({ cls := "PathChecker$Reader", name := "reads", desc := "([CI)Z" } : Jvm.MethodName)) ∈ zwd := qw_of 449 (by decide +kernel) (by decide +kernel)
theorem qw_392 : (Jvm.Cond.instanceMethod ({ cls := "PathChecker$Reader", name := "reads", desc := "([CI)Z" } : Jvm.MethodName)) ∈ zwd := qw_of 450 (by decide +kernel) (by decide +kernel)
theorem qw_393 : (Jvm.Cond.selects "PathChecker$Reader" ({ cls := "PathChecker$Reader", name := "reads", desc := "([CI)Z" } : Jvm.MethodName) ({ cls := "PathChecker$Reader", name := "reads", desc := "([CI)Z" } : Jvm.MethodName)) ∈ zwd := qw_of 451 (by decide +kernel) (by decide +kernel)
theorem qw_394 : (Jvm.Cond.code ({ cls := "PathChecker$Reader", name := "reads", desc := "([CI)Z" } : Jvm.MethodName) prog_7_method_2_code (5 : Nat) (Option.some Jvm.ClassFile.FieldType.boolean)) ∈ zwd := qw_of 452 (by decide +kernel) (by decide +kernel)
theorem qw_395 : (Jvm.Cond.methodLink "PathChecker$Reader" (28 : Nat) ({ cls := "PathChecker$Reader", name := "startAnew", desc := "()V" } : Jvm.MethodName)) ∈ zwd := qw_of 453 (by decide +kernel) (by decide +kernel)
theorem qw_397 : (Jvm.Cond.instanceMethod ({ cls := "PathChecker$Reader", name := "startAnew", desc := "()V" } : Jvm.MethodName)) ∈ zwd := qw_of 455 (by decide +kernel) (by decide +kernel)
theorem qw_398 : (Jvm.Cond.code ({ cls := "PathChecker$Reader", name := "startAnew", desc := "()V" } : Jvm.MethodName) prog_7_method_3_code (1 : Nat) (Option.none : Option Jvm.ClassFile.FieldType)) ∈ zwd := qw_of 456 (by decide +kernel) (by decide +kernel)
theorem qw_399 : (Jvm.Cond.methodLink "PathChecker$Reader" (35 : Nat) ({ cls := "PathChecker$Reader", name := "takeInUnit", desc := "(C)Z" } : Jvm.MethodName)) ∈ zwd := qw_of 457 (by decide +kernel) (by decide +kernel)
theorem qw_401 : (Jvm.Cond.instanceMethod ({ cls := "PathChecker$Reader", name := "takeInUnit", desc := "(C)Z" } : Jvm.MethodName)) ∈ zwd := qw_of 459 (by decide +kernel) (by decide +kernel)
theorem qw_402 : (Jvm.Cond.code ({ cls := "PathChecker$Reader", name := "takeInUnit", desc := "(C)Z" } : Jvm.MethodName) prog_7_method_4_code (2 : Nat) (Option.some Jvm.ClassFile.FieldType.boolean)) ∈ zwd := qw_of 460 (by decide +kernel) (by decide +kernel)
theorem qw_403 : (Jvm.Cond.methodLink "PathChecker$Reader" (65 : Nat) ({ cls := "PathChecker$Reader", name := "isLeaf", desc := "(C)Z" } : Jvm.MethodName)) ∈ zwd := qw_of 461 (by decide +kernel) (by decide +kernel)
theorem qw_404 : (Jvm.Cond.static ({ cls := "PathChecker$Reader", name := "isLeaf", desc := "(C)Z" } : Jvm.MethodName)) ∈ zwd := qw_of 462 (by decide +kernel) (by decide +kernel)
theorem qw_405 : (Jvm.Cond.code ({ cls := "PathChecker$Reader", name := "isLeaf", desc := "(C)Z" } : Jvm.MethodName) prog_7_method_10_code (1 : Nat) (Option.some Jvm.ClassFile.FieldType.boolean)) ∈ zwd := qw_of 463 (by decide +kernel) (by decide +kernel)
theorem qw_406 : (Jvm.Cond.methodLink "PathChecker$Reader" (68 : Nat) ({ cls := "PathChecker$Reader", name := "newPart", desc := "(CII)I" } : Jvm.MethodName)) ∈ zwd := qw_of 464 (by decide +kernel) (by decide +kernel)
theorem qw_408 : (Jvm.Cond.instanceMethod ({ cls := "PathChecker$Reader", name := "newPart", desc := "(CII)I" } : Jvm.MethodName)) ∈ zwd := qw_of 466 (by decide +kernel) (by decide +kernel)
theorem qw_409 : (Jvm.Cond.code ({ cls := "PathChecker$Reader", name := "newPart", desc := "(CII)I" } : Jvm.MethodName) prog_7_method_9_code (5 : Nat) (Option.some Jvm.ClassFile.FieldType.int)) ∈ zwd := qw_of 467 (by decide +kernel) (by decide +kernel)
theorem qw_410 : (Jvm.Cond.methodLink "PathChecker$Reader" (72 : Nat) ({ cls := "PathChecker$Reader", name := "rank", desc := "(C)I" } : Jvm.MethodName)) ∈ zwd := qw_of 468 (by decide +kernel) (by decide +kernel)
theorem qw_411 : (Jvm.Cond.static ({ cls := "PathChecker$Reader", name := "rank", desc := "(C)I" } : Jvm.MethodName)) ∈ zwd := qw_of 469 (by decide +kernel) (by decide +kernel)
theorem qw_412 : (Jvm.Cond.code ({ cls := "PathChecker$Reader", name := "rank", desc := "(C)I" } : Jvm.MethodName) prog_7_method_13_code (1 : Nat) (Option.some Jvm.ClassFile.FieldType.int)) ∈ zwd := qw_of 470 (by decide +kernel) (by decide +kernel)
theorem qw_413 : (Jvm.Cond.methodLink "PathChecker$Reader" (76 : Nat) ({ cls := "PathChecker$Reader", name := "await", desc := "(C)V" } : Jvm.MethodName)) ∈ zwd := qw_of 471 (by decide +kernel) (by decide +kernel)
theorem qw_415 : (Jvm.Cond.instanceMethod ({ cls := "PathChecker$Reader", name := "await", desc := "(C)V" } : Jvm.MethodName)) ∈ zwd := qw_of 473 (by decide +kernel) (by decide +kernel)
theorem qw_416 : (Jvm.Cond.code ({ cls := "PathChecker$Reader", name := "await", desc := "(C)V" } : Jvm.MethodName) prog_7_method_6_code (2 : Nat) (Option.none : Option Jvm.ClassFile.FieldType)) ∈ zwd := qw_of 474 (by decide +kernel) (by decide +kernel)
theorem qw_417 : (Jvm.Cond.methodLink "PathChecker$Reader" (39 : Nat) ({ cls := "PathChecker$Reader", name := "takeBehindUnit", desc := "(C)Z" } : Jvm.MethodName)) ∈ zwd := qw_of 475 (by decide +kernel) (by decide +kernel)
theorem qw_419 : (Jvm.Cond.instanceMethod ({ cls := "PathChecker$Reader", name := "takeBehindUnit", desc := "(C)Z" } : Jvm.MethodName)) ∈ zwd := qw_of 477 (by decide +kernel) (by decide +kernel)
theorem qw_420 : (Jvm.Cond.code ({ cls := "PathChecker$Reader", name := "takeBehindUnit", desc := "(C)Z" } : Jvm.MethodName) prog_7_method_5_code (3 : Nat) (Option.some Jvm.ClassFile.FieldType.boolean)) ∈ zwd := qw_of 478 (by decide +kernel) (by decide +kernel)
theorem qw_421 : (Jvm.Cond.methodLink "PathChecker$Reader" (52 : Nat) ({ cls := "PathChecker$Reader", name := "joinDownTo", desc := "(I)V" } : Jvm.MethodName)) ∈ zwd := qw_of 479 (by decide +kernel) (by decide +kernel)
theorem qw_423 : (Jvm.Cond.instanceMethod ({ cls := "PathChecker$Reader", name := "joinDownTo", desc := "(I)V" } : Jvm.MethodName)) ∈ zwd := qw_of 481 (by decide +kernel) (by decide +kernel)
theorem qw_424 : (Jvm.Cond.code ({ cls := "PathChecker$Reader", name := "joinDownTo", desc := "(I)V" } : Jvm.MethodName) prog_7_method_7_code (2 : Nat) (Option.none : Option Jvm.ClassFile.FieldType)) ∈ zwd := qw_of 482 (by decide +kernel) (by decide +kernel)
theorem qw_425 : (Jvm.Cond.methodLink "PathChecker$Reader" (89 : Nat) ({ cls := "PathChecker$Reader", name := "join", desc := "(C)V" } : Jvm.MethodName)) ∈ zwd := qw_of 483 (by decide +kernel) (by decide +kernel)
theorem qw_427 : (Jvm.Cond.instanceMethod ({ cls := "PathChecker$Reader", name := "join", desc := "(C)V" } : Jvm.MethodName)) ∈ zwd := qw_of 485 (by decide +kernel) (by decide +kernel)
theorem qw_428 : (Jvm.Cond.code ({ cls := "PathChecker$Reader", name := "join", desc := "(C)V" } : Jvm.MethodName) prog_7_method_8_code (3 : Nat) (Option.none : Option Jvm.ClassFile.FieldType)) ∈ zwd := qw_of 486 (by decide +kernel) (by decide +kernel)
theorem qw_429 : (Jvm.Cond.methodLink "PathChecker$Reader" (80 : Nat) ({ cls := "java/lang/Math", name := "max", desc := "(II)I" } : Jvm.MethodName)) ∈ zwd := qw_of 487 (by decide +kernel) (by decide +kernel)
theorem qw_430 : (Jvm.Cond.static ({ cls := "java/lang/Math", name := "max", desc := "(II)I" } : Jvm.MethodName)) ∈ zwd := qw_of 488 (by decide +kernel) (by decide +kernel)
theorem qw_431 : (Jvm.Cond.code ({ cls := "java/lang/Math", name := "max", desc := "(II)I" } : Jvm.MethodName) prog_16_method_65_code (2 : Nat) (Option.some Jvm.ClassFile.FieldType.int)) ∈ zwd := qw_of 489 (by decide +kernel) (by decide +kernel)
theorem qw_432 : (Jvm.Cond.methodLink "PathChecker$Reader" (86 : Nat) ({ cls := "PathChecker$Reader", name := "groupsToTheRight", desc := "(C)Z" } : Jvm.MethodName)) ∈ zwd := qw_of 490 (by decide +kernel) (by decide +kernel)
theorem qw_433 : (Jvm.Cond.static ({ cls := "PathChecker$Reader", name := "groupsToTheRight", desc := "(C)Z" } : Jvm.MethodName)) ∈ zwd := qw_of 491 (by decide +kernel) (by decide +kernel)
theorem qw_434 : (Jvm.Cond.code ({ cls := "PathChecker$Reader", name := "groupsToTheRight", desc := "(C)Z" } : Jvm.MethodName) prog_7_method_12_code (1 : Nat) (Option.some Jvm.ClassFile.FieldType.boolean)) ∈ zwd := qw_of 492 (by decide +kernel) (by decide +kernel)
theorem qw_435 : (Jvm.Cond.methodLink "PathChecker$Reader" (42 : Nat) ({ cls := "PathChecker$Reader", name := "isTimed", desc := "(C)Z" } : Jvm.MethodName)) ∈ zwd := qw_of 493 (by decide +kernel) (by decide +kernel)
theorem qw_436 : (Jvm.Cond.static ({ cls := "PathChecker$Reader", name := "isTimed", desc := "(C)Z" } : Jvm.MethodName)) ∈ zwd := qw_of 494 (by decide +kernel) (by decide +kernel)
theorem qw_437 : (Jvm.Cond.code ({ cls := "PathChecker$Reader", name := "isTimed", desc := "(C)Z" } : Jvm.MethodName) prog_7_method_11_code (1 : Nat) (Option.some Jvm.ClassFile.FieldType.boolean)) ∈ zwd := qw_of 495 (by decide +kernel) (by decide +kernel)
theorem qw_517 : (Jvm.Cond.methodLink "PathChecker" (84 : Nat) ({ cls := "PathChecker$NormalForm", name := "take", desc := "(LPathChecker$Reader;)V" } : Jvm.MethodName)) ∈ zwd := qw_of 575 (by decide +kernel) (by decide +kernel)
theorem qw_518 : (Jvm.Cond.instanceMethod ({ cls := "PathChecker$NormalForm", name := "take", desc := "(LPathChecker$Reader;)V" } : Jvm.MethodName)) ∈ zwd := qw_of 576 (by decide +kernel) (by decide +kernel)
theorem qw_519 : (Jvm.Cond.selects "PathChecker$NormalForm" ({ cls := "PathChecker$NormalForm", name := "take", desc := "(LPathChecker$Reader;)V" } : Jvm.MethodName) ({ cls := "PathChecker$NormalForm", name := "take", desc := "(LPathChecker$Reader;)V" } : Jvm.MethodName)) ∈ zwd := qw_of 577 (by decide +kernel) (by decide +kernel)
theorem qw_520 : (Jvm.Cond.code ({ cls := "PathChecker$NormalForm", name := "take", desc := "(LPathChecker$Reader;)V" } : Jvm.MethodName) prog_5_method_3_code (2 : Nat) (Option.none : Option Jvm.ClassFile.FieldType)) ∈ zwd := qw_of 578 (by decide +kernel) (by decide +kernel)
theorem qw_521 : (Jvm.Cond.methodLink "PathChecker$NormalForm" (39 : Nat) ({ cls := "PathChecker$NormalForm", name := "write", desc := "(LPathChecker$Reader;)V" } : Jvm.MethodName)) ∈ zwd := qw_of 579 (by decide +kernel) (by decide +kernel)
theorem qw_523 : (Jvm.Cond.instanceMethod ({ cls := "PathChecker$NormalForm", name := "write", desc := "(LPathChecker$Reader;)V" } : Jvm.MethodName)) ∈ zwd := qw_of 581 (by decide +kernel) (by decide +kernel)
theorem qw_524 : (Jvm.Cond.code ({ cls := "PathChecker$NormalForm", name := "write", desc := "(LPathChecker$Reader;)V" } : Jvm.MethodName) prog_5_method_4_code (7 : Nat) (Option.none : Option Jvm.ClassFile.FieldType)) ∈ zwd := qw_of 582 (by decide +kernel) (by decide +kernel)
theorem qw_525 : (Jvm.Cond.methodLink "PathChecker$NormalForm" (54 : Nat) ({ cls := "PathChecker$NormalForm", name := "keepForLater", desc := "(IZ)V" } : Jvm.MethodName)) ∈ zwd := qw_of 583 (by decide +kernel) (by decide +kernel)
theorem qw_527 : (Jvm.Cond.instanceMethod ({ cls := "PathChecker$NormalForm", name := "keepForLater", desc := "(IZ)V" } : Jvm.MethodName)) ∈ zwd := qw_of 585 (by decide +kernel) (by decide +kernel)
theorem qw_528 : (Jvm.Cond.code ({ cls := "PathChecker$NormalForm", name := "keepForLater", desc := "(IZ)V" } : Jvm.MethodName) prog_5_method_5_code (3 : Nat) (Option.none : Option Jvm.ClassFile.FieldType)) ∈ zwd := qw_of 586 (by decide +kernel) (by decide +kernel)
theorem qw_529 : (Jvm.Cond.methodLink "PathChecker$NormalForm" (59 : Nat) ({ cls := "PathChecker$NormalForm", name := "writeSigns", desc := "(CZ)V" } : Jvm.MethodName)) ∈ zwd := qw_of 587 (by decide +kernel) (by decide +kernel)
theorem qw_531 : (Jvm.Cond.instanceMethod ({ cls := "PathChecker$NormalForm", name := "writeSigns", desc := "(CZ)V" } : Jvm.MethodName)) ∈ zwd := qw_of 589 (by decide +kernel) (by decide +kernel)
theorem qw_532 : (Jvm.Cond.code ({ cls := "PathChecker$NormalForm", name := "writeSigns", desc := "(CZ)V" } : Jvm.MethodName) prog_5_method_6_code (3 : Nat) (Option.none : Option Jvm.ClassFile.FieldType)) ∈ zwd := qw_of 590 (by decide +kernel) (by decide +kernel)
theorem qw_533 : (Jvm.Cond.methodLink "PathChecker$NormalForm" (67 : Nat) ({ cls := "PathChecker$NormalForm", name := "add", desc := "(C)V" } : Jvm.MethodName)) ∈ zwd := qw_of 591 (by decide +kernel) (by decide +kernel)
theorem qw_535 : (Jvm.Cond.instanceMethod ({ cls := "PathChecker$NormalForm", name := "add", desc := "(C)V" } : Jvm.MethodName)) ∈ zwd := qw_of 593 (by decide +kernel) (by decide +kernel)
theorem qw_536 : (Jvm.Cond.code ({ cls := "PathChecker$NormalForm", name := "add", desc := "(C)V" } : Jvm.MethodName) prog_5_method_7_code (2 : Nat) (Option.none : Option Jvm.ClassFile.FieldType)) ∈ zwd := qw_of 594 (by decide +kernel) (by decide +kernel)
theorem qw_537 : (Jvm.Cond.methodLink "PathChecker$NormalForm" (71 : Nat) ({ cls := "PathChecker$NormalForm", name := "opposite", desc := "(C)C" } : Jvm.MethodName)) ∈ zwd := qw_of 595 (by decide +kernel) (by decide +kernel)
theorem qw_538 : (Jvm.Cond.static ({ cls := "PathChecker$NormalForm", name := "opposite", desc := "(C)C" } : Jvm.MethodName)) ∈ zwd := qw_of 596 (by decide +kernel) (by decide +kernel)
theorem qw_539 : (Jvm.Cond.code ({ cls := "PathChecker$NormalForm", name := "opposite", desc := "(C)C" } : Jvm.MethodName) prog_5_method_8_code (1 : Nat) (Option.some Jvm.ClassFile.FieldType.char)) ∈ zwd := qw_of 597 (by decide +kernel) (by decide +kernel)
theorem qw_540 : (Jvm.Cond.methodLink "PathChecker$NormalForm" (43 : Nat) ({ cls := "PathChecker$NormalForm", name := "connect", desc := "()V" } : Jvm.MethodName)) ∈ zwd := qw_of 598 (by decide +kernel) (by decide +kernel)
theorem qw_542 : (Jvm.Cond.instanceMethod ({ cls := "PathChecker$NormalForm", name := "connect", desc := "()V" } : Jvm.MethodName)) ∈ zwd := qw_of 600 (by decide +kernel) (by decide +kernel)
theorem qw_543 : (Jvm.Cond.code ({ cls := "PathChecker$NormalForm", name := "connect", desc := "()V" } : Jvm.MethodName) prog_5_method_9_code (2 : Nat) (Option.none : Option Jvm.ClassFile.FieldType)) ∈ zwd := qw_of 601 (by decide +kernel) (by decide +kernel)
theorem qw_544 : (Jvm.Cond.methodLink "PathChecker$NormalForm" (78 : Nat) ({ cls := "PathChecker$NormalForm", name := "isBinary", desc := "(C)Z" } : Jvm.MethodName)) ∈ zwd := qw_of 602 (by decide +kernel) (by decide +kernel)
theorem qw_545 : (Jvm.Cond.static ({ cls := "PathChecker$NormalForm", name := "isBinary", desc := "(C)Z" } : Jvm.MethodName)) ∈ zwd := qw_of 603 (by decide +kernel) (by decide +kernel)
theorem qw_546 : (Jvm.Cond.code ({ cls := "PathChecker$NormalForm", name := "isBinary", desc := "(C)Z" } : Jvm.MethodName) prog_5_method_10_code (1 : Nat) (Option.some Jvm.ClassFile.FieldType.boolean)) ∈ zwd := qw_of 604 (by decide +kernel) (by decide +kernel)
theorem qw_548 : (Jvm.Cond.methodLink "PathCheckerLaw" (71 : Nat) ({ cls := "PathCheckerLaw", name := "normal", desc := "(LPathChecker;I[J)I" } : Jvm.MethodName)) ∈ zwd := qw_of 606 (by decide +kernel) (by decide +kernel)
theorem qw_549 : (Jvm.Cond.static ({ cls := "PathCheckerLaw", name := "normal", desc := "(LPathChecker;I[J)I" } : Jvm.MethodName)) ∈ zwd := qw_of 607 (by decide +kernel) (by decide +kernel)
theorem qw_552 : (Jvm.Cond.methodLink "PathCheckerLaw" (17 : Nat) ({ cls := "PathChecker", name := "normal", desc := "(I)I" } : Jvm.MethodName)) ∈ zwd := qw_of 610 (by decide +kernel) (by decide +kernel)
theorem qw_553 : (Jvm.Cond.instanceMethod ({ cls := "PathChecker", name := "normal", desc := "(I)I" } : Jvm.MethodName)) ∈ zwd := qw_of 611 (by decide +kernel) (by decide +kernel)
theorem qw_554 : (Jvm.Cond.selects "PathChecker" ({ cls := "PathChecker", name := "normal", desc := "(I)I" } : Jvm.MethodName) ({ cls := "PathChecker", name := "normal", desc := "(I)I" } : Jvm.MethodName)) ∈ zwd := qw_of 612 (by decide +kernel) (by decide +kernel)
theorem qw_555 : (Jvm.Cond.code ({ cls := "PathChecker", name := "normal", desc := "(I)I" } : Jvm.MethodName) prog_1_method_6_code (2 : Nat) (Option.some Jvm.ClassFile.FieldType.int)) ∈ zwd := qw_of 613 (by decide +kernel) (by decide +kernel)
theorem qw_556 : (Jvm.Cond.methodLink "PathChecker" (95 : Nat) ({ cls := "PathChecker$NormalForm", name := "isMissing", desc := "()Z" } : Jvm.MethodName)) ∈ zwd := qw_of 614 (by decide +kernel) (by decide +kernel)
theorem qw_557 : (Jvm.Cond.instanceMethod ({ cls := "PathChecker$NormalForm", name := "isMissing", desc := "()Z" } : Jvm.MethodName)) ∈ zwd := qw_of 615 (by decide +kernel) (by decide +kernel)
theorem qw_558 : (Jvm.Cond.selects "PathChecker$NormalForm" ({ cls := "PathChecker$NormalForm", name := "isMissing", desc := "()Z" } : Jvm.MethodName) ({ cls := "PathChecker$NormalForm", name := "isMissing", desc := "()Z" } : Jvm.MethodName)) ∈ zwd := qw_of 616 (by decide +kernel) (by decide +kernel)
theorem qw_559 : (Jvm.Cond.code ({ cls := "PathChecker$NormalForm", name := "isMissing", desc := "()Z" } : Jvm.MethodName) prog_5_method_2_code (1 : Nat) (Option.some Jvm.ClassFile.FieldType.boolean)) ∈ zwd := qw_of 617 (by decide +kernel) (by decide +kernel)
theorem qw_575 : (Jvm.Cond.methodLink "PathCheckerLaw" (92 : Nat) ({ cls := "PathCheckerLaw", name := "keeps", desc := "(LPathChecker;I[J)I" } : Jvm.MethodName)) ∈ zwd := qw_of 633 (by decide +kernel) (by decide +kernel)
theorem qw_576 : (Jvm.Cond.static ({ cls := "PathCheckerLaw", name := "keeps", desc := "(LPathChecker;I[J)I" } : Jvm.MethodName)) ∈ zwd := qw_of 634 (by decide +kernel) (by decide +kernel)
theorem qw_579 : (Jvm.Cond.methodLink "PathCheckerLaw" (23 : Nat) ({ cls := "PathChecker", name := "keeps", desc := "(I)Z" } : Jvm.MethodName)) ∈ zwd := qw_of 637 (by decide +kernel) (by decide +kernel)
theorem qw_580 : (Jvm.Cond.instanceMethod ({ cls := "PathChecker", name := "keeps", desc := "(I)Z" } : Jvm.MethodName)) ∈ zwd := qw_of 638 (by decide +kernel) (by decide +kernel)
theorem qw_581 : (Jvm.Cond.selects "PathChecker" ({ cls := "PathChecker", name := "keeps", desc := "(I)Z" } : Jvm.MethodName) ({ cls := "PathChecker", name := "keeps", desc := "(I)Z" } : Jvm.MethodName)) ∈ zwd := qw_of 639 (by decide +kernel) (by decide +kernel)
theorem qw_582 : (Jvm.Cond.code ({ cls := "PathChecker", name := "keeps", desc := "(I)Z" } : Jvm.MethodName) prog_1_method_11_code (2 : Nat) (Option.some Jvm.ClassFile.FieldType.boolean)) ∈ zwd := qw_of 640 (by decide +kernel) (by decide +kernel)
theorem qw_598 : (Jvm.Cond.methodLink "PathChecker" (132 : Nat) ({ cls := "PathChecker", name := "bringUpToDate", desc := "()V" } : Jvm.MethodName)) ∈ zwd := qw_of 656 (by decide +kernel) (by decide +kernel)
theorem qw_600 : (Jvm.Cond.instanceMethod ({ cls := "PathChecker", name := "bringUpToDate", desc := "()V" } : Jvm.MethodName)) ∈ zwd := qw_of 658 (by decide +kernel) (by decide +kernel)
theorem qw_601 : (Jvm.Cond.code ({ cls := "PathChecker", name := "bringUpToDate", desc := "()V" } : Jvm.MethodName) prog_1_method_19_code (1 : Nat) (Option.none : Option Jvm.ClassFile.FieldType)) ∈ zwd := qw_of 659 (by decide +kernel) (by decide +kernel)
theorem qw_602 : (Jvm.Cond.methodLink "PathChecker" (164 : Nat) ({ cls := "PathChecker$Graph", name := "build", desc := "()V" } : Jvm.MethodName)) ∈ zwd := qw_of 660 (by decide +kernel) (by decide +kernel)
theorem qw_603 : (Jvm.Cond.instanceMethod ({ cls := "PathChecker$Graph", name := "build", desc := "()V" } : Jvm.MethodName)) ∈ zwd := qw_of 661 (by decide +kernel) (by decide +kernel)
theorem qw_604 : (Jvm.Cond.selects "PathChecker$Graph" ({ cls := "PathChecker$Graph", name := "build", desc := "()V" } : Jvm.MethodName) ({ cls := "PathChecker$Graph", name := "build", desc := "()V" } : Jvm.MethodName)) ∈ zwd := qw_of 662 (by decide +kernel) (by decide +kernel)
theorem qw_605 : (Jvm.Cond.code ({ cls := "PathChecker$Graph", name := "build", desc := "()V" } : Jvm.MethodName) prog_2_method_2_code (3 : Nat) (Option.none : Option Jvm.ClassFile.FieldType)) ∈ zwd := qw_of 663 (by decide +kernel) (by decide +kernel)
theorem qw_606 : (Jvm.Cond.methodLink "PathChecker$Graph" (48 : Nat) ({ cls := "PathChecker$Graph", name := "weighHere", desc := "(I)V" } : Jvm.MethodName)) ∈ zwd := qw_of 664 (by decide +kernel) (by decide +kernel)
theorem qw_608 : (Jvm.Cond.instanceMethod ({ cls := "PathChecker$Graph", name := "weighHere", desc := "(I)V" } : Jvm.MethodName)) ∈ zwd := qw_of 666 (by decide +kernel) (by decide +kernel)
theorem qw_609 : (Jvm.Cond.code ({ cls := "PathChecker$Graph", name := "weighHere", desc := "(I)V" } : Jvm.MethodName) prog_2_method_3_code (5 : Nat) (Option.none : Option Jvm.ClassFile.FieldType)) ∈ zwd := qw_of 667 (by decide +kernel) (by decide +kernel)
theorem qw_610 : (Jvm.Cond.methodLink "PathChecker$Graph" (72 : Nat) ({ cls := "PathChecker$Graph", name := "untimed", desc := "([III)I" } : Jvm.MethodName)) ∈ zwd := qw_of 668 (by decide +kernel) (by decide +kernel)
theorem qw_612 : (Jvm.Cond.instanceMethod ({ cls := "PathChecker$Graph", name := "untimed", desc := "([III)I" } : Jvm.MethodName)) ∈ zwd := qw_of 670 (by decide +kernel) (by decide +kernel)
theorem qw_613 : (Jvm.Cond.code ({ cls := "PathChecker$Graph", name := "untimed", desc := "([III)I" } : Jvm.MethodName) prog_2_method_7_code (4 : Nat) (Option.some Jvm.ClassFile.FieldType.int)) ∈ zwd := qw_of 671 (by decide +kernel) (by decide +kernel)
theorem qw_614 : (Jvm.Cond.methodLink "PathChecker$Graph" (96 : Nat) ({ cls := "PathChecker$NormalForm", name := "leafHolds", desc := "(CI)Z" } : Jvm.MethodName)) ∈ zwd := qw_of 672 (by decide +kernel) (by decide +kernel)
theorem qw_615 : (Jvm.Cond.static ({ cls := "PathChecker$NormalForm", name := "leafHolds", desc := "(CI)Z" } : Jvm.MethodName)) ∈ zwd := qw_of 673 (by decide +kernel) (by decide +kernel)
theorem qw_616 : (Jvm.Cond.code ({ cls := "PathChecker$NormalForm", name := "leafHolds", desc := "(CI)Z" } : Jvm.MethodName) prog_5_method_11_code (2 : Nat) (Option.some Jvm.ClassFile.FieldType.boolean)) ∈ zwd := qw_of 674 (by decide +kernel) (by decide +kernel)
theorem qw_619 : (Jvm.Cond.methodLink "PathChecker$Graph" (82 : Nat) ({ cls := "PathChecker$Graph", name := "promptGuesses", desc := "(II)I" } : Jvm.MethodName)) ∈ zwd := qw_of 677 (by decide +kernel) (by decide +kernel)
theorem qw_621 : (Jvm.Cond.instanceMethod ({ cls := "PathChecker$Graph", name := "promptGuesses", desc := "(II)I" } : Jvm.MethodName)) ∈ zwd := qw_of 679 (by decide +kernel) (by decide +kernel)
theorem qw_622 : (Jvm.Cond.code ({ cls := "PathChecker$Graph", name := "promptGuesses", desc := "(II)I" } : Jvm.MethodName) prog_2_method_4_code (3 : Nat) (Option.some Jvm.ClassFile.FieldType.int)) ∈ zwd := qw_of 680 (by decide +kernel) (by decide +kernel)
theorem qw_623 : (Jvm.Cond.methodLink "PathChecker$Graph" (52 : Nat) ({ cls := "PathChecker$Structure", name := "joins", desc := "(II)Z" } : Jvm.MethodName)) ∈ zwd := qw_of 681 (by decide +kernel) (by decide +kernel)
theorem qw_624 : (Jvm.Cond.methodLink "PathChecker$Graph" (56 : Nat) ({ cls := "PathChecker$Graph", name := "weighBefore", desc := "(I)V" } : Jvm.MethodName)) ∈ zwd := qw_of 682 (by decide +kernel) (by decide +kernel)
theorem qw_626 : (Jvm.Cond.instanceMethod ({ cls := "PathChecker$Graph", name := "weighBefore", desc := "(I)V" } : Jvm.MethodName)) ∈ zwd := qw_of 684 (by decide +kernel) (by decide +kernel)
theorem qw_627 : (Jvm.Cond.code ({ cls := "PathChecker$Graph", name := "weighBefore", desc := "(I)V" } : Jvm.MethodName) prog_2_method_5_code (5 : Nat) (Option.none : Option Jvm.ClassFile.FieldType)) ∈ zwd := qw_of 685 (by decide +kernel) (by decide +kernel)
theorem qw_628 : (Jvm.Cond.methodLink "PathChecker$Graph" (93 : Nat) ({ cls := "PathChecker$Graph", name := "timedBefore", desc := "(II)I" } : Jvm.MethodName)) ∈ zwd := qw_of 686 (by decide +kernel) (by decide +kernel)
theorem qw_630 : (Jvm.Cond.instanceMethod ({ cls := "PathChecker$Graph", name := "timedBefore", desc := "(II)I" } : Jvm.MethodName)) ∈ zwd := qw_of 688 (by decide +kernel) (by decide +kernel)
theorem qw_631 : (Jvm.Cond.code ({ cls := "PathChecker$Graph", name := "timedBefore", desc := "(II)I" } : Jvm.MethodName) prog_2_method_6_code (4 : Nat) (Option.some Jvm.ClassFile.FieldType.int)) ∈ zwd := qw_of 689 (by decide +kernel) (by decide +kernel)
theorem qw_632 : (Jvm.Cond.methodLink "PathChecker$Graph" (59 : Nat) ({ cls := "PathChecker$Graph", name := "writeGuesses", desc := "(II)V" } : Jvm.MethodName)) ∈ zwd := qw_of 690 (by decide +kernel) (by decide +kernel)
theorem qw_634 : (Jvm.Cond.instanceMethod ({ cls := "PathChecker$Graph", name := "writeGuesses", desc := "(II)V" } : Jvm.MethodName)) ∈ zwd := qw_of 692 (by decide +kernel) (by decide +kernel)
theorem qw_635 : (Jvm.Cond.code ({ cls := "PathChecker$Graph", name := "writeGuesses", desc := "(II)V" } : Jvm.MethodName) prog_2_method_8_code (6 : Nat) (Option.none : Option Jvm.ClassFile.FieldType)) ∈ zwd := qw_of 693 (by decide +kernel) (by decide +kernel)
theorem qw_636 : (Jvm.Cond.methodLink "PathChecker" (167 : Nat) ({ cls := "PathChecker$Knots", name := "find", desc := "()V" } : Jvm.MethodName)) ∈ zwd := qw_of 694 (by decide +kernel) (by decide +kernel)
theorem qw_637 : (Jvm.Cond.instanceMethod ({ cls := "PathChecker$Knots", name := "find", desc := "()V" } : Jvm.MethodName)) ∈ zwd := qw_of 695 (by decide +kernel) (by decide +kernel)
theorem qw_638 : (Jvm.Cond.selects "PathChecker$Knots" ({ cls := "PathChecker$Knots", name := "find", desc := "()V" } : Jvm.MethodName) ({ cls := "PathChecker$Knots", name := "find", desc := "()V" } : Jvm.MethodName)) ∈ zwd := qw_of 696 (by decide +kernel) (by decide +kernel)
theorem qw_639 : (Jvm.Cond.code ({ cls := "PathChecker$Knots", name := "find", desc := "()V" } : Jvm.MethodName) prog_3_method_2_code (4 : Nat) (Option.none : Option Jvm.ClassFile.FieldType)) ∈ zwd := qw_of 697 (by decide +kernel) (by decide +kernel)
theorem qw_640 : (Jvm.Cond.methodLink "PathChecker$Knots" (44 : Nat) ({ cls := "PathChecker$Knots", name := "startAnew", desc := "()V" } : Jvm.MethodName)) ∈ zwd := qw_of 698 (by decide +kernel) (by decide +kernel)
theorem qw_642 : (Jvm.Cond.instanceMethod ({ cls := "PathChecker$Knots", name := "startAnew", desc := "()V" } : Jvm.MethodName)) ∈ zwd := qw_of 700 (by decide +kernel) (by decide +kernel)
theorem qw_643 : (Jvm.Cond.code ({ cls := "PathChecker$Knots", name := "startAnew", desc := "()V" } : Jvm.MethodName) prog_3_method_3_code (2 : Nat) (Option.none : Option Jvm.ClassFile.FieldType)) ∈ zwd := qw_of 701 (by decide +kernel) (by decide +kernel)
theorem qw_644 : (Jvm.Cond.methodLink "PathChecker$Knots" (50 : Nat) ({ cls := "PathChecker$Knots", name := "walkFrom", desc := "(I)V" } : Jvm.MethodName)) ∈ zwd := qw_of 702 (by decide +kernel) (by decide +kernel)
theorem qw_646 : (Jvm.Cond.instanceMethod ({ cls := "PathChecker$Knots", name := "walkFrom", desc := "(I)V" } : Jvm.MethodName)) ∈ zwd := qw_of 704 (by decide +kernel) (by decide +kernel)
theorem qw_647 : (Jvm.Cond.code ({ cls := "PathChecker$Knots", name := "walkFrom", desc := "(I)V" } : Jvm.MethodName) prog_3_method_4_code (6 : Nat) (Option.none : Option Jvm.ClassFile.FieldType)) ∈ zwd := qw_of 705 (by decide +kernel) (by decide +kernel)
theorem qw_648 : (Jvm.Cond.methodLink "PathChecker$Knots" (63 : Nat) ({ cls := "PathChecker$Knots", name := "enter", desc := "(I)V" } : Jvm.MethodName)) ∈ zwd := qw_of 706 (by decide +kernel) (by decide +kernel)
theorem qw_650 : (Jvm.Cond.instanceMethod ({ cls := "PathChecker$Knots", name := "enter", desc := "(I)V" } : Jvm.MethodName)) ∈ zwd := qw_of 708 (by decide +kernel) (by decide +kernel)
theorem qw_651 : (Jvm.Cond.code ({ cls := "PathChecker$Knots", name := "enter", desc := "(I)V" } : Jvm.MethodName) prog_3_method_5_code (2 : Nat) (Option.none : Option Jvm.ClassFile.FieldType)) ∈ zwd := qw_of 709 (by decide +kernel) (by decide +kernel)
theorem qw_652 : (Jvm.Cond.methodLink "PathChecker$Knots" (66 : Nat) ({ cls := "PathChecker$Knots", name := "tryStep", desc := "(II)V" } : Jvm.MethodName)) ∈ zwd := qw_of 710 (by decide +kernel) (by decide +kernel)
theorem qw_654 : (Jvm.Cond.instanceMethod ({ cls := "PathChecker$Knots", name := "tryStep", desc := "(II)V" } : Jvm.MethodName)) ∈ zwd := qw_of 712 (by decide +kernel) (by decide +kernel)
theorem qw_655 : (Jvm.Cond.code ({ cls := "PathChecker$Knots", name := "tryStep", desc := "(II)V" } : Jvm.MethodName) prog_3_method_6_code (5 : Nat) (Option.none : Option Jvm.ClassFile.FieldType)) ∈ zwd := qw_of 713 (by decide +kernel) (by decide +kernel)
theorem qw_656 : (Jvm.Cond.methodLink "PathChecker$Knots" (83 : Nat) ({ cls := "PathChecker$Structure", name := "joins", desc := "(II)Z" } : Jvm.MethodName)) ∈ zwd := qw_of 714 (by decide +kernel) (by decide +kernel)
theorem qw_657 : (Jvm.Cond.methodLink "PathChecker$Knots" (89 : Nat) ({ cls := "PathChecker$Graph", name := "guessBefore", desc := "(III)I" } : Jvm.MethodName)) ∈ zwd := qw_of 715 (by decide +kernel) (by decide +kernel)
theorem qw_658 : (Jvm.Cond.instanceMethod ({ cls := "PathChecker$Graph", name := "guessBefore", desc := "(III)I" } : Jvm.MethodName)) ∈ zwd := qw_of 716 (by decide +kernel) (by decide +kernel)
theorem qw_659 : (Jvm.Cond.selects "PathChecker$Graph" ({ cls := "PathChecker$Graph", name := "guessBefore", desc := "(III)I" } : Jvm.MethodName) ({ cls := "PathChecker$Graph", name := "guessBefore", desc := "(III)I" } : Jvm.MethodName)) ∈ zwd := qw_of 717 (by decide +kernel) (by decide +kernel)
theorem qw_660 : (Jvm.Cond.code ({ cls := "PathChecker$Graph", name := "guessBefore", desc := "(III)I" } : Jvm.MethodName) prog_2_method_9_code (4 : Nat) (Option.some Jvm.ClassFile.FieldType.int)) ∈ zwd := qw_of 718 (by decide +kernel) (by decide +kernel)
theorem qw_661 : (Jvm.Cond.methodLink "PathChecker$Knots" (70 : Nat) ({ cls := "java/lang/Math", name := "min", desc := "(II)I" } : Jvm.MethodName)) ∈ zwd := qw_of 719 (by decide +kernel) (by decide +kernel)
theorem qw_662 : (Jvm.Cond.static ({ cls := "java/lang/Math", name := "min", desc := "(II)I" } : Jvm.MethodName)) ∈ zwd := qw_of 720 (by decide +kernel) (by decide +kernel)
theorem qw_663 : (Jvm.Cond.code ({ cls := "java/lang/Math", name := "min", desc := "(II)I" } : Jvm.MethodName) prog_16_method_69_code (2 : Nat) (Option.some Jvm.ClassFile.FieldType.int)) ∈ zwd := qw_of 721 (by decide +kernel) (by decide +kernel)
theorem qw_664 : (Jvm.Cond.methodLink "PathChecker$Knots" (76 : Nat) ({ cls := "PathChecker$Knots", name := "release", desc := "(I)V" } : Jvm.MethodName)) ∈ zwd := qw_of 722 (by decide +kernel) (by decide +kernel)
theorem qw_666 : (Jvm.Cond.instanceMethod ({ cls := "PathChecker$Knots", name := "release", desc := "(I)V" } : Jvm.MethodName)) ∈ zwd := qw_of 724 (by decide +kernel) (by decide +kernel)
theorem qw_667 : (Jvm.Cond.code ({ cls := "PathChecker$Knots", name := "release", desc := "(I)V" } : Jvm.MethodName) prog_3_method_7_code (5 : Nat) (Option.none : Option Jvm.ClassFile.FieldType)) ∈ zwd := qw_of 725 (by decide +kernel) (by decide +kernel)
theorem qw_668 : (Jvm.Cond.methodLink "PathChecker$Knots" (93 : Nat) ({ cls := "PathChecker$Knots", name := "goesToItself", desc := "(I)Z" } : Jvm.MethodName)) ∈ zwd := qw_of 726 (by decide +kernel) (by decide +kernel)
theorem qw_670 : (Jvm.Cond.instanceMethod ({ cls := "PathChecker$Knots", name := "goesToItself", desc := "(I)Z" } : Jvm.MethodName)) ∈ zwd := qw_of 728 (by decide +kernel) (by decide +kernel)
theorem qw_671 : (Jvm.Cond.code ({ cls := "PathChecker$Knots", name := "goesToItself", desc := "(I)Z" } : Jvm.MethodName) prog_3_method_8_code (4 : Nat) (Option.some Jvm.ClassFile.FieldType.boolean)) ∈ zwd := qw_of 729 (by decide +kernel) (by decide +kernel)
theorem qw_672 : (Jvm.Cond.methodLink "PathChecker$Knots" (97 : Nat) ({ cls := "PathChecker$Knots", name := "isPrompt", desc := "()Z" } : Jvm.MethodName)) ∈ zwd := qw_of 730 (by decide +kernel) (by decide +kernel)
theorem qw_674 : (Jvm.Cond.instanceMethod ({ cls := "PathChecker$Knots", name := "isPrompt", desc := "()Z" } : Jvm.MethodName)) ∈ zwd := qw_of 732 (by decide +kernel) (by decide +kernel)
theorem qw_675 : (Jvm.Cond.code ({ cls := "PathChecker$Knots", name := "isPrompt", desc := "()Z" } : Jvm.MethodName) prog_3_method_9_code (4 : Nat) (Option.some Jvm.ClassFile.FieldType.boolean)) ∈ zwd := qw_of 733 (by decide +kernel) (by decide +kernel)
theorem qw_676 : (Jvm.Cond.methodLink "PathChecker" (170 : Nat) ({ cls := "PathChecker$Nearness", name := "measure", desc := "()V" } : Jvm.MethodName)) ∈ zwd := qw_of 734 (by decide +kernel) (by decide +kernel)
theorem qw_677 : (Jvm.Cond.instanceMethod ({ cls := "PathChecker$Nearness", name := "measure", desc := "()V" } : Jvm.MethodName)) ∈ zwd := qw_of 735 (by decide +kernel) (by decide +kernel)
theorem qw_678 : (Jvm.Cond.selects "PathChecker$Nearness" ({ cls := "PathChecker$Nearness", name := "measure", desc := "()V" } : Jvm.MethodName) ({ cls := "PathChecker$Nearness", name := "measure", desc := "()V" } : Jvm.MethodName)) ∈ zwd := qw_of 736 (by decide +kernel) (by decide +kernel)
theorem qw_679 : (Jvm.Cond.code ({ cls := "PathChecker$Nearness", name := "measure", desc := "()V" } : Jvm.MethodName) prog_4_method_2_code (3 : Nat) (Option.none : Option Jvm.ClassFile.FieldType)) ∈ zwd := qw_of 737 (by decide +kernel) (by decide +kernel)
theorem qw_680 : (Jvm.Cond.methodLink "PathChecker$Nearness" (33 : Nat) ({ cls := "PathChecker$Nearness", name := "oneStepMore", desc := "([III)I" } : Jvm.MethodName)) ∈ zwd := qw_of 738 (by decide +kernel) (by decide +kernel)
theorem qw_682 : (Jvm.Cond.instanceMethod ({ cls := "PathChecker$Nearness", name := "oneStepMore", desc := "([III)I" } : Jvm.MethodName)) ∈ zwd := qw_of 740 (by decide +kernel) (by decide +kernel)
theorem qw_683 : (Jvm.Cond.code ({ cls := "PathChecker$Nearness", name := "oneStepMore", desc := "([III)I" } : Jvm.MethodName) prog_4_method_4_code (6 : Nat) (Option.some Jvm.ClassFile.FieldType.int)) ∈ zwd := qw_of 741 (by decide +kernel) (by decide +kernel)
theorem qw_684 : (Jvm.Cond.methodLink "PathChecker$Nearness" (47 : Nat) ({ cls := "PathChecker$Structure", name := "joins", desc := "(II)Z" } : Jvm.MethodName)) ∈ zwd := qw_of 742 (by decide +kernel) (by decide +kernel)
theorem qw_685 : (Jvm.Cond.methodLink "PathChecker$Nearness" (53 : Nat) ({ cls := "PathChecker$Graph", name := "guessesBefore", desc := "(III)I" } : Jvm.MethodName)) ∈ zwd := qw_of 743 (by decide +kernel) (by decide +kernel)
theorem qw_686 : (Jvm.Cond.instanceMethod ({ cls := "PathChecker$Graph", name := "guessesBefore", desc := "(III)I" } : Jvm.MethodName)) ∈ zwd := qw_of 744 (by decide +kernel) (by decide +kernel)
theorem qw_687 : (Jvm.Cond.selects "PathChecker$Graph" ({ cls := "PathChecker$Graph", name := "guessesBefore", desc := "(III)I" } : Jvm.MethodName) ({ cls := "PathChecker$Graph", name := "guessesBefore", desc := "(III)I" } : Jvm.MethodName)) ∈ zwd := qw_of 745 (by decide +kernel) (by decide +kernel)
theorem qw_688 : (Jvm.Cond.code ({ cls := "PathChecker$Graph", name := "guessesBefore", desc := "(III)I" } : Jvm.MethodName) prog_2_method_10_code (6 : Nat) (Option.some Jvm.ClassFile.FieldType.int)) ∈ zwd := qw_of 746 (by decide +kernel) (by decide +kernel)
theorem qw_689 : (Jvm.Cond.methodLink "PathChecker$Graph" (100 : Nat) ({ cls := "PathChecker$Graph", name := "guessBefore", desc := "(III)I" } : Jvm.MethodName)) ∈ zwd := qw_of 747 (by decide +kernel) (by decide +kernel)
theorem qw_690 : (Jvm.Cond.methodLink "PathChecker$Nearness" (37 : Nat) ({ cls := "PathChecker$Nearness", name := "growReaching", desc := "()Z" } : Jvm.MethodName)) ∈ zwd := qw_of 748 (by decide +kernel) (by decide +kernel)
theorem qw_692 : (Jvm.Cond.instanceMethod ({ cls := "PathChecker$Nearness", name := "growReaching", desc := "()Z" } : Jvm.MethodName)) ∈ zwd := qw_of 750 (by decide +kernel) (by decide +kernel)
theorem qw_693 : (Jvm.Cond.code ({ cls := "PathChecker$Nearness", name := "growReaching", desc := "()Z" } : Jvm.MethodName) prog_4_method_3_code (4 : Nat) (Option.some Jvm.ClassFile.FieldType.boolean)) ∈ zwd := qw_of 751 (by decide +kernel) (by decide +kernel)
theorem qw_694 : (Jvm.Cond.methodLink "PathChecker" (173 : Nat) ({ cls := "PathChecker$Search", name := "forget", desc := "()V" } : Jvm.MethodName)) ∈ zwd := qw_of 752 (by decide +kernel) (by decide +kernel)
theorem qw_695 : (Jvm.Cond.instanceMethod ({ cls := "PathChecker$Search", name := "forget", desc := "()V" } : Jvm.MethodName)) ∈ zwd := qw_of 753 (by decide +kernel) (by decide +kernel)
theorem qw_696 : (Jvm.Cond.selects "PathChecker$Search" ({ cls := "PathChecker$Search", name := "forget", desc := "()V" } : Jvm.MethodName) ({ cls := "PathChecker$Search", name := "forget", desc := "()V" } : Jvm.MethodName)) ∈ zwd := qw_of 754 (by decide +kernel) (by decide +kernel)
theorem qw_697 : (Jvm.Cond.code ({ cls := "PathChecker$Search", name := "forget", desc := "()V" } : Jvm.MethodName) prog_8_method_2_code (1 : Nat) (Option.none : Option Jvm.ClassFile.FieldType)) ∈ zwd := qw_of 755 (by decide +kernel) (by decide +kernel)
theorem qw_698 : (Jvm.Cond.methodLink "PathChecker" (135 : Nat) ({ cls := "PathChecker$Nearness", name := "statesWithPath", desc := "(Z)I" } : Jvm.MethodName)) ∈ zwd := qw_of 756 (by decide +kernel) (by decide +kernel)
theorem qw_699 : (Jvm.Cond.instanceMethod ({ cls := "PathChecker$Nearness", name := "statesWithPath", desc := "(Z)I" } : Jvm.MethodName)) ∈ zwd := qw_of 757 (by decide +kernel) (by decide +kernel)
theorem qw_700 : (Jvm.Cond.selects "PathChecker$Nearness" ({ cls := "PathChecker$Nearness", name := "statesWithPath", desc := "(Z)I" } : Jvm.MethodName) ({ cls := "PathChecker$Nearness", name := "statesWithPath", desc := "(Z)I" } : Jvm.MethodName)) ∈ zwd := qw_of 758 (by decide +kernel) (by decide +kernel)
theorem qw_701 : (Jvm.Cond.code ({ cls := "PathChecker$Nearness", name := "statesWithPath", desc := "(Z)I" } : Jvm.MethodName) prog_4_method_6_code (5 : Nat) (Option.some Jvm.ClassFile.FieldType.int)) ∈ zwd := qw_of 759 (by decide +kernel) (by decide +kernel)
theorem qw_702 : (Jvm.Cond.methodLink "PathCheckerLaw" (95 : Nat) ({ cls := "PathCheckerLaw", name := "breaking", desc := "(LPathChecker;[J)I" } : Jvm.MethodName)) ∈ zwd := qw_of 760 (by decide +kernel) (by decide +kernel)
theorem qw_703 : (Jvm.Cond.static ({ cls := "PathCheckerLaw", name := "breaking", desc := "(LPathChecker;[J)I" } : Jvm.MethodName)) ∈ zwd := qw_of 761 (by decide +kernel) (by decide +kernel)
theorem qw_705 : (Jvm.Cond.methodLink "PathCheckerLaw" (29 : Nat) ({ cls := "PathChecker", name := "breaking", desc := "()I" } : Jvm.MethodName)) ∈ zwd := qw_of 763 (by decide +kernel) (by decide +kernel)
theorem qw_706 : (Jvm.Cond.instanceMethod ({ cls := "PathChecker", name := "breaking", desc := "()I" } : Jvm.MethodName)) ∈ zwd := qw_of 764 (by decide +kernel) (by decide +kernel)
theorem qw_707 : (Jvm.Cond.selects "PathChecker" ({ cls := "PathChecker", name := "breaking", desc := "()I" } : Jvm.MethodName) ({ cls := "PathChecker", name := "breaking", desc := "()I" } : Jvm.MethodName)) ∈ zwd := qw_of 765 (by decide +kernel) (by decide +kernel)
theorem qw_708 : (Jvm.Cond.code ({ cls := "PathChecker", name := "breaking", desc := "()I" } : Jvm.MethodName) prog_1_method_12_code (1 : Nat) (Option.some Jvm.ClassFile.FieldType.int)) ∈ zwd := qw_of 766 (by decide +kernel) (by decide +kernel)
theorem qw_709 : (Jvm.Cond.methodLink "PathCheckerLaw" (98 : Nat) ({ cls := "PathCheckerLaw", name := "keeping", desc := "(LPathChecker;[J)I" } : Jvm.MethodName)) ∈ zwd := qw_of 767 (by decide +kernel) (by decide +kernel)
theorem qw_710 : (Jvm.Cond.static ({ cls := "PathCheckerLaw", name := "keeping", desc := "(LPathChecker;[J)I" } : Jvm.MethodName)) ∈ zwd := qw_of 768 (by decide +kernel) (by decide +kernel)
theorem qw_712 : (Jvm.Cond.methodLink "PathCheckerLaw" (32 : Nat) ({ cls := "PathChecker", name := "keeping", desc := "()I" } : Jvm.MethodName)) ∈ zwd := qw_of 770 (by decide +kernel) (by decide +kernel)
theorem qw_713 : (Jvm.Cond.instanceMethod ({ cls := "PathChecker", name := "keeping", desc := "()I" } : Jvm.MethodName)) ∈ zwd := qw_of 771 (by decide +kernel) (by decide +kernel)
theorem qw_714 : (Jvm.Cond.selects "PathChecker" ({ cls := "PathChecker", name := "keeping", desc := "()I" } : Jvm.MethodName) ({ cls := "PathChecker", name := "keeping", desc := "()I" } : Jvm.MethodName)) ∈ zwd := qw_of 772 (by decide +kernel) (by decide +kernel)
theorem qw_715 : (Jvm.Cond.code ({ cls := "PathChecker", name := "keeping", desc := "()I" } : Jvm.MethodName) prog_1_method_13_code (1 : Nat) (Option.some Jvm.ClassFile.FieldType.int)) ∈ zwd := qw_of 773 (by decide +kernel) (by decide +kernel)
theorem qw_716 : (Jvm.Cond.methodLink "PathCheckerLaw" (101 : Nat) ({ cls := "PathCheckerLaw", name := "witness", desc := "(LPathChecker;II[J)I" } : Jvm.MethodName)) ∈ zwd := qw_of 774 (by decide +kernel) (by decide +kernel)
theorem qw_717 : (Jvm.Cond.static ({ cls := "PathCheckerLaw", name := "witness", desc := "(LPathChecker;II[J)I" } : Jvm.MethodName)) ∈ zwd := qw_of 775 (by decide +kernel) (by decide +kernel)
theorem qw_719 : (Jvm.Cond.methodLink "PathCheckerLaw" (35 : Nat) ({ cls := "PathChecker", name := "witness", desc := "(II)I" } : Jvm.MethodName)) ∈ zwd := qw_of 777 (by decide +kernel) (by decide +kernel)
theorem qw_720 : (Jvm.Cond.instanceMethod ({ cls := "PathChecker", name := "witness", desc := "(II)I" } : Jvm.MethodName)) ∈ zwd := qw_of 778 (by decide +kernel) (by decide +kernel)
theorem qw_721 : (Jvm.Cond.selects "PathChecker" ({ cls := "PathChecker", name := "witness", desc := "(II)I" } : Jvm.MethodName) ({ cls := "PathChecker", name := "witness", desc := "(II)I" } : Jvm.MethodName)) ∈ zwd := qw_of 779 (by decide +kernel) (by decide +kernel)
theorem qw_722 : (Jvm.Cond.code ({ cls := "PathChecker", name := "witness", desc := "(II)I" } : Jvm.MethodName) prog_1_method_14_code (3 : Nat) (Option.some Jvm.ClassFile.FieldType.int)) ∈ zwd := qw_of 780 (by decide +kernel) (by decide +kernel)
theorem qw_723 : (Jvm.Cond.methodLink "PathChecker" (138 : Nat) ({ cls := "PathChecker$Search", name := "lookFrom", desc := "(I)V" } : Jvm.MethodName)) ∈ zwd := qw_of 781 (by decide +kernel) (by decide +kernel)
theorem qw_724 : (Jvm.Cond.instanceMethod ({ cls := "PathChecker$Search", name := "lookFrom", desc := "(I)V" } : Jvm.MethodName)) ∈ zwd := qw_of 782 (by decide +kernel) (by decide +kernel)
theorem qw_725 : (Jvm.Cond.selects "PathChecker$Search" ({ cls := "PathChecker$Search", name := "lookFrom", desc := "(I)V" } : Jvm.MethodName) ({ cls := "PathChecker$Search", name := "lookFrom", desc := "(I)V" } : Jvm.MethodName)) ∈ zwd := qw_of 783 (by decide +kernel) (by decide +kernel)
theorem qw_726 : (Jvm.Cond.code ({ cls := "PathChecker$Search", name := "lookFrom", desc := "(I)V" } : Jvm.MethodName) prog_8_method_3_code (3 : Nat) (Option.none : Option Jvm.ClassFile.FieldType)) ∈ zwd := qw_of 784 (by decide +kernel) (by decide +kernel)
theorem qw_727 : (Jvm.Cond.methodLink "PathChecker$Search" (49 : Nat) ({ cls := "PathChecker$Nearness", name := "within", desc := "(II)I" } : Jvm.MethodName)) ∈ zwd := qw_of 785 (by decide +kernel) (by decide +kernel)
theorem qw_728 : (Jvm.Cond.instanceMethod ({ cls := "PathChecker$Nearness", name := "within", desc := "(II)I" } : Jvm.MethodName)) ∈ zwd := qw_of 786 (by decide +kernel) (by decide +kernel)
theorem qw_729 : (Jvm.Cond.selects "PathChecker$Nearness" ({ cls := "PathChecker$Nearness", name := "within", desc := "(II)I" } : Jvm.MethodName) ({ cls := "PathChecker$Nearness", name := "within", desc := "(II)I" } : Jvm.MethodName)) ∈ zwd := qw_of 787 (by decide +kernel) (by decide +kernel)
theorem qw_730 : (Jvm.Cond.code ({ cls := "PathChecker$Nearness", name := "within", desc := "(II)I" } : Jvm.MethodName) prog_4_method_5_code (3 : Nat) (Option.some Jvm.ClassFile.FieldType.int)) ∈ zwd := qw_of 788 (by decide +kernel) (by decide +kernel)
theorem qw_731 : (Jvm.Cond.methodLink "PathChecker$Search" (58 : Nat) ({ cls := "PathChecker$Search", name := "extend", desc := "(I)V" } : Jvm.MethodName)) ∈ zwd := qw_of 789 (by decide +kernel) (by decide +kernel)
theorem qw_733 : (Jvm.Cond.instanceMethod ({ cls := "PathChecker$Search", name := "extend", desc := "(I)V" } : Jvm.MethodName)) ∈ zwd := qw_of 791 (by decide +kernel) (by decide +kernel)
theorem qw_734 : (Jvm.Cond.code ({ cls := "PathChecker$Search", name := "extend", desc := "(I)V" } : Jvm.MethodName) prog_8_method_4_code (6 : Nat) (Option.none : Option Jvm.ClassFile.FieldType)) ∈ zwd := qw_of 792 (by decide +kernel) (by decide +kernel)
theorem qw_735 : (Jvm.Cond.methodLink "PathChecker$Search" (61 : Nat) ({ cls := "PathChecker$Search", name := "closeLoop", desc := "(I)V" } : Jvm.MethodName)) ∈ zwd := qw_of 793 (by decide +kernel) (by decide +kernel)
theorem qw_737 : (Jvm.Cond.instanceMethod ({ cls := "PathChecker$Search", name := "closeLoop", desc := "(I)V" } : Jvm.MethodName)) ∈ zwd := qw_of 795 (by decide +kernel) (by decide +kernel)
theorem qw_738 : (Jvm.Cond.code ({ cls := "PathChecker$Search", name := "closeLoop", desc := "(I)V" } : Jvm.MethodName) prog_8_method_5_code (3 : Nat) (Option.none : Option Jvm.ClassFile.FieldType)) ∈ zwd := qw_of 796 (by decide +kernel) (by decide +kernel)
theorem qw_739 : (Jvm.Cond.methodLink "PathChecker$Search" (78 : Nat) ({ cls := "PathChecker$Search", name := "mayGoOnAt", desc := "(II)Z" } : Jvm.MethodName)) ∈ zwd := qw_of 797 (by decide +kernel) (by decide +kernel)
theorem qw_741 : (Jvm.Cond.instanceMethod ({ cls := "PathChecker$Search", name := "mayGoOnAt", desc := "(II)Z" } : Jvm.MethodName)) ∈ zwd := qw_of 799 (by decide +kernel) (by decide +kernel)
theorem qw_742 : (Jvm.Cond.code ({ cls := "PathChecker$Search", name := "mayGoOnAt", desc := "(II)Z" } : Jvm.MethodName) prog_8_method_6_code (5 : Nat) (Option.some Jvm.ClassFile.FieldType.boolean)) ∈ zwd := qw_of 800 (by decide +kernel) (by decide +kernel)
theorem qw_743 : (Jvm.Cond.methodLink "PathChecker$Search" (68 : Nat) ({ cls := "PathChecker$Structure", name := "joins", desc := "(II)Z" } : Jvm.MethodName)) ∈ zwd := qw_of 801 (by decide +kernel) (by decide +kernel)
theorem qw_744 : (Jvm.Cond.methodLink "PathChecker$Search" (74 : Nat) ({ cls := "PathChecker$Graph", name := "guessesAfter", desc := "(IIII)I" } : Jvm.MethodName)) ∈ zwd := qw_of 802 (by decide +kernel) (by decide +kernel)
theorem qw_745 : (Jvm.Cond.instanceMethod ({ cls := "PathChecker$Graph", name := "guessesAfter", desc := "(IIII)I" } : Jvm.MethodName)) ∈ zwd := qw_of 803 (by decide +kernel) (by decide +kernel)
theorem qw_746 : (Jvm.Cond.selects "PathChecker$Graph" ({ cls := "PathChecker$Graph", name := "guessesAfter", desc := "(IIII)I" } : Jvm.MethodName) ({ cls := "PathChecker$Graph", name := "guessesAfter", desc := "(IIII)I" } : Jvm.MethodName)) ∈ zwd := qw_of 804 (by decide +kernel) (by decide +kernel)
theorem qw_747 : (Jvm.Cond.code ({ cls := "PathChecker$Graph", name := "guessesAfter", desc := "(IIII)I" } : Jvm.MethodName) prog_2_method_11_code (8 : Nat) (Option.some Jvm.ClassFile.FieldType.int)) ∈ zwd := qw_of 805 (by decide +kernel) (by decide +kernel)
theorem qw_748 : (Jvm.Cond.methodLink "PathChecker$Search" (85 : Nat) ({ cls := "PathChecker$Path", name := "placesOf", desc := "(LPathChecker$NormalForm;LPathChecker$Structure;I)I" } : Jvm.MethodName)) ∈ zwd := qw_of 806 (by decide +kernel) (by decide +kernel)
theorem qw_749 : (Jvm.Cond.instanceMethod ({ cls := "PathChecker$Path", name := "placesOf", desc := "(LPathChecker$NormalForm;LPathChecker$Structure;I)I" } : Jvm.MethodName)) ∈ zwd := qw_of 807 (by decide +kernel) (by decide +kernel)
theorem qw_750 : (Jvm.Cond.selects "PathChecker$Path" ({ cls := "PathChecker$Path", name := "placesOf", desc := "(LPathChecker$NormalForm;LPathChecker$Structure;I)I" } : Jvm.MethodName) ({ cls := "PathChecker$Path", name := "placesOf", desc := "(LPathChecker$NormalForm;LPathChecker$Structure;I)I" } : Jvm.MethodName)) ∈ zwd := qw_of 808 (by decide +kernel) (by decide +kernel)
theorem qw_751 : (Jvm.Cond.code ({ cls := "PathChecker$Path", name := "placesOf", desc := "(LPathChecker$NormalForm;LPathChecker$Structure;I)I" } : Jvm.MethodName) prog_6_method_4_code (8 : Nat) (Option.some Jvm.ClassFile.FieldType.int)) ∈ zwd := qw_of 809 (by decide +kernel) (by decide +kernel)
theorem qw_752 : (Jvm.Cond.methodLink "PathChecker$Path" (40 : Nat) ({ cls := "PathChecker$Path", name := "placesBefore", desc := "(II)I" } : Jvm.MethodName)) ∈ zwd := qw_of 810 (by decide +kernel) (by decide +kernel)
theorem qw_754 : (Jvm.Cond.instanceMethod ({ cls := "PathChecker$Path", name := "placesBefore", desc := "(II)I" } : Jvm.MethodName)) ∈ zwd := qw_of 812 (by decide +kernel) (by decide +kernel)
theorem qw_755 : (Jvm.Cond.code ({ cls := "PathChecker$Path", name := "placesBefore", desc := "(II)I" } : Jvm.MethodName) prog_6_method_7_code (3 : Nat) (Option.some Jvm.ClassFile.FieldType.int)) ∈ zwd := qw_of 813 (by decide +kernel) (by decide +kernel)
theorem qw_756 : (Jvm.Cond.methodLink "PathChecker$Path" (44 : Nat) ({ cls := "PathChecker$Path", name := "placesOfUntil", desc := "(III)I" } : Jvm.MethodName)) ∈ zwd := qw_of 814 (by decide +kernel) (by decide +kernel)
theorem qw_758 : (Jvm.Cond.instanceMethod ({ cls := "PathChecker$Path", name := "placesOfUntil", desc := "(III)I" } : Jvm.MethodName)) ∈ zwd := qw_of 816 (by decide +kernel) (by decide +kernel)
theorem qw_759 : (Jvm.Cond.code ({ cls := "PathChecker$Path", name := "placesOfUntil", desc := "(III)I" } : Jvm.MethodName) prog_6_method_5_code (6 : Nat) (Option.some Jvm.ClassFile.FieldType.int)) ∈ zwd := qw_of 817 (by decide +kernel) (by decide +kernel)
theorem qw_760 : (Jvm.Cond.methodLink "PathChecker$Path" (48 : Nat) ({ cls := "PathChecker$Path", name := "placesOfRelease", desc := "(III)I" } : Jvm.MethodName)) ∈ zwd := qw_of 818 (by decide +kernel) (by decide +kernel)
theorem qw_762 : (Jvm.Cond.instanceMethod ({ cls := "PathChecker$Path", name := "placesOfRelease", desc := "(III)I" } : Jvm.MethodName)) ∈ zwd := qw_of 820 (by decide +kernel) (by decide +kernel)
theorem qw_763 : (Jvm.Cond.code ({ cls := "PathChecker$Path", name := "placesOfRelease", desc := "(III)I" } : Jvm.MethodName) prog_6_method_6_code (6 : Nat) (Option.some Jvm.ClassFile.FieldType.int)) ∈ zwd := qw_of 821 (by decide +kernel) (by decide +kernel)
theorem qw_764 : (Jvm.Cond.methodLink "PathChecker$Path" (51 : Nat) ({ cls := "PathChecker$Path", name := "placesOfLeaf", desc := "(CLPathChecker$Structure;)I" } : Jvm.MethodName)) ∈ zwd := qw_of 822 (by decide +kernel) (by decide +kernel)
theorem qw_766 : (Jvm.Cond.instanceMethod ({ cls := "PathChecker$Path", name := "placesOfLeaf", desc := "(CLPathChecker$Structure;)I" } : Jvm.MethodName)) ∈ zwd := qw_of 824 (by decide +kernel) (by decide +kernel)
theorem qw_767 : (Jvm.Cond.code ({ cls := "PathChecker$Path", name := "placesOfLeaf", desc := "(CLPathChecker$Structure;)I" } : Jvm.MethodName) prog_6_method_8_code (5 : Nat) (Option.some Jvm.ClassFile.FieldType.int)) ∈ zwd := qw_of 825 (by decide +kernel) (by decide +kernel)
theorem qw_768 : (Jvm.Cond.methodLink "PathChecker$Path" (58 : Nat) ({ cls := "PathChecker$NormalForm", name := "leafHolds", desc := "(CI)Z" } : Jvm.MethodName)) ∈ zwd := qw_of 826 (by decide +kernel) (by decide +kernel)
theorem qw_769 : (Jvm.Cond.methodLink "PathChecker" (150 : Nat) ({ cls := "PathChecker$Path", name := "hasPlace", desc := "(I)Z" } : Jvm.MethodName)) ∈ zwd := qw_of 827 (by decide +kernel) (by decide +kernel)
theorem qw_770 : (Jvm.Cond.instanceMethod ({ cls := "PathChecker$Path", name := "hasPlace", desc := "(I)Z" } : Jvm.MethodName)) ∈ zwd := qw_of 828 (by decide +kernel) (by decide +kernel)
theorem qw_771 : (Jvm.Cond.selects "PathChecker$Path" ({ cls := "PathChecker$Path", name := "hasPlace", desc := "(I)Z" } : Jvm.MethodName) ({ cls := "PathChecker$Path", name := "hasPlace", desc := "(I)Z" } : Jvm.MethodName)) ∈ zwd := qw_of 829 (by decide +kernel) (by decide +kernel)
theorem qw_772 : (Jvm.Cond.code ({ cls := "PathChecker$Path", name := "hasPlace", desc := "(I)Z" } : Jvm.MethodName) prog_6_method_2_code (2 : Nat) (Option.some Jvm.ClassFile.FieldType.boolean)) ∈ zwd := qw_of 830 (by decide +kernel) (by decide +kernel)
theorem qw_773 : (Jvm.Cond.methodLink "PathCheckerLaw" (113 : Nat) ({ cls := "PathCheckerLaw", name := "judge", desc := "(LPathChecker;II[J)I" } : Jvm.MethodName)) ∈ zwd := qw_of 831 (by decide +kernel) (by decide +kernel)
theorem qw_774 : (Jvm.Cond.static ({ cls := "PathCheckerLaw", name := "judge", desc := "(LPathChecker;II[J)I" } : Jvm.MethodName)) ∈ zwd := qw_of 832 (by decide +kernel) (by decide +kernel)
theorem qw_776 : (Jvm.Cond.methodLink "PathCheckerLaw" (39 : Nat) ({ cls := "PathChecker", name := "judge", desc := "(II)Z" } : Jvm.MethodName)) ∈ zwd := qw_of 834 (by decide +kernel) (by decide +kernel)
theorem qw_777 : (Jvm.Cond.instanceMethod ({ cls := "PathChecker", name := "judge", desc := "(II)Z" } : Jvm.MethodName)) ∈ zwd := qw_of 835 (by decide +kernel) (by decide +kernel)
theorem qw_778 : (Jvm.Cond.selects "PathChecker" ({ cls := "PathChecker", name := "judge", desc := "(II)Z" } : Jvm.MethodName) ({ cls := "PathChecker", name := "judge", desc := "(II)Z" } : Jvm.MethodName)) ∈ zwd := qw_of 836 (by decide +kernel) (by decide +kernel)
theorem qw_779 : (Jvm.Cond.code ({ cls := "PathChecker", name := "judge", desc := "(II)Z" } : Jvm.MethodName) prog_1_method_17_code (3 : Nat) (Option.some Jvm.ClassFile.FieldType.boolean)) ∈ zwd := qw_of 837 (by decide +kernel) (by decide +kernel)
theorem qw_780 : (Jvm.Cond.methodLink "PathChecker" (156 : Nat) ({ cls := "PathChecker$Path", name := "isLinked", desc := "(LPathChecker$Structure;I)Z" } : Jvm.MethodName)) ∈ zwd := qw_of 838 (by decide +kernel) (by decide +kernel)
theorem qw_781 : (Jvm.Cond.instanceMethod ({ cls := "PathChecker$Path", name := "isLinked", desc := "(LPathChecker$Structure;I)Z" } : Jvm.MethodName)) ∈ zwd := qw_of 839 (by decide +kernel) (by decide +kernel)
theorem qw_782 : (Jvm.Cond.selects "PathChecker$Path" ({ cls := "PathChecker$Path", name := "isLinked", desc := "(LPathChecker$Structure;I)Z" } : Jvm.MethodName) ({ cls := "PathChecker$Path", name := "isLinked", desc := "(LPathChecker$Structure;I)Z" } : Jvm.MethodName)) ∈ zwd := qw_of 840 (by decide +kernel) (by decide +kernel)
theorem qw_783 : (Jvm.Cond.code ({ cls := "PathChecker$Path", name := "isLinked", desc := "(LPathChecker$Structure;I)Z" } : Jvm.MethodName) prog_6_method_3_code (5 : Nat) (Option.some Jvm.ClassFile.FieldType.boolean)) ∈ zwd := qw_of 841 (by decide +kernel) (by decide +kernel)
theorem qw_784 : (Jvm.Cond.methodLink "PathChecker$Path" (22 : Nat) ({ cls := "PathChecker$Structure", name := "joins", desc := "(II)Z" } : Jvm.MethodName)) ∈ zwd := qw_of 842 (by decide +kernel) (by decide +kernel)
theorem qw_785 : (Jvm.Cond.methodLink "PathChecker" (160 : Nat) ({ cls := "PathChecker$Path", name := "placesOf", desc := "(LPathChecker$NormalForm;LPathChecker$Structure;I)I" } : Jvm.MethodName)) ∈ zwd := qw_of 843 (by decide +kernel) (by decide +kernel)
theorem qw_790 : (Jvm.Cond.code ({ cls := "PathCheckerModel", name := "<init>", desc := "()V" } : Jvm.MethodName) prog_11_method_1_code (1 : Nat) (Option.none : Option Jvm.ClassFile.FieldType)) ∈ zwd := qw_of 848 (by decide +kernel) (by decide +kernel)
theorem qw_792 : (Jvm.Cond.fieldLink "PathCheckerModel" (93 : Nat) "PathCheckerModel" "thrown" "I") ∈ zwd := qw_of 850 (by decide +kernel) (by decide +kernel)
theorem qw_793 : (Jvm.Cond.fieldLink "PathCheckerModel" (97 : Nat) "PathCheckerModel" "length" "I") ∈ zwd := qw_of 851 (by decide +kernel) (by decide +kernel)
theorem qw_794 : (Jvm.Cond.fieldLink "PathCheckerModel" (7 : Nat) "PathCheckerModel" "text" "[I") ∈ zwd := qw_of 852 (by decide +kernel) (by decide +kernel)
theorem qw_795 : (Jvm.Cond.fieldLink "PathCheckerModel" (151 : Nat) "PathCheckerModel" "loaded" "Z") ∈ zwd := qw_of 853 (by decide +kernel) (by decide +kernel)
theorem qw_796 : (Jvm.Cond.fieldLink "PathCheckerModel" (145 : Nat) "PathCheckerModel" "nodes" "I") ∈ zwd := qw_of 854 (by decide +kernel) (by decide +kernel)
theorem qw_797 : (Jvm.Cond.fieldLink "PathCheckerModel" (13 : Nat) "PathCheckerModel" "kind" "[I") ∈ zwd := qw_of 855 (by decide +kernel) (by decide +kernel)
theorem qw_798 : (Jvm.Cond.fieldLink "PathCheckerModel" (16 : Nat) "PathCheckerModel" "left" "[I") ∈ zwd := qw_of 856 (by decide +kernel) (by decide +kernel)
theorem qw_799 : (Jvm.Cond.fieldLink "PathCheckerModel" (19 : Nat) "PathCheckerModel" "right" "[I") ∈ zwd := qw_of 857 (by decide +kernel) (by decide +kernel)
theorem qw_800 : (Jvm.Cond.fieldLink "PathCheckerModel" (22 : Nat) "PathCheckerModel" "bitOf" "[I") ∈ zwd := qw_of 858 (by decide +kernel) (by decide +kernel)
theorem qw_801 : (Jvm.Cond.fieldLink "PathCheckerModel" (148 : Nat) "PathCheckerModel" "timed" "I") ∈ zwd := qw_of 859 (by decide +kernel) (by decide +kernel)
theorem qw_802 : (Jvm.Cond.fieldLink "PathCheckerModel" (104 : Nat) "PathCheckerModel" "made" "I") ∈ zwd := qw_of 860 (by decide +kernel) (by decide +kernel)
theorem qw_803 : (Jvm.Cond.fieldLink "PathCheckerModel" (25 : Nat) "PathCheckerModel" "newKind" "[I") ∈ zwd := qw_of 861 (by decide +kernel) (by decide +kernel)
theorem qw_804 : (Jvm.Cond.fieldLink "PathCheckerModel" (28 : Nat) "PathCheckerModel" "newLeft" "[I") ∈ zwd := qw_of 862 (by decide +kernel) (by decide +kernel)
theorem qw_805 : (Jvm.Cond.fieldLink "PathCheckerModel" (31 : Nat) "PathCheckerModel" "newRight" "[I") ∈ zwd := qw_of 863 (by decide +kernel) (by decide +kernel)
theorem qw_806 : (Jvm.Cond.fieldLink "PathCheckerModel" (107 : Nat) "PathCheckerModel" "operands" "I") ∈ zwd := qw_of 864 (by decide +kernel) (by decide +kernel)
theorem qw_807 : (Jvm.Cond.fieldLink "PathCheckerModel" (34 : Nat) "PathCheckerModel" "operand" "[I") ∈ zwd := qw_of 865 (by decide +kernel) (by decide +kernel)
theorem qw_808 : (Jvm.Cond.fieldLink "PathCheckerModel" (110 : Nat) "PathCheckerModel" "waiting" "I") ∈ zwd := qw_of 866 (by decide +kernel) (by decide +kernel)
theorem qw_809 : (Jvm.Cond.fieldLink "PathCheckerModel" (37 : Nat) "PathCheckerModel" "operator" "[I") ∈ zwd := qw_of 867 (by decide +kernel) (by decide +kernel)
theorem qw_810 : (Jvm.Cond.fieldLink "PathCheckerModel" (124 : Nat) "PathCheckerModel" "deepest" "I") ∈ zwd := qw_of 868 (by decide +kernel) (by decide +kernel)
theorem qw_811 : (Jvm.Cond.fieldLink "PathCheckerModel" (161 : Nat) "PathCheckerModel" "normals" "I") ∈ zwd := qw_of 869 (by decide +kernel) (by decide +kernel)
theorem qw_812 : (Jvm.Cond.fieldLink "PathCheckerModel" (40 : Nat) "PathCheckerModel" "normalForm" "[I") ∈ zwd := qw_of 870 (by decide +kernel) (by decide +kernel)
theorem qw_813 : (Jvm.Cond.fieldLink "PathCheckerModel" (43 : Nat) "PathCheckerModel" "marks" "[I") ∈ zwd := qw_of 871 (by decide +kernel) (by decide +kernel)
theorem qw_814 : (Jvm.Cond.fieldLink "PathCheckerModel" (46 : Nat) "PathCheckerModel" "links" "[Z") ∈ zwd := qw_of 872 (by decide +kernel) (by decide +kernel)
theorem qw_815 : (Jvm.Cond.fieldLink "PathCheckerModel" (226 : Nat) "PathCheckerModel" "rows" "I") ∈ zwd := qw_of 873 (by decide +kernel) (by decide +kernel)
theorem qw_816 : (Jvm.Cond.fieldLink "PathCheckerModel" (50 : Nat) "PathCheckerModel" "row" "[I") ∈ zwd := qw_of 874 (by decide +kernel) (by decide +kernel)
theorem qw_817 : (Jvm.Cond.fieldLink "PathCheckerModel" (171 : Nat) "PathCheckerModel" "known" "Z") ∈ zwd := qw_of 875 (by decide +kernel) (by decide +kernel)
theorem qw_818 : (Jvm.Cond.fieldLink "PathCheckerModel" (53 : Nat) "PathCheckerModel" "before" "[I") ∈ zwd := qw_of 876 (by decide +kernel) (by decide +kernel)
theorem qw_819 : (Jvm.Cond.fieldLink "PathCheckerModel" (56 : Nat) "PathCheckerModel" "top" "[Z") ∈ zwd := qw_of 877 (by decide +kernel) (by decide +kernel)
theorem qw_820 : (Jvm.Cond.fieldLink "PathCheckerModel" (59 : Nat) "PathCheckerModel" "value" "[Z") ∈ zwd := qw_of 878 (by decide +kernel) (by decide +kernel)
theorem qw_821 : (Jvm.Cond.fieldLink "PathCheckerModel" (62 : Nat) "PathCheckerModel" "fair" "[J") ∈ zwd := qw_of 879 (by decide +kernel) (by decide +kernel)
theorem qw_822 : (Jvm.Cond.fieldLink "PathCheckerModel" (66 : Nat) "PathCheckerModel" "good" "[J") ∈ zwd := qw_of 880 (by decide +kernel) (by decide +kernel)
theorem qw_823 : (Jvm.Cond.fieldLink "PathCheckerModel" (69 : Nat) "PathCheckerModel" "reach" "[J") ∈ zwd := qw_of 881 (by decide +kernel) (by decide +kernel)
theorem qw_824 : (Jvm.Cond.fieldLink "PathCheckerModel" (72 : Nat) "PathCheckerModel" "back" "[J") ∈ zwd := qw_of 882 (by decide +kernel) (by decide +kernel)
theorem qw_825 : (Jvm.Cond.fieldLink "PathCheckerModel" (75 : Nat) "PathCheckerModel" "goal" "[J") ∈ zwd := qw_of 883 (by decide +kernel) (by decide +kernel)
theorem qw_826 : (Jvm.Cond.fieldLink "PathCheckerModel" (208 : Nat) "PathCheckerModel" "size" "I") ∈ zwd := qw_of 884 (by decide +kernel) (by decide +kernel)
theorem qw_827 : (Jvm.Cond.fieldLink "PathCheckerModel" (211 : Nat) "PathCheckerModel" "turn" "I") ∈ zwd := qw_of 885 (by decide +kernel) (by decide +kernel)
theorem qw_828 : (Jvm.Cond.fieldLink "PathCheckerModel" (78 : Nat) "PathCheckerModel" "lasso" "[I") ∈ zwd := qw_of 886 (by decide +kernel) (by decide +kernel)
theorem qw_829 : (Jvm.Cond.fieldLink "PathCheckerModel" (81 : Nat) "PathCheckerModel" "at" "[Z") ∈ zwd := qw_of 887 (by decide +kernel) (by decide +kernel)
theorem qw_830 : (Jvm.Cond.fieldLink "PathCheckerModel" (84 : Nat) "PathCheckerModel" "foundSize" "[I") ∈ zwd := qw_of 888 (by decide +kernel) (by decide +kernel)
theorem qw_831 : (Jvm.Cond.fieldLink "PathCheckerModel" (87 : Nat) "PathCheckerModel" "foundTurn" "[I") ∈ zwd := qw_of 889 (by decide +kernel) (by decide +kernel)
theorem qw_832 : (Jvm.Cond.fieldLink "PathCheckerModel" (90 : Nat) "PathCheckerModel" "found" "[I") ∈ zwd := qw_of 890 (by decide +kernel) (by decide +kernel)
theorem qw_833 : (Jvm.Cond.lays "PathCheckerModel" "PathCheckerModel" "thrown" "I") ∈ zwd := qw_of 891 (by decide +kernel) (by decide +kernel)
theorem qw_835 : (Jvm.Cond.lays "PathCheckerModel" "PathCheckerModel" "length" "I") ∈ zwd := qw_of 893 (by decide +kernel) (by decide +kernel)
theorem qw_837 : (Jvm.Cond.lays "PathCheckerModel" "PathCheckerModel" "text" "[I") ∈ zwd := qw_of 895 (by decide +kernel) (by decide +kernel)
theorem qw_839 : (Jvm.Cond.lays "PathCheckerModel" "PathCheckerModel" "loaded" "Z") ∈ zwd := qw_of 897 (by decide +kernel) (by decide +kernel)
theorem qw_841 : (Jvm.Cond.lays "PathCheckerModel" "PathCheckerModel" "nodes" "I") ∈ zwd := qw_of 899 (by decide +kernel) (by decide +kernel)
theorem qw_843 : (Jvm.Cond.lays "PathCheckerModel" "PathCheckerModel" "kind" "[I") ∈ zwd := qw_of 901 (by decide +kernel) (by decide +kernel)
theorem qw_845 : (Jvm.Cond.lays "PathCheckerModel" "PathCheckerModel" "left" "[I") ∈ zwd := qw_of 903 (by decide +kernel) (by decide +kernel)
theorem qw_847 : (Jvm.Cond.lays "PathCheckerModel" "PathCheckerModel" "right" "[I") ∈ zwd := qw_of 905 (by decide +kernel) (by decide +kernel)
theorem qw_849 : (Jvm.Cond.lays "PathCheckerModel" "PathCheckerModel" "bitOf" "[I") ∈ zwd := qw_of 907 (by decide +kernel) (by decide +kernel)
theorem qw_851 : (Jvm.Cond.lays "PathCheckerModel" "PathCheckerModel" "timed" "I") ∈ zwd := qw_of 909 (by decide +kernel) (by decide +kernel)
theorem qw_853 : (Jvm.Cond.lays "PathCheckerModel" "PathCheckerModel" "made" "I") ∈ zwd := qw_of 911 (by decide +kernel) (by decide +kernel)
theorem qw_855 : (Jvm.Cond.lays "PathCheckerModel" "PathCheckerModel" "newKind" "[I") ∈ zwd := qw_of 913 (by decide +kernel) (by decide +kernel)
theorem qw_857 : (Jvm.Cond.lays "PathCheckerModel" "PathCheckerModel" "newLeft" "[I") ∈ zwd := qw_of 915 (by decide +kernel) (by decide +kernel)
theorem qw_859 : (Jvm.Cond.lays "PathCheckerModel" "PathCheckerModel" "newRight" "[I") ∈ zwd := qw_of 917 (by decide +kernel) (by decide +kernel)
theorem qw_861 : (Jvm.Cond.lays "PathCheckerModel" "PathCheckerModel" "operands" "I") ∈ zwd := qw_of 919 (by decide +kernel) (by decide +kernel)
theorem qw_863 : (Jvm.Cond.lays "PathCheckerModel" "PathCheckerModel" "operand" "[I") ∈ zwd := qw_of 921 (by decide +kernel) (by decide +kernel)
theorem qw_865 : (Jvm.Cond.lays "PathCheckerModel" "PathCheckerModel" "waiting" "I") ∈ zwd := qw_of 923 (by decide +kernel) (by decide +kernel)
theorem qw_867 : (Jvm.Cond.lays "PathCheckerModel" "PathCheckerModel" "operator" "[I") ∈ zwd := qw_of 925 (by decide +kernel) (by decide +kernel)
theorem qw_869 : (Jvm.Cond.lays "PathCheckerModel" "PathCheckerModel" "deepest" "I") ∈ zwd := qw_of 927 (by decide +kernel) (by decide +kernel)
theorem qw_871 : (Jvm.Cond.lays "PathCheckerModel" "PathCheckerModel" "normals" "I") ∈ zwd := qw_of 929 (by decide +kernel) (by decide +kernel)
theorem qw_873 : (Jvm.Cond.lays "PathCheckerModel" "PathCheckerModel" "normalForm" "[I") ∈ zwd := qw_of 931 (by decide +kernel) (by decide +kernel)
theorem qw_875 : (Jvm.Cond.lays "PathCheckerModel" "PathCheckerModel" "marks" "[I") ∈ zwd := qw_of 933 (by decide +kernel) (by decide +kernel)
theorem qw_877 : (Jvm.Cond.lays "PathCheckerModel" "PathCheckerModel" "links" "[Z") ∈ zwd := qw_of 935 (by decide +kernel) (by decide +kernel)
theorem qw_879 : (Jvm.Cond.lays "PathCheckerModel" "PathCheckerModel" "rows" "I") ∈ zwd := qw_of 937 (by decide +kernel) (by decide +kernel)
theorem qw_881 : (Jvm.Cond.lays "PathCheckerModel" "PathCheckerModel" "row" "[I") ∈ zwd := qw_of 939 (by decide +kernel) (by decide +kernel)
theorem qw_883 : (Jvm.Cond.lays "PathCheckerModel" "PathCheckerModel" "known" "Z") ∈ zwd := qw_of 941 (by decide +kernel) (by decide +kernel)
theorem qw_885 : (Jvm.Cond.lays "PathCheckerModel" "PathCheckerModel" "before" "[I") ∈ zwd := qw_of 943 (by decide +kernel) (by decide +kernel)
theorem qw_887 : (Jvm.Cond.lays "PathCheckerModel" "PathCheckerModel" "top" "[Z") ∈ zwd := qw_of 945 (by decide +kernel) (by decide +kernel)
theorem qw_889 : (Jvm.Cond.lays "PathCheckerModel" "PathCheckerModel" "value" "[Z") ∈ zwd := qw_of 947 (by decide +kernel) (by decide +kernel)
theorem qw_891 : (Jvm.Cond.lays "PathCheckerModel" "PathCheckerModel" "fair" "[J") ∈ zwd := qw_of 949 (by decide +kernel) (by decide +kernel)
theorem qw_893 : (Jvm.Cond.lays "PathCheckerModel" "PathCheckerModel" "good" "[J") ∈ zwd := qw_of 951 (by decide +kernel) (by decide +kernel)
theorem qw_895 : (Jvm.Cond.lays "PathCheckerModel" "PathCheckerModel" "reach" "[J") ∈ zwd := qw_of 953 (by decide +kernel) (by decide +kernel)
theorem qw_897 : (Jvm.Cond.lays "PathCheckerModel" "PathCheckerModel" "back" "[J") ∈ zwd := qw_of 955 (by decide +kernel) (by decide +kernel)
theorem qw_899 : (Jvm.Cond.lays "PathCheckerModel" "PathCheckerModel" "goal" "[J") ∈ zwd := qw_of 957 (by decide +kernel) (by decide +kernel)
theorem qw_901 : (Jvm.Cond.lays "PathCheckerModel" "PathCheckerModel" "size" "I") ∈ zwd := qw_of 959 (by decide +kernel) (by decide +kernel)
theorem qw_903 : (Jvm.Cond.lays "PathCheckerModel" "PathCheckerModel" "turn" "I") ∈ zwd := qw_of 961 (by decide +kernel) (by decide +kernel)
theorem qw_905 : (Jvm.Cond.lays "PathCheckerModel" "PathCheckerModel" "lasso" "[I") ∈ zwd := qw_of 963 (by decide +kernel) (by decide +kernel)
theorem qw_907 : (Jvm.Cond.lays "PathCheckerModel" "PathCheckerModel" "at" "[Z") ∈ zwd := qw_of 965 (by decide +kernel) (by decide +kernel)
theorem qw_909 : (Jvm.Cond.lays "PathCheckerModel" "PathCheckerModel" "foundSize" "[I") ∈ zwd := qw_of 967 (by decide +kernel) (by decide +kernel)
theorem qw_911 : (Jvm.Cond.lays "PathCheckerModel" "PathCheckerModel" "foundTurn" "[I") ∈ zwd := qw_of 969 (by decide +kernel) (by decide +kernel)
theorem qw_913 : (Jvm.Cond.lays "PathCheckerModel" "PathCheckerModel" "found" "[I") ∈ zwd := qw_of 971 (by decide +kernel) (by decide +kernel)
theorem qw_917 : (Jvm.Cond.methodLink "PathCheckerLaw" (68 : Nat) ({ cls := "PathCheckerModel", name := "thrown", desc := "()I" } : Jvm.MethodName)) ∈ zwd := qw_of 975 (by decide +kernel) (by decide +kernel)
theorem qw_918 : (Jvm.Cond.instanceMethod ({ cls := "PathCheckerModel", name := "thrown", desc := "()I" } : Jvm.MethodName)) ∈ zwd := qw_of 976 (by decide +kernel) (by decide +kernel)
theorem qw_919 : (Jvm.Cond.selects "PathCheckerModel" ({ cls := "PathCheckerModel", name := "thrown", desc := "()I" } : Jvm.MethodName) ({ cls := "PathCheckerModel", name := "thrown", desc := "()I" } : Jvm.MethodName)) ∈ zwd := qw_of 977 (by decide +kernel) (by decide +kernel)
theorem qw_920 : (Jvm.Cond.code ({ cls := "PathCheckerModel", name := "thrown", desc := "()I" } : Jvm.MethodName) prog_11_method_2_code (1 : Nat) (Option.some Jvm.ClassFile.FieldType.int)) ∈ zwd := qw_of 978 (by decide +kernel) (by decide +kernel)
theorem qw_921 : (Jvm.Cond.methodLink "PathCheckerLaw" (53 : Nat) ({ cls := "PathCheckerModel", name := "type", desc := "(J)Z" } : Jvm.MethodName)) ∈ zwd := qw_of 979 (by decide +kernel) (by decide +kernel)
theorem qw_922 : (Jvm.Cond.instanceMethod ({ cls := "PathCheckerModel", name := "type", desc := "(J)Z" } : Jvm.MethodName)) ∈ zwd := qw_of 980 (by decide +kernel) (by decide +kernel)
theorem qw_923 : (Jvm.Cond.selects "PathCheckerModel" ({ cls := "PathCheckerModel", name := "type", desc := "(J)Z" } : Jvm.MethodName) ({ cls := "PathCheckerModel", name := "type", desc := "(J)Z" } : Jvm.MethodName)) ∈ zwd := qw_of 981 (by decide +kernel) (by decide +kernel)
theorem qw_924 : (Jvm.Cond.code ({ cls := "PathCheckerModel", name := "type", desc := "(J)Z" } : Jvm.MethodName) prog_11_method_3_code (6 : Nat) (Option.some Jvm.ClassFile.FieldType.boolean)) ∈ zwd := qw_of 982 (by decide +kernel) (by decide +kernel)
theorem qw_925 : (Jvm.Cond.methodLink "PathCheckerLaw" (57 : Nat) ({ cls := "PathCheckerModel", name := "wipe", desc := "()V" } : Jvm.MethodName)) ∈ zwd := qw_of 983 (by decide +kernel) (by decide +kernel)
theorem qw_926 : (Jvm.Cond.instanceMethod ({ cls := "PathCheckerModel", name := "wipe", desc := "()V" } : Jvm.MethodName)) ∈ zwd := qw_of 984 (by decide +kernel) (by decide +kernel)
theorem qw_927 : (Jvm.Cond.selects "PathCheckerModel" ({ cls := "PathCheckerModel", name := "wipe", desc := "()V" } : Jvm.MethodName) ({ cls := "PathCheckerModel", name := "wipe", desc := "()V" } : Jvm.MethodName)) ∈ zwd := qw_of 985 (by decide +kernel) (by decide +kernel)
theorem qw_928 : (Jvm.Cond.code ({ cls := "PathCheckerModel", name := "wipe", desc := "()V" } : Jvm.MethodName) prog_11_method_4_code (1 : Nat) (Option.none : Option Jvm.ClassFile.FieldType)) ∈ zwd := qw_of 986 (by decide +kernel) (by decide +kernel)
theorem qw_929 : (Jvm.Cond.methodLink "PathCheckerLaw" (61 : Nat) ({ cls := "PathCheckerModel", name := "length", desc := "()I" } : Jvm.MethodName)) ∈ zwd := qw_of 987 (by decide +kernel) (by decide +kernel)
theorem qw_930 : (Jvm.Cond.instanceMethod ({ cls := "PathCheckerModel", name := "length", desc := "()I" } : Jvm.MethodName)) ∈ zwd := qw_of 988 (by decide +kernel) (by decide +kernel)
theorem qw_931 : (Jvm.Cond.selects "PathCheckerModel" ({ cls := "PathCheckerModel", name := "length", desc := "()I" } : Jvm.MethodName) ({ cls := "PathCheckerModel", name := "length", desc := "()I" } : Jvm.MethodName)) ∈ zwd := qw_of 989 (by decide +kernel) (by decide +kernel)
theorem qw_932 : (Jvm.Cond.code ({ cls := "PathCheckerModel", name := "length", desc := "()I" } : Jvm.MethodName) prog_11_method_5_code (1 : Nat) (Option.some Jvm.ClassFile.FieldType.int)) ∈ zwd := qw_of 990 (by decide +kernel) (by decide +kernel)
theorem qw_933 : (Jvm.Cond.methodLink "PathCheckerLaw" (67 : Nat) ({ cls := "PathCheckerModel", name := "formula", desc := "()I" } : Jvm.MethodName)) ∈ zwd := qw_of 991 (by decide +kernel) (by decide +kernel)
theorem qw_934 : (Jvm.Cond.instanceMethod ({ cls := "PathCheckerModel", name := "formula", desc := "()I" } : Jvm.MethodName)) ∈ zwd := qw_of 992 (by decide +kernel) (by decide +kernel)
theorem qw_935 : (Jvm.Cond.selects "PathCheckerModel" ({ cls := "PathCheckerModel", name := "formula", desc := "()I" } : Jvm.MethodName) ({ cls := "PathCheckerModel", name := "formula", desc := "()I" } : Jvm.MethodName)) ∈ zwd := qw_of 993 (by decide +kernel) (by decide +kernel)
theorem qw_936 : (Jvm.Cond.code ({ cls := "PathCheckerModel", name := "formula", desc := "()I" } : Jvm.MethodName) prog_11_method_15_code (2 : Nat) (Option.some Jvm.ClassFile.FieldType.int)) ∈ zwd := qw_of 994 (by decide +kernel) (by decide +kernel)
theorem qw_937 : (Jvm.Cond.methodLink "PathCheckerModel" (137 : Nat) ({ cls := "PathCheckerModel", name := "reads", desc := "()Z" } : Jvm.MethodName)) ∈ zwd := qw_of 995 (by decide +kernel) (by decide +kernel)
theorem qw_939 : (Jvm.Cond.instanceMethod ({ cls := "PathCheckerModel", name := "reads", desc := "()Z" } : Jvm.MethodName)) ∈ zwd := qw_of 997 (by decide +kernel) (by decide +kernel)
theorem qw_940 : (Jvm.Cond.code ({ cls := "PathCheckerModel", name := "reads", desc := "()Z" } : Jvm.MethodName) prog_11_method_13_code (6 : Nat) (Option.some Jvm.ClassFile.FieldType.boolean)) ∈ zwd := qw_of 998 (by decide +kernel) (by decide +kernel)
theorem qw_941 : (Jvm.Cond.methodLink "PathCheckerModel" (127 : Nat) ({ cls := "PathCheckerModel", name := "isAtom", desc := "(I)Z" } : Jvm.MethodName)) ∈ zwd := qw_of 999 (by decide +kernel) (by decide +kernel)
theorem qw_942 : (Jvm.Cond.static ({ cls := "PathCheckerModel", name := "isAtom", desc := "(I)Z" } : Jvm.MethodName)) ∈ zwd := qw_of 1000 (by decide +kernel) (by decide +kernel)
theorem qw_943 : (Jvm.Cond.code ({ cls := "PathCheckerModel", name := "isAtom", desc := "(I)Z" } : Jvm.MethodName) prog_11_method_6_code (1 : Nat) (Option.some Jvm.ClassFile.FieldType.boolean)) ∈ zwd := qw_of 1001 (by decide +kernel) (by decide +kernel)
theorem qw_944 : (Jvm.Cond.methodLink "PathCheckerModel" (113 : Nat) ({ cls := "PathCheckerModel", name := "node", desc := "(III)V" } : Jvm.MethodName)) ∈ zwd := qw_of 1002 (by decide +kernel) (by decide +kernel)
theorem qw_946 : (Jvm.Cond.instanceMethod ({ cls := "PathCheckerModel", name := "node", desc := "(III)V" } : Jvm.MethodName)) ∈ zwd := qw_of 1004 (by decide +kernel) (by decide +kernel)
theorem qw_947 : (Jvm.Cond.code ({ cls := "PathCheckerModel", name := "node", desc := "(III)V" } : Jvm.MethodName) prog_11_method_10_code (4 : Nat) (Option.none : Option Jvm.ClassFile.FieldType)) ∈ zwd := qw_of 1005 (by decide +kernel) (by decide +kernel)
theorem qw_948 : (Jvm.Cond.methodLink "PathCheckerModel" (100 : Nat) ({ cls := "PathCheckerModel", name := "isPrefix", desc := "(I)Z" } : Jvm.MethodName)) ∈ zwd := qw_of 1006 (by decide +kernel) (by decide +kernel)
theorem qw_949 : (Jvm.Cond.static ({ cls := "PathCheckerModel", name := "isPrefix", desc := "(I)Z" } : Jvm.MethodName)) ∈ zwd := qw_of 1007 (by decide +kernel) (by decide +kernel)
theorem qw_950 : (Jvm.Cond.code ({ cls := "PathCheckerModel", name := "isPrefix", desc := "(I)Z" } : Jvm.MethodName) prog_11_method_7_code (1 : Nat) (Option.some Jvm.ClassFile.FieldType.boolean)) ∈ zwd := qw_of 1008 (by decide +kernel) (by decide +kernel)
theorem qw_951 : (Jvm.Cond.methodLink "PathCheckerModel" (130 : Nat) ({ cls := "PathCheckerModel", name := "reduceFrom", desc := "(I)V" } : Jvm.MethodName)) ∈ zwd := qw_of 1009 (by decide +kernel) (by decide +kernel)
theorem qw_953 : (Jvm.Cond.instanceMethod ({ cls := "PathCheckerModel", name := "reduceFrom", desc := "(I)V" } : Jvm.MethodName)) ∈ zwd := qw_of 1011 (by decide +kernel) (by decide +kernel)
theorem qw_954 : (Jvm.Cond.code ({ cls := "PathCheckerModel", name := "reduceFrom", desc := "(I)V" } : Jvm.MethodName) prog_11_method_12_code (2 : Nat) (Option.none : Option Jvm.ClassFile.FieldType)) ∈ zwd := qw_of 1012 (by decide +kernel) (by decide +kernel)
theorem qw_955 : (Jvm.Cond.methodLink "PathCheckerModel" (117 : Nat) ({ cls := "PathCheckerModel", name := "strength", desc := "(I)I" } : Jvm.MethodName)) ∈ zwd := qw_of 1013 (by decide +kernel) (by decide +kernel)
theorem qw_956 : (Jvm.Cond.static ({ cls := "PathCheckerModel", name := "strength", desc := "(I)I" } : Jvm.MethodName)) ∈ zwd := qw_of 1014 (by decide +kernel) (by decide +kernel)
theorem qw_957 : (Jvm.Cond.code ({ cls := "PathCheckerModel", name := "strength", desc := "(I)I" } : Jvm.MethodName) prog_11_method_9_code (1 : Nat) (Option.some Jvm.ClassFile.FieldType.int)) ∈ zwd := qw_of 1015 (by decide +kernel) (by decide +kernel)
theorem qw_958 : (Jvm.Cond.methodLink "PathCheckerModel" (121 : Nat) ({ cls := "PathCheckerModel", name := "reduce", desc := "()V" } : Jvm.MethodName)) ∈ zwd := qw_of 1016 (by decide +kernel) (by decide +kernel)
theorem qw_960 : (Jvm.Cond.instanceMethod ({ cls := "PathCheckerModel", name := "reduce", desc := "()V" } : Jvm.MethodName)) ∈ zwd := qw_of 1018 (by decide +kernel) (by decide +kernel)
theorem qw_961 : (Jvm.Cond.code ({ cls := "PathCheckerModel", name := "reduce", desc := "()V" } : Jvm.MethodName) prog_11_method_11_code (2 : Nat) (Option.none : Option Jvm.ClassFile.FieldType)) ∈ zwd := qw_of 1019 (by decide +kernel) (by decide +kernel)
theorem qw_962 : (Jvm.Cond.methodLink "PathCheckerModel" (141 : Nat) ({ cls := "PathCheckerModel", name := "countTimed", desc := "()I" } : Jvm.MethodName)) ∈ zwd := qw_of 1020 (by decide +kernel) (by decide +kernel)
theorem qw_964 : (Jvm.Cond.instanceMethod ({ cls := "PathCheckerModel", name := "countTimed", desc := "()I" } : Jvm.MethodName)) ∈ zwd := qw_of 1022 (by decide +kernel) (by decide +kernel)
theorem qw_965 : (Jvm.Cond.code ({ cls := "PathCheckerModel", name := "countTimed", desc := "()I" } : Jvm.MethodName) prog_11_method_14_code (3 : Nat) (Option.some Jvm.ClassFile.FieldType.int)) ∈ zwd := qw_of 1023 (by decide +kernel) (by decide +kernel)
theorem qw_966 : (Jvm.Cond.methodLink "PathCheckerModel" (134 : Nat) ({ cls := "PathCheckerModel", name := "isTimed", desc := "(I)Z" } : Jvm.MethodName)) ∈ zwd := qw_of 1024 (by decide +kernel) (by decide +kernel)
theorem qw_967 : (Jvm.Cond.static ({ cls := "PathCheckerModel", name := "isTimed", desc := "(I)Z" } : Jvm.MethodName)) ∈ zwd := qw_of 1025 (by decide +kernel) (by decide +kernel)
theorem qw_968 : (Jvm.Cond.code ({ cls := "PathCheckerModel", name := "isTimed", desc := "(I)Z" } : Jvm.MethodName) prog_11_method_8_code (1 : Nat) (Option.some Jvm.ClassFile.FieldType.boolean)) ∈ zwd := qw_of 1026 (by decide +kernel) (by decide +kernel)
theorem qw_969 : (Jvm.Cond.methodLink "PathCheckerModel" (155 : Nat) ({ cls := "PathCheckerModel", name := "forget", desc := "()V" } : Jvm.MethodName)) ∈ zwd := qw_of 1027 (by decide +kernel) (by decide +kernel)
theorem qw_971 : (Jvm.Cond.instanceMethod ({ cls := "PathCheckerModel", name := "forget", desc := "()V" } : Jvm.MethodName)) ∈ zwd := qw_of 1029 (by decide +kernel) (by decide +kernel)
theorem qw_972 : (Jvm.Cond.code ({ cls := "PathCheckerModel", name := "forget", desc := "()V" } : Jvm.MethodName) prog_11_method_21_code (2 : Nat) (Option.none : Option Jvm.ClassFile.FieldType)) ∈ zwd := qw_of 1030 (by decide +kernel) (by decide +kernel)
theorem qw_973 : (Jvm.Cond.methodLink "PathCheckerModel" (158 : Nat) ({ cls := "PathCheckerModel", name := "write", desc := "()V" } : Jvm.MethodName)) ∈ zwd := qw_of 1031 (by decide +kernel) (by decide +kernel)
theorem qw_975 : (Jvm.Cond.instanceMethod ({ cls := "PathCheckerModel", name := "write", desc := "()V" } : Jvm.MethodName)) ∈ zwd := qw_of 1033 (by decide +kernel) (by decide +kernel)
theorem qw_976 : (Jvm.Cond.code ({ cls := "PathCheckerModel", name := "write", desc := "()V" } : Jvm.MethodName) prog_11_method_18_code (5 : Nat) (Option.none : Option Jvm.ClassFile.FieldType)) ∈ zwd := qw_of 1034 (by decide +kernel) (by decide +kernel)
theorem qw_977 : (Jvm.Cond.methodLink "PathCheckerModel" (164 : Nat) ({ cls := "PathCheckerModel", name := "hold", desc := "(IZ)V" } : Jvm.MethodName)) ∈ zwd := qw_of 1035 (by decide +kernel) (by decide +kernel)
theorem qw_979 : (Jvm.Cond.instanceMethod ({ cls := "PathCheckerModel", name := "hold", desc := "(IZ)V" } : Jvm.MethodName)) ∈ zwd := qw_of 1037 (by decide +kernel) (by decide +kernel)
theorem qw_980 : (Jvm.Cond.code ({ cls := "PathCheckerModel", name := "hold", desc := "(IZ)V" } : Jvm.MethodName) prog_11_method_17_code (3 : Nat) (Option.none : Option Jvm.ClassFile.FieldType)) ∈ zwd := qw_of 1038 (by decide +kernel) (by decide +kernel)
theorem qw_981 : (Jvm.Cond.methodLink "PathCheckerModel" (168 : Nat) ({ cls := "PathCheckerModel", name := "emit", desc := "(I)V" } : Jvm.MethodName)) ∈ zwd := qw_of 1039 (by decide +kernel) (by decide +kernel)
theorem qw_983 : (Jvm.Cond.instanceMethod ({ cls := "PathCheckerModel", name := "emit", desc := "(I)V" } : Jvm.MethodName)) ∈ zwd := qw_of 1041 (by decide +kernel) (by decide +kernel)
theorem qw_984 : (Jvm.Cond.code ({ cls := "PathCheckerModel", name := "emit", desc := "(I)V" } : Jvm.MethodName) prog_11_method_16_code (2 : Nat) (Option.none : Option Jvm.ClassFile.FieldType)) ∈ zwd := qw_of 1042 (by decide +kernel) (by decide +kernel)
theorem qw_985 : (Jvm.Cond.methodLink "PathCheckerLaw" (74 : Nat) ({ cls := "PathCheckerModel", name := "normal", desc := "(I)I" } : Jvm.MethodName)) ∈ zwd := qw_of 1043 (by decide +kernel) (by decide +kernel)
theorem qw_986 : (Jvm.Cond.instanceMethod ({ cls := "PathCheckerModel", name := "normal", desc := "(I)I" } : Jvm.MethodName)) ∈ zwd := qw_of 1044 (by decide +kernel) (by decide +kernel)
theorem qw_987 : (Jvm.Cond.selects "PathCheckerModel" ({ cls := "PathCheckerModel", name := "normal", desc := "(I)I" } : Jvm.MethodName) ({ cls := "PathCheckerModel", name := "normal", desc := "(I)I" } : Jvm.MethodName)) ∈ zwd := qw_of 1045 (by decide +kernel) (by decide +kernel)
theorem qw_988 : (Jvm.Cond.code ({ cls := "PathCheckerModel", name := "normal", desc := "(I)I" } : Jvm.MethodName) prog_11_method_19_code (2 : Nat) (Option.some Jvm.ClassFile.FieldType.int)) ∈ zwd := qw_of 1046 (by decide +kernel) (by decide +kernel)
theorem qw_989 : (Jvm.Cond.methodLink "PathCheckerLaw" (78 : Nat) ({ cls := "PathCheckerModel", name := "mark", desc := "(II)Z" } : Jvm.MethodName)) ∈ zwd := qw_of 1047 (by decide +kernel) (by decide +kernel)
theorem qw_990 : (Jvm.Cond.instanceMethod ({ cls := "PathCheckerModel", name := "mark", desc := "(II)Z" } : Jvm.MethodName)) ∈ zwd := qw_of 1048 (by decide +kernel) (by decide +kernel)
theorem qw_991 : (Jvm.Cond.selects "PathCheckerModel" ({ cls := "PathCheckerModel", name := "mark", desc := "(II)Z" } : Jvm.MethodName) ({ cls := "PathCheckerModel", name := "mark", desc := "(II)Z" } : Jvm.MethodName)) ∈ zwd := qw_of 1049 (by decide +kernel) (by decide +kernel)
theorem qw_992 : (Jvm.Cond.code ({ cls := "PathCheckerModel", name := "mark", desc := "(II)Z" } : Jvm.MethodName) prog_11_method_22_code (3 : Nat) (Option.some Jvm.ClassFile.FieldType.boolean)) ∈ zwd := qw_of 1050 (by decide +kernel) (by decide +kernel)
theorem qw_993 : (Jvm.Cond.methodLink "PathCheckerModel" (174 : Nat) ({ cls := "PathCheckerModel", name := "isState", desc := "(I)Z" } : Jvm.MethodName)) ∈ zwd := qw_of 1051 (by decide +kernel) (by decide +kernel)
theorem qw_994 : (Jvm.Cond.static ({ cls := "PathCheckerModel", name := "isState", desc := "(I)Z" } : Jvm.MethodName)) ∈ zwd := qw_of 1052 (by decide +kernel) (by decide +kernel)
theorem qw_995 : (Jvm.Cond.code ({ cls := "PathCheckerModel", name := "isState", desc := "(I)Z" } : Jvm.MethodName) prog_11_method_20_code (1 : Nat) (Option.some Jvm.ClassFile.FieldType.boolean)) ∈ zwd := qw_of 1053 (by decide +kernel) (by decide +kernel)
theorem qw_996 : (Jvm.Cond.methodLink "PathCheckerLaw" (83 : Nat) ({ cls := "PathCheckerModel", name := "link", desc := "(IIZ)Z" } : Jvm.MethodName)) ∈ zwd := qw_of 1054 (by decide +kernel) (by decide +kernel)
theorem qw_997 : (Jvm.Cond.instanceMethod ({ cls := "PathCheckerModel", name := "link", desc := "(IIZ)Z" } : Jvm.MethodName)) ∈ zwd := qw_of 1055 (by decide +kernel) (by decide +kernel)
theorem qw_998 : (Jvm.Cond.selects "PathCheckerModel" ({ cls := "PathCheckerModel", name := "link", desc := "(IIZ)Z" } : Jvm.MethodName) ({ cls := "PathCheckerModel", name := "link", desc := "(IIZ)Z" } : Jvm.MethodName)) ∈ zwd := qw_of 1056 (by decide +kernel) (by decide +kernel)
theorem qw_999 : (Jvm.Cond.code ({ cls := "PathCheckerModel", name := "link", desc := "(IIZ)Z" } : Jvm.MethodName) prog_11_method_23_code (4 : Nat) (Option.some Jvm.ClassFile.FieldType.boolean)) ∈ zwd := qw_of 1057 (by decide +kernel) (by decide +kernel)
theorem qw_1000 : (Jvm.Cond.methodLink "PathCheckerLaw" (87 : Nat) ({ cls := "PathCheckerModel", name := "state", desc := "(II)I" } : Jvm.MethodName)) ∈ zwd := qw_of 1058 (by decide +kernel) (by decide +kernel)
theorem qw_1001 : (Jvm.Cond.instanceMethod ({ cls := "PathCheckerModel", name := "state", desc := "(II)I" } : Jvm.MethodName)) ∈ zwd := qw_of 1059 (by decide +kernel) (by decide +kernel)
theorem qw_1002 : (Jvm.Cond.selects "PathCheckerModel" ({ cls := "PathCheckerModel", name := "state", desc := "(II)I" } : Jvm.MethodName) ({ cls := "PathCheckerModel", name := "state", desc := "(II)I" } : Jvm.MethodName)) ∈ zwd := qw_of 1060 (by decide +kernel) (by decide +kernel)
theorem qw_1003 : (Jvm.Cond.code ({ cls := "PathCheckerModel", name := "state", desc := "(II)I" } : Jvm.MethodName) prog_11_method_24_code (3 : Nat) (Option.some Jvm.ClassFile.FieldType.int)) ∈ zwd := qw_of 1061 (by decide +kernel) (by decide +kernel)
theorem qw_1004 : (Jvm.Cond.methodLink "PathCheckerLaw" (91 : Nat) ({ cls := "PathCheckerModel", name := "endless", desc := "(I)Z" } : Jvm.MethodName)) ∈ zwd := qw_of 1062 (by decide +kernel) (by decide +kernel)
theorem qw_1005 : (Jvm.Cond.instanceMethod ({ cls := "PathCheckerModel", name := "endless", desc := "(I)Z" } : Jvm.MethodName)) ∈ zwd := qw_of 1063 (by decide +kernel) (by decide +kernel)
theorem qw_1006 : (Jvm.Cond.selects "PathCheckerModel" ({ cls := "PathCheckerModel", name := "endless", desc := "(I)Z" } : Jvm.MethodName) ({ cls := "PathCheckerModel", name := "endless", desc := "(I)Z" } : Jvm.MethodName)) ∈ zwd := qw_of 1064 (by decide +kernel) (by decide +kernel)
theorem qw_1007 : (Jvm.Cond.code ({ cls := "PathCheckerModel", name := "endless", desc := "(I)Z" } : Jvm.MethodName) prog_11_method_25_code (7 : Nat) (Option.some Jvm.ClassFile.FieldType.boolean)) ∈ zwd := qw_of 1065 (by decide +kernel) (by decide +kernel)
theorem qw_1008 : (Jvm.Cond.methodLink "PathCheckerLaw" (94 : Nat) ({ cls := "PathCheckerModel", name := "keeps", desc := "(I)Z" } : Jvm.MethodName)) ∈ zwd := qw_of 1066 (by decide +kernel) (by decide +kernel)
theorem qw_1009 : (Jvm.Cond.instanceMethod ({ cls := "PathCheckerModel", name := "keeps", desc := "(I)Z" } : Jvm.MethodName)) ∈ zwd := qw_of 1067 (by decide +kernel) (by decide +kernel)
theorem qw_1010 : (Jvm.Cond.selects "PathCheckerModel" ({ cls := "PathCheckerModel", name := "keeps", desc := "(I)Z" } : Jvm.MethodName) ({ cls := "PathCheckerModel", name := "keeps", desc := "(I)Z" } : Jvm.MethodName)) ∈ zwd := qw_of 1068 (by decide +kernel) (by decide +kernel)
theorem qw_1011 : (Jvm.Cond.code ({ cls := "PathCheckerModel", name := "keeps", desc := "(I)Z" } : Jvm.MethodName) prog_11_method_35_code (2 : Nat) (Option.some Jvm.ClassFile.FieldType.boolean)) ∈ zwd := qw_of 1069 (by decide +kernel) (by decide +kernel)
theorem qw_1012 : (Jvm.Cond.methodLink "PathCheckerModel" (204 : Nat) ({ cls := "PathCheckerModel", name := "someone", desc := "(Z)I" } : Jvm.MethodName)) ∈ zwd := qw_of 1070 (by decide +kernel) (by decide +kernel)
theorem qw_1014 : (Jvm.Cond.instanceMethod ({ cls := "PathCheckerModel", name := "someone", desc := "(Z)I" } : Jvm.MethodName)) ∈ zwd := qw_of 1072 (by decide +kernel) (by decide +kernel)
theorem qw_1015 : (Jvm.Cond.code ({ cls := "PathCheckerModel", name := "someone", desc := "(Z)I" } : Jvm.MethodName) prog_11_method_34_code (7 : Nat) (Option.some Jvm.ClassFile.FieldType.int)) ∈ zwd := qw_of 1073 (by decide +kernel) (by decide +kernel)
theorem qw_1016 : (Jvm.Cond.methodLink "PathCheckerModel" (201 : Nat) ({ cls := "PathCheckerModel", name := "study", desc := "()V" } : Jvm.MethodName)) ∈ zwd := qw_of 1074 (by decide +kernel) (by decide +kernel)
theorem qw_1018 : (Jvm.Cond.instanceMethod ({ cls := "PathCheckerModel", name := "study", desc := "()V" } : Jvm.MethodName)) ∈ zwd := qw_of 1076 (by decide +kernel) (by decide +kernel)
theorem qw_1019 : (Jvm.Cond.code ({ cls := "PathCheckerModel", name := "study", desc := "()V" } : Jvm.MethodName) prog_11_method_33_code (6 : Nat) (Option.none : Option Jvm.ClassFile.FieldType)) ∈ zwd := qw_of 1077 (by decide +kernel) (by decide +kernel)
theorem qw_1020 : (Jvm.Cond.methodLink "PathCheckerModel" (195 : Nat) ({ cls := "PathCheckerModel", name := "tables", desc := "()V" } : Jvm.MethodName)) ∈ zwd := qw_of 1078 (by decide +kernel) (by decide +kernel)
theorem qw_1022 : (Jvm.Cond.instanceMethod ({ cls := "PathCheckerModel", name := "tables", desc := "()V" } : Jvm.MethodName)) ∈ zwd := qw_of 1080 (by decide +kernel) (by decide +kernel)
theorem qw_1023 : (Jvm.Cond.code ({ cls := "PathCheckerModel", name := "tables", desc := "()V" } : Jvm.MethodName) prog_11_method_30_code (10 : Nat) (Option.none : Option Jvm.ClassFile.FieldType)) ∈ zwd := qw_of 1081 (by decide +kernel) (by decide +kernel)
theorem qw_1024 : (Jvm.Cond.methodLink "PathCheckerModel" (184 : Nat) ({ cls := "PathCheckerModel", name := "evaluate", desc := "(II)V" } : Jvm.MethodName)) ∈ zwd := qw_of 1082 (by decide +kernel) (by decide +kernel)
theorem qw_1026 : (Jvm.Cond.instanceMethod ({ cls := "PathCheckerModel", name := "evaluate", desc := "(II)V" } : Jvm.MethodName)) ∈ zwd := qw_of 1084 (by decide +kernel) (by decide +kernel)
theorem qw_1027 : (Jvm.Cond.code ({ cls := "PathCheckerModel", name := "evaluate", desc := "(II)V" } : Jvm.MethodName) prog_11_method_27_code (4 : Nat) (Option.none : Option Jvm.ClassFile.FieldType)) ∈ zwd := qw_of 1085 (by decide +kernel) (by decide +kernel)
theorem qw_1028 : (Jvm.Cond.methodLink "PathCheckerModel" (177 : Nat) ({ cls := "PathCheckerModel", name := "plain", desc := "(II)Z" } : Jvm.MethodName)) ∈ zwd := qw_of 1086 (by decide +kernel) (by decide +kernel)
theorem qw_1030 : (Jvm.Cond.instanceMethod ({ cls := "PathCheckerModel", name := "plain", desc := "(II)Z" } : Jvm.MethodName)) ∈ zwd := qw_of 1088 (by decide +kernel) (by decide +kernel)
theorem qw_1031 : (Jvm.Cond.code ({ cls := "PathCheckerModel", name := "plain", desc := "(II)Z" } : Jvm.MethodName) prog_11_method_26_code (6 : Nat) (Option.some Jvm.ClassFile.FieldType.boolean)) ∈ zwd := qw_of 1089 (by decide +kernel) (by decide +kernel)
theorem qw_1032 : (Jvm.Cond.methodLink "PathCheckerModel" (181 : Nat) ({ cls := "PathCheckerModel", name := "decider", desc := "(I)I" } : Jvm.MethodName)) ∈ zwd := qw_of 1090 (by decide +kernel) (by decide +kernel)
theorem qw_1034 : (Jvm.Cond.instanceMethod ({ cls := "PathCheckerModel", name := "decider", desc := "(I)I" } : Jvm.MethodName)) ∈ zwd := qw_of 1092 (by decide +kernel) (by decide +kernel)
theorem qw_1035 : (Jvm.Cond.code ({ cls := "PathCheckerModel", name := "decider", desc := "(I)I" } : Jvm.MethodName) prog_11_method_28_code (2 : Nat) (Option.some Jvm.ClassFile.FieldType.int)) ∈ zwd := qw_of 1093 (by decide +kernel) (by decide +kernel)
theorem qw_1036 : (Jvm.Cond.methodLink "PathCheckerModel" (188 : Nat) ({ cls := "PathCheckerModel", name := "bitsBefore", desc := "(III)I" } : Jvm.MethodName)) ∈ zwd := qw_of 1094 (by decide +kernel) (by decide +kernel)
theorem qw_1038 : (Jvm.Cond.instanceMethod ({ cls := "PathCheckerModel", name := "bitsBefore", desc := "(III)I" } : Jvm.MethodName)) ∈ zwd := qw_of 1096 (by decide +kernel) (by decide +kernel)
theorem qw_1039 : (Jvm.Cond.code ({ cls := "PathCheckerModel", name := "bitsBefore", desc := "(III)I" } : Jvm.MethodName) prog_11_method_29_code (11 : Nat) (Option.some Jvm.ClassFile.FieldType.int)) ∈ zwd := qw_of 1097 (by decide +kernel) (by decide +kernel)
theorem qw_1040 : (Jvm.Cond.methodLink "PathCheckerModel" (198 : Nat) ({ cls := "PathCheckerModel", name := "cut", desc := "(I)Z" } : Jvm.MethodName)) ∈ zwd := qw_of 1098 (by decide +kernel) (by decide +kernel)
theorem qw_1042 : (Jvm.Cond.instanceMethod ({ cls := "PathCheckerModel", name := "cut", desc := "(I)Z" } : Jvm.MethodName)) ∈ zwd := qw_of 1100 (by decide +kernel) (by decide +kernel)
theorem qw_1043 : (Jvm.Cond.code ({ cls := "PathCheckerModel", name := "cut", desc := "(I)Z" } : Jvm.MethodName) prog_11_method_32_code (7 : Nat) (Option.some Jvm.ClassFile.FieldType.boolean)) ∈ zwd := qw_of 1101 (by decide +kernel) (by decide +kernel)
theorem qw_1044 : (Jvm.Cond.methodLink "PathCheckerModel" (192 : Nat) ({ cls := "PathCheckerModel", name := "step", desc := "()V" } : Jvm.MethodName)) ∈ zwd := qw_of 1102 (by decide +kernel) (by decide +kernel)
theorem qw_1046 : (Jvm.Cond.instanceMethod ({ cls := "PathCheckerModel", name := "step", desc := "()V" } : Jvm.MethodName)) ∈ zwd := qw_of 1104 (by decide +kernel) (by decide +kernel)
theorem qw_1047 : (Jvm.Cond.code ({ cls := "PathCheckerModel", name := "step", desc := "()V" } : Jvm.MethodName) prog_11_method_31_code (5 : Nat) (Option.none : Option Jvm.ClassFile.FieldType)) ∈ zwd := qw_of 1105 (by decide +kernel) (by decide +kernel)
theorem qw_1048 : (Jvm.Cond.methodLink "PathCheckerLaw" (97 : Nat) ({ cls := "PathCheckerModel", name := "breaking", desc := "()I" } : Jvm.MethodName)) ∈ zwd := qw_of 1106 (by decide +kernel) (by decide +kernel)
theorem qw_1049 : (Jvm.Cond.instanceMethod ({ cls := "PathCheckerModel", name := "breaking", desc := "()I" } : Jvm.MethodName)) ∈ zwd := qw_of 1107 (by decide +kernel) (by decide +kernel)
theorem qw_1050 : (Jvm.Cond.selects "PathCheckerModel" ({ cls := "PathCheckerModel", name := "breaking", desc := "()I" } : Jvm.MethodName) ({ cls := "PathCheckerModel", name := "breaking", desc := "()I" } : Jvm.MethodName)) ∈ zwd := qw_of 1108 (by decide +kernel) (by decide +kernel)
theorem qw_1051 : (Jvm.Cond.code ({ cls := "PathCheckerModel", name := "breaking", desc := "()I" } : Jvm.MethodName) prog_11_method_36_code (1 : Nat) (Option.some Jvm.ClassFile.FieldType.int)) ∈ zwd := qw_of 1109 (by decide +kernel) (by decide +kernel)
theorem qw_1052 : (Jvm.Cond.methodLink "PathCheckerLaw" (100 : Nat) ({ cls := "PathCheckerModel", name := "keeping", desc := "()I" } : Jvm.MethodName)) ∈ zwd := qw_of 1110 (by decide +kernel) (by decide +kernel)
theorem qw_1053 : (Jvm.Cond.instanceMethod ({ cls := "PathCheckerModel", name := "keeping", desc := "()I" } : Jvm.MethodName)) ∈ zwd := qw_of 1111 (by decide +kernel) (by decide +kernel)
theorem qw_1054 : (Jvm.Cond.selects "PathCheckerModel" ({ cls := "PathCheckerModel", name := "keeping", desc := "()I" } : Jvm.MethodName) ({ cls := "PathCheckerModel", name := "keeping", desc := "()I" } : Jvm.MethodName)) ∈ zwd := qw_of 1112 (by decide +kernel) (by decide +kernel)
theorem qw_1055 : (Jvm.Cond.code ({ cls := "PathCheckerModel", name := "keeping", desc := "()I" } : Jvm.MethodName) prog_11_method_37_code (1 : Nat) (Option.some Jvm.ClassFile.FieldType.int)) ∈ zwd := qw_of 1113 (by decide +kernel) (by decide +kernel)
theorem qw_1056 : (Jvm.Cond.methodLink "PathCheckerLaw" (104 : Nat) ({ cls := "PathCheckerModel", name := "witness", desc := "(II)I" } : Jvm.MethodName)) ∈ zwd := qw_of 1114 (by decide +kernel) (by decide +kernel)
theorem qw_1057 : (Jvm.Cond.instanceMethod ({ cls := "PathCheckerModel", name := "witness", desc := "(II)I" } : Jvm.MethodName)) ∈ zwd := qw_of 1115 (by decide +kernel) (by decide +kernel)
theorem qw_1058 : (Jvm.Cond.selects "PathCheckerModel" ({ cls := "PathCheckerModel", name := "witness", desc := "(II)I" } : Jvm.MethodName) ({ cls := "PathCheckerModel", name := "witness", desc := "(II)I" } : Jvm.MethodName)) ∈ zwd := qw_of 1116 (by decide +kernel) (by decide +kernel)
theorem qw_1059 : (Jvm.Cond.code ({ cls := "PathCheckerModel", name := "witness", desc := "(II)I" } : Jvm.MethodName) prog_11_method_42_code (3 : Nat) (Option.some Jvm.ClassFile.FieldType.int)) ∈ zwd := qw_of 1117 (by decide +kernel) (by decide +kernel)
theorem qw_1060 : (Jvm.Cond.methodLink "PathCheckerModel" (223 : Nat) ({ cls := "PathCheckerModel", name := "search", desc := "(I)V" } : Jvm.MethodName)) ∈ zwd := qw_of 1118 (by decide +kernel) (by decide +kernel)
theorem qw_1062 : (Jvm.Cond.instanceMethod ({ cls := "PathCheckerModel", name := "search", desc := "(I)V" } : Jvm.MethodName)) ∈ zwd := qw_of 1120 (by decide +kernel) (by decide +kernel)
theorem qw_1063 : (Jvm.Cond.code ({ cls := "PathCheckerModel", name := "search", desc := "(I)V" } : Jvm.MethodName) prog_11_method_41_code (5 : Nat) (Option.none : Option Jvm.ClassFile.FieldType)) ∈ zwd := qw_of 1121 (by decide +kernel) (by decide +kernel)
theorem qw_1064 : (Jvm.Cond.methodLink "PathCheckerModel" (214 : Nat) ({ cls := "PathCheckerModel", name := "linked", desc := "()Z" } : Jvm.MethodName)) ∈ zwd := qw_of 1122 (by decide +kernel) (by decide +kernel)
theorem qw_1066 : (Jvm.Cond.instanceMethod ({ cls := "PathCheckerModel", name := "linked", desc := "()Z" } : Jvm.MethodName)) ∈ zwd := qw_of 1124 (by decide +kernel) (by decide +kernel)
theorem qw_1067 : (Jvm.Cond.code ({ cls := "PathCheckerModel", name := "linked", desc := "()Z" } : Jvm.MethodName) prog_11_method_40_code (3 : Nat) (Option.some Jvm.ClassFile.FieldType.boolean)) ∈ zwd := qw_of 1125 (by decide +kernel) (by decide +kernel)
theorem qw_1068 : (Jvm.Cond.methodLink "PathCheckerModel" (217 : Nat) ({ cls := "PathCheckerModel", name := "holds", desc := "(I)Z" } : Jvm.MethodName)) ∈ zwd := qw_of 1126 (by decide +kernel) (by decide +kernel)
theorem qw_1070 : (Jvm.Cond.instanceMethod ({ cls := "PathCheckerModel", name := "holds", desc := "(I)Z" } : Jvm.MethodName)) ∈ zwd := qw_of 1128 (by decide +kernel) (by decide +kernel)
theorem qw_1071 : (Jvm.Cond.code ({ cls := "PathCheckerModel", name := "holds", desc := "(I)Z" } : Jvm.MethodName) prog_11_method_38_code (11 : Nat) (Option.some Jvm.ClassFile.FieldType.boolean)) ∈ zwd := qw_of 1129 (by decide +kernel) (by decide +kernel)
theorem qw_1072 : (Jvm.Cond.methodLink "PathCheckerModel" (220 : Nat) ({ cls := "PathCheckerModel", name := "advance", desc := "()Z" } : Jvm.MethodName)) ∈ zwd := qw_of 1130 (by decide +kernel) (by decide +kernel)
theorem qw_1074 : (Jvm.Cond.instanceMethod ({ cls := "PathCheckerModel", name := "advance", desc := "()Z" } : Jvm.MethodName)) ∈ zwd := qw_of 1132 (by decide +kernel) (by decide +kernel)
theorem qw_1075 : (Jvm.Cond.code ({ cls := "PathCheckerModel", name := "advance", desc := "()Z" } : Jvm.MethodName) prog_11_method_39_code (2 : Nat) (Option.some Jvm.ClassFile.FieldType.boolean)) ∈ zwd := qw_of 1133 (by decide +kernel) (by decide +kernel)
theorem qw_1076 : (Jvm.Cond.methodLink "PathCheckerLaw" (108 : Nat) ({ cls := "PathCheckerModel", name := "go", desc := "(I)I" } : Jvm.MethodName)) ∈ zwd := qw_of 1134 (by decide +kernel) (by decide +kernel)
theorem qw_1077 : (Jvm.Cond.instanceMethod ({ cls := "PathCheckerModel", name := "go", desc := "(I)I" } : Jvm.MethodName)) ∈ zwd := qw_of 1135 (by decide +kernel) (by decide +kernel)
theorem qw_1078 : (Jvm.Cond.selects "PathCheckerModel" ({ cls := "PathCheckerModel", name := "go", desc := "(I)I" } : Jvm.MethodName) ({ cls := "PathCheckerModel", name := "go", desc := "(I)I" } : Jvm.MethodName)) ∈ zwd := qw_of 1136 (by decide +kernel) (by decide +kernel)
theorem qw_1079 : (Jvm.Cond.code ({ cls := "PathCheckerModel", name := "go", desc := "(I)I" } : Jvm.MethodName) prog_11_method_43_code (2 : Nat) (Option.some Jvm.ClassFile.FieldType.int)) ∈ zwd := qw_of 1137 (by decide +kernel) (by decide +kernel)
theorem qw_1080 : (Jvm.Cond.methodLink "PathCheckerLaw" (112 : Nat) ({ cls := "PathCheckerModel", name := "clear", desc := "()V" } : Jvm.MethodName)) ∈ zwd := qw_of 1138 (by decide +kernel) (by decide +kernel)
theorem qw_1081 : (Jvm.Cond.instanceMethod ({ cls := "PathCheckerModel", name := "clear", desc := "()V" } : Jvm.MethodName)) ∈ zwd := qw_of 1139 (by decide +kernel) (by decide +kernel)
theorem qw_1082 : (Jvm.Cond.selects "PathCheckerModel" ({ cls := "PathCheckerModel", name := "clear", desc := "()V" } : Jvm.MethodName) ({ cls := "PathCheckerModel", name := "clear", desc := "()V" } : Jvm.MethodName)) ∈ zwd := qw_of 1140 (by decide +kernel) (by decide +kernel)
theorem qw_1083 : (Jvm.Cond.code ({ cls := "PathCheckerModel", name := "clear", desc := "()V" } : Jvm.MethodName) prog_11_method_44_code (1 : Nat) (Option.none : Option Jvm.ClassFile.FieldType)) ∈ zwd := qw_of 1141 (by decide +kernel) (by decide +kernel)
theorem qw_1084 : (Jvm.Cond.methodLink "PathCheckerLaw" (115 : Nat) ({ cls := "PathCheckerModel", name := "judge", desc := "(II)Z" } : Jvm.MethodName)) ∈ zwd := qw_of 1142 (by decide +kernel) (by decide +kernel)
theorem qw_1085 : (Jvm.Cond.instanceMethod ({ cls := "PathCheckerModel", name := "judge", desc := "(II)Z" } : Jvm.MethodName)) ∈ zwd := qw_of 1143 (by decide +kernel) (by decide +kernel)
theorem qw_1086 : (Jvm.Cond.selects "PathCheckerModel" ({ cls := "PathCheckerModel", name := "judge", desc := "(II)Z" } : Jvm.MethodName) ({ cls := "PathCheckerModel", name := "judge", desc := "(II)Z" } : Jvm.MethodName)) ∈ zwd := qw_of 1144 (by decide +kernel) (by decide +kernel)
theorem qw_1087 : (Jvm.Cond.code ({ cls := "PathCheckerModel", name := "judge", desc := "(II)Z" } : Jvm.MethodName) prog_11_method_45_code (4 : Nat) (Option.some Jvm.ClassFile.FieldType.boolean)) ∈ zwd := qw_of 1145 (by decide +kernel) (by decide +kernel)
theorem qw_1088 : (Jvm.Cond.constantLong "PathCheckerLaw" (47 : Nat) (4294967295 : Int64)) ∈ zwd := qw_of 1146 (by decide +kernel) (by decide +kernel)
theorem qs_0 : Cond.selects "PathChecker$Reader" (⟨"PathChecker$Reader", "startAnew", "()V"⟩ : MethodName) (⟨"PathChecker$Reader", "startAnew", "()V"⟩ : MethodName) ∈ zwd := qw_of 0 (by decide +kernel) (by decide +kernel)
theorem qs_1 : Cond.selects "PathChecker$Reader" (⟨"PathChecker$Reader", "takeInUnit", "(C)Z"⟩ : MethodName) (⟨"PathChecker$Reader", "takeInUnit", "(C)Z"⟩ : MethodName) ∈ zwd := qw_of 1 (by decide +kernel) (by decide +kernel)
theorem qs_2 : Cond.selects "PathChecker$Reader" (⟨"PathChecker$Reader", "newPart", "(CII)I"⟩ : MethodName) (⟨"PathChecker$Reader", "newPart", "(CII)I"⟩ : MethodName) ∈ zwd := qw_of 2 (by decide +kernel) (by decide +kernel)
theorem qs_3 : Cond.selects "PathChecker$Reader" (⟨"PathChecker$Reader", "await", "(C)V"⟩ : MethodName) (⟨"PathChecker$Reader", "await", "(C)V"⟩ : MethodName) ∈ zwd := qw_of 3 (by decide +kernel) (by decide +kernel)
theorem qs_4 : Cond.selects "PathChecker$Reader" (⟨"PathChecker$Reader", "takeBehindUnit", "(C)Z"⟩ : MethodName) (⟨"PathChecker$Reader", "takeBehindUnit", "(C)Z"⟩ : MethodName) ∈ zwd := qw_of 4 (by decide +kernel) (by decide +kernel)
theorem qs_5 : Cond.selects "PathChecker$Reader" (⟨"PathChecker$Reader", "joinDownTo", "(I)V"⟩ : MethodName) (⟨"PathChecker$Reader", "joinDownTo", "(I)V"⟩ : MethodName) ∈ zwd := qw_of 5 (by decide +kernel) (by decide +kernel)
theorem qs_6 : Cond.selects "PathChecker$Reader" (⟨"PathChecker$Reader", "join", "(C)V"⟩ : MethodName) (⟨"PathChecker$Reader", "join", "(C)V"⟩ : MethodName) ∈ zwd := qw_of 6 (by decide +kernel) (by decide +kernel)
theorem qs_8 : Cond.selects "PathChecker$NormalForm" (⟨"PathChecker$NormalForm", "write", "(LPathChecker$Reader;)V"⟩ : MethodName) (⟨"PathChecker$NormalForm", "write", "(LPathChecker$Reader;)V"⟩ : MethodName) ∈ zwd := qw_of 8 (by decide +kernel) (by decide +kernel)
theorem qs_9 : Cond.selects "PathChecker$NormalForm" (⟨"PathChecker$NormalForm", "keepForLater", "(IZ)V"⟩ : MethodName) (⟨"PathChecker$NormalForm", "keepForLater", "(IZ)V"⟩ : MethodName) ∈ zwd := qw_of 9 (by decide +kernel) (by decide +kernel)
theorem qs_10 : Cond.selects "PathChecker$NormalForm" (⟨"PathChecker$NormalForm", "writeSigns", "(CZ)V"⟩ : MethodName) (⟨"PathChecker$NormalForm", "writeSigns", "(CZ)V"⟩ : MethodName) ∈ zwd := qw_of 10 (by decide +kernel) (by decide +kernel)
theorem qs_11 : Cond.selects "PathChecker$NormalForm" (⟨"PathChecker$NormalForm", "add", "(C)V"⟩ : MethodName) (⟨"PathChecker$NormalForm", "add", "(C)V"⟩ : MethodName) ∈ zwd := qw_of 11 (by decide +kernel) (by decide +kernel)
theorem qs_12 : Cond.selects "PathChecker$NormalForm" (⟨"PathChecker$NormalForm", "connect", "()V"⟩ : MethodName) (⟨"PathChecker$NormalForm", "connect", "()V"⟩ : MethodName) ∈ zwd := qw_of 12 (by decide +kernel) (by decide +kernel)
theorem qs_13 : Cond.selects "PathChecker" (⟨"PathChecker", "bringUpToDate", "()V"⟩ : MethodName) (⟨"PathChecker", "bringUpToDate", "()V"⟩ : MethodName) ∈ zwd := qw_of 13 (by decide +kernel) (by decide +kernel)
theorem qs_14 : Cond.selects "PathChecker$Graph" (⟨"PathChecker$Graph", "weighHere", "(I)V"⟩ : MethodName) (⟨"PathChecker$Graph", "weighHere", "(I)V"⟩ : MethodName) ∈ zwd := qw_of 14 (by decide +kernel) (by decide +kernel)
theorem qs_15 : Cond.selects "PathChecker$Graph" (⟨"PathChecker$Graph", "untimed", "([III)I"⟩ : MethodName) (⟨"PathChecker$Graph", "untimed", "([III)I"⟩ : MethodName) ∈ zwd := qw_of 15 (by decide +kernel) (by decide +kernel)
theorem qs_16 : Cond.selects "PathChecker$Graph" (⟨"PathChecker$Graph", "promptGuesses", "(II)I"⟩ : MethodName) (⟨"PathChecker$Graph", "promptGuesses", "(II)I"⟩ : MethodName) ∈ zwd := qw_of 16 (by decide +kernel) (by decide +kernel)
theorem qs_17 : Cond.selects "PathChecker$Graph" (⟨"PathChecker$Graph", "weighBefore", "(I)V"⟩ : MethodName) (⟨"PathChecker$Graph", "weighBefore", "(I)V"⟩ : MethodName) ∈ zwd := qw_of 17 (by decide +kernel) (by decide +kernel)
theorem qs_18 : Cond.selects "PathChecker$Graph" (⟨"PathChecker$Graph", "timedBefore", "(II)I"⟩ : MethodName) (⟨"PathChecker$Graph", "timedBefore", "(II)I"⟩ : MethodName) ∈ zwd := qw_of 18 (by decide +kernel) (by decide +kernel)
theorem qs_19 : Cond.selects "PathChecker$Graph" (⟨"PathChecker$Graph", "writeGuesses", "(II)V"⟩ : MethodName) (⟨"PathChecker$Graph", "writeGuesses", "(II)V"⟩ : MethodName) ∈ zwd := qw_of 19 (by decide +kernel) (by decide +kernel)
theorem qs_20 : Cond.selects "PathChecker$Knots" (⟨"PathChecker$Knots", "startAnew", "()V"⟩ : MethodName) (⟨"PathChecker$Knots", "startAnew", "()V"⟩ : MethodName) ∈ zwd := qw_of 20 (by decide +kernel) (by decide +kernel)
theorem qs_21 : Cond.selects "PathChecker$Knots" (⟨"PathChecker$Knots", "walkFrom", "(I)V"⟩ : MethodName) (⟨"PathChecker$Knots", "walkFrom", "(I)V"⟩ : MethodName) ∈ zwd := qw_of 21 (by decide +kernel) (by decide +kernel)
theorem qs_22 : Cond.selects "PathChecker$Knots" (⟨"PathChecker$Knots", "enter", "(I)V"⟩ : MethodName) (⟨"PathChecker$Knots", "enter", "(I)V"⟩ : MethodName) ∈ zwd := qw_of 22 (by decide +kernel) (by decide +kernel)
theorem qs_23 : Cond.selects "PathChecker$Knots" (⟨"PathChecker$Knots", "tryStep", "(II)V"⟩ : MethodName) (⟨"PathChecker$Knots", "tryStep", "(II)V"⟩ : MethodName) ∈ zwd := qw_of 23 (by decide +kernel) (by decide +kernel)
theorem qs_24 : Cond.selects "PathChecker$Knots" (⟨"PathChecker$Knots", "release", "(I)V"⟩ : MethodName) (⟨"PathChecker$Knots", "release", "(I)V"⟩ : MethodName) ∈ zwd := qw_of 24 (by decide +kernel) (by decide +kernel)
theorem qs_25 : Cond.selects "PathChecker$Knots" (⟨"PathChecker$Knots", "goesToItself", "(I)Z"⟩ : MethodName) (⟨"PathChecker$Knots", "goesToItself", "(I)Z"⟩ : MethodName) ∈ zwd := qw_of 25 (by decide +kernel) (by decide +kernel)
theorem qs_26 : Cond.selects "PathChecker$Knots" (⟨"PathChecker$Knots", "isPrompt", "()Z"⟩ : MethodName) (⟨"PathChecker$Knots", "isPrompt", "()Z"⟩ : MethodName) ∈ zwd := qw_of 26 (by decide +kernel) (by decide +kernel)
theorem qs_27 : Cond.selects "PathChecker$Nearness" (⟨"PathChecker$Nearness", "oneStepMore", "([III)I"⟩ : MethodName) (⟨"PathChecker$Nearness", "oneStepMore", "([III)I"⟩ : MethodName) ∈ zwd := qw_of 27 (by decide +kernel) (by decide +kernel)
theorem qs_28 : Cond.selects "PathChecker$Nearness" (⟨"PathChecker$Nearness", "growReaching", "()Z"⟩ : MethodName) (⟨"PathChecker$Nearness", "growReaching", "()Z"⟩ : MethodName) ∈ zwd := qw_of 28 (by decide +kernel) (by decide +kernel)
theorem qs_29 : Cond.selects "PathChecker$Search" (⟨"PathChecker$Search", "extend", "(I)V"⟩ : MethodName) (⟨"PathChecker$Search", "extend", "(I)V"⟩ : MethodName) ∈ zwd := qw_of 29 (by decide +kernel) (by decide +kernel)
theorem qs_30 : Cond.selects "PathChecker$Search" (⟨"PathChecker$Search", "closeLoop", "(I)V"⟩ : MethodName) (⟨"PathChecker$Search", "closeLoop", "(I)V"⟩ : MethodName) ∈ zwd := qw_of 30 (by decide +kernel) (by decide +kernel)
theorem qs_31 : Cond.selects "PathChecker$Search" (⟨"PathChecker$Search", "mayGoOnAt", "(II)Z"⟩ : MethodName) (⟨"PathChecker$Search", "mayGoOnAt", "(II)Z"⟩ : MethodName) ∈ zwd := qw_of 31 (by decide +kernel) (by decide +kernel)
theorem qs_32 : Cond.selects "PathChecker$Path" (⟨"PathChecker$Path", "placesBefore", "(II)I"⟩ : MethodName) (⟨"PathChecker$Path", "placesBefore", "(II)I"⟩ : MethodName) ∈ zwd := qw_of 32 (by decide +kernel) (by decide +kernel)
theorem qs_33 : Cond.selects "PathChecker$Path" (⟨"PathChecker$Path", "placesOfUntil", "(III)I"⟩ : MethodName) (⟨"PathChecker$Path", "placesOfUntil", "(III)I"⟩ : MethodName) ∈ zwd := qw_of 33 (by decide +kernel) (by decide +kernel)
theorem qs_34 : Cond.selects "PathChecker$Path" (⟨"PathChecker$Path", "placesOfRelease", "(III)I"⟩ : MethodName) (⟨"PathChecker$Path", "placesOfRelease", "(III)I"⟩ : MethodName) ∈ zwd := qw_of 34 (by decide +kernel) (by decide +kernel)
theorem qs_35 : Cond.selects "PathChecker$Path" (⟨"PathChecker$Path", "placesOfLeaf", "(CLPathChecker$Structure;)I"⟩ : MethodName) (⟨"PathChecker$Path", "placesOfLeaf", "(CLPathChecker$Structure;)I"⟩ : MethodName) ∈ zwd := qw_of 35 (by decide +kernel) (by decide +kernel)
theorem qs_36 : Cond.selects "PathCheckerModel" (⟨"PathCheckerModel", "reads", "()Z"⟩ : MethodName) (⟨"PathCheckerModel", "reads", "()Z"⟩ : MethodName) ∈ zwd := qw_of 36 (by decide +kernel) (by decide +kernel)
theorem qs_37 : Cond.selects "PathCheckerModel" (⟨"PathCheckerModel", "node", "(III)V"⟩ : MethodName) (⟨"PathCheckerModel", "node", "(III)V"⟩ : MethodName) ∈ zwd := qw_of 37 (by decide +kernel) (by decide +kernel)
theorem qs_38 : Cond.selects "PathCheckerModel" (⟨"PathCheckerModel", "reduceFrom", "(I)V"⟩ : MethodName) (⟨"PathCheckerModel", "reduceFrom", "(I)V"⟩ : MethodName) ∈ zwd := qw_of 38 (by decide +kernel) (by decide +kernel)
theorem qs_39 : Cond.selects "PathCheckerModel" (⟨"PathCheckerModel", "reduce", "()V"⟩ : MethodName) (⟨"PathCheckerModel", "reduce", "()V"⟩ : MethodName) ∈ zwd := qw_of 39 (by decide +kernel) (by decide +kernel)
theorem qs_40 : Cond.selects "PathCheckerModel" (⟨"PathCheckerModel", "countTimed", "()I"⟩ : MethodName) (⟨"PathCheckerModel", "countTimed", "()I"⟩ : MethodName) ∈ zwd := qw_of 40 (by decide +kernel) (by decide +kernel)
theorem qs_41 : Cond.selects "PathCheckerModel" (⟨"PathCheckerModel", "forget", "()V"⟩ : MethodName) (⟨"PathCheckerModel", "forget", "()V"⟩ : MethodName) ∈ zwd := qw_of 41 (by decide +kernel) (by decide +kernel)
theorem qs_42 : Cond.selects "PathCheckerModel" (⟨"PathCheckerModel", "write", "()V"⟩ : MethodName) (⟨"PathCheckerModel", "write", "()V"⟩ : MethodName) ∈ zwd := qw_of 42 (by decide +kernel) (by decide +kernel)
theorem qs_43 : Cond.selects "PathCheckerModel" (⟨"PathCheckerModel", "hold", "(IZ)V"⟩ : MethodName) (⟨"PathCheckerModel", "hold", "(IZ)V"⟩ : MethodName) ∈ zwd := qw_of 43 (by decide +kernel) (by decide +kernel)
theorem qs_44 : Cond.selects "PathCheckerModel" (⟨"PathCheckerModel", "emit", "(I)V"⟩ : MethodName) (⟨"PathCheckerModel", "emit", "(I)V"⟩ : MethodName) ∈ zwd := qw_of 44 (by decide +kernel) (by decide +kernel)
theorem qs_45 : Cond.selects "PathCheckerModel" (⟨"PathCheckerModel", "someone", "(Z)I"⟩ : MethodName) (⟨"PathCheckerModel", "someone", "(Z)I"⟩ : MethodName) ∈ zwd := qw_of 45 (by decide +kernel) (by decide +kernel)
theorem qs_46 : Cond.selects "PathCheckerModel" (⟨"PathCheckerModel", "study", "()V"⟩ : MethodName) (⟨"PathCheckerModel", "study", "()V"⟩ : MethodName) ∈ zwd := qw_of 46 (by decide +kernel) (by decide +kernel)
theorem qs_47 : Cond.selects "PathCheckerModel" (⟨"PathCheckerModel", "tables", "()V"⟩ : MethodName) (⟨"PathCheckerModel", "tables", "()V"⟩ : MethodName) ∈ zwd := qw_of 47 (by decide +kernel) (by decide +kernel)
theorem qs_48 : Cond.selects "PathCheckerModel" (⟨"PathCheckerModel", "evaluate", "(II)V"⟩ : MethodName) (⟨"PathCheckerModel", "evaluate", "(II)V"⟩ : MethodName) ∈ zwd := qw_of 48 (by decide +kernel) (by decide +kernel)
theorem qs_49 : Cond.selects "PathCheckerModel" (⟨"PathCheckerModel", "plain", "(II)Z"⟩ : MethodName) (⟨"PathCheckerModel", "plain", "(II)Z"⟩ : MethodName) ∈ zwd := qw_of 49 (by decide +kernel) (by decide +kernel)
theorem qs_50 : Cond.selects "PathCheckerModel" (⟨"PathCheckerModel", "decider", "(I)I"⟩ : MethodName) (⟨"PathCheckerModel", "decider", "(I)I"⟩ : MethodName) ∈ zwd := qw_of 50 (by decide +kernel) (by decide +kernel)
theorem qs_51 : Cond.selects "PathCheckerModel" (⟨"PathCheckerModel", "bitsBefore", "(III)I"⟩ : MethodName) (⟨"PathCheckerModel", "bitsBefore", "(III)I"⟩ : MethodName) ∈ zwd := qw_of 51 (by decide +kernel) (by decide +kernel)
theorem qs_52 : Cond.selects "PathCheckerModel" (⟨"PathCheckerModel", "cut", "(I)Z"⟩ : MethodName) (⟨"PathCheckerModel", "cut", "(I)Z"⟩ : MethodName) ∈ zwd := qw_of 52 (by decide +kernel) (by decide +kernel)
theorem qs_53 : Cond.selects "PathCheckerModel" (⟨"PathCheckerModel", "step", "()V"⟩ : MethodName) (⟨"PathCheckerModel", "step", "()V"⟩ : MethodName) ∈ zwd := qw_of 53 (by decide +kernel) (by decide +kernel)
theorem qs_54 : Cond.selects "PathCheckerModel" (⟨"PathCheckerModel", "search", "(I)V"⟩ : MethodName) (⟨"PathCheckerModel", "search", "(I)V"⟩ : MethodName) ∈ zwd := qw_of 54 (by decide +kernel) (by decide +kernel)
theorem qs_55 : Cond.selects "PathCheckerModel" (⟨"PathCheckerModel", "linked", "()Z"⟩ : MethodName) (⟨"PathCheckerModel", "linked", "()Z"⟩ : MethodName) ∈ zwd := qw_of 55 (by decide +kernel) (by decide +kernel)
theorem qs_56 : Cond.selects "PathCheckerModel" (⟨"PathCheckerModel", "holds", "(I)Z"⟩ : MethodName) (⟨"PathCheckerModel", "holds", "(I)Z"⟩ : MethodName) ∈ zwd := qw_of 56 (by decide +kernel) (by decide +kernel)
theorem qs_57 : Cond.selects "PathCheckerModel" (⟨"PathCheckerModel", "advance", "()Z"⟩ : MethodName) (⟨"PathCheckerModel", "advance", "()Z"⟩ : MethodName) ∈ zwd := qw_of 57 (by decide +kernel) (by decide +kernel)
def zNst : List Cond := [(Jvm.Cond.methodLinkNest "PathChecker" (15 : Nat) ({ cls := "PathChecker$Reader", name := "<init>", desc := "()V" } : Jvm.MethodName) "PathChecker"),
  (Jvm.Cond.fieldLinkNest "PathChecker$NormalForm" (58 : Nat) "PathChecker$Reader" "signs" "[C" "PathChecker"),
  (Jvm.Cond.fieldLinkNest "PathChecker$NormalForm" (64 : Nat) "PathChecker$Reader" "firsts" "[I" "PathChecker"),
  (Jvm.Cond.fieldLinkNest "PathChecker$NormalForm" (63 : Nat) "PathChecker$Reader" "seconds" "[I" "PathChecker"),
  (Jvm.Cond.fieldLinkNest "PathChecker$NormalForm" (49 : Nat) "PathChecker$Reader" "parts" "I" "PathChecker"),
  (Jvm.Cond.fieldLinkNest "PathChecker" (78 : Nat) "PathChecker$Reader" "timed" "I" "PathChecker"),
  (Jvm.Cond.fieldLinkNest "PathChecker$Search" (46 : Nat) "PathChecker$Path" "states" "[I" "PathChecker"),
  (Jvm.Cond.fieldLinkNest "PathChecker" (153 : Nat) "PathChecker$Path" "states" "[I" "PathChecker"),
  (Jvm.Cond.fieldLinkNest "PathChecker$Search" (43 : Nat) "PathChecker$Path" "count" "I" "PathChecker"),
  (Jvm.Cond.fieldLinkNest "PathChecker" (147 : Nat) "PathChecker$Path" "count" "I" "PathChecker"),
  (Jvm.Cond.methodLinkNest "PathChecker" (31 : Nat) ({ cls := "PathChecker$Search", name := "<init>", desc := "()V" } : Jvm.MethodName) "PathChecker"),
  (Jvm.Cond.methodLinkNest "PathChecker$Search" (11 : Nat) ({ cls := "PathChecker$Nearness", name := "<init>", desc := "()V" } : Jvm.MethodName) "PathChecker"),
  (Jvm.Cond.methodLinkNest "PathChecker$Nearness" (11 : Nat) ({ cls := "PathChecker$Knots", name := "<init>", desc := "()V" } : Jvm.MethodName) "PathChecker"),
  (Jvm.Cond.methodLinkNest "PathChecker$Knots" (11 : Nat) ({ cls := "PathChecker$Graph", name := "<init>", desc := "()V" } : Jvm.MethodName) "PathChecker"),
  (Jvm.Cond.methodLinkNest "PathChecker$Graph" (11 : Nat) ({ cls := "PathChecker$NormalForm", name := "<init>", desc := "()V" } : Jvm.MethodName) "PathChecker"),
  (Jvm.Cond.fieldLinkNest "PathChecker$Graph" (86 : Nat) "PathChecker$NormalForm" "signs" "[C" "PathChecker"),
  (Jvm.Cond.fieldLinkNest "PathChecker$Path" (33 : Nat) "PathChecker$NormalForm" "signs" "[C" "PathChecker"),
  (Jvm.Cond.fieldLinkNest "PathChecker" (105 : Nat) "PathChecker$NormalForm" "signs" "[C" "PathChecker"),
  (Jvm.Cond.fieldLinkNest "PathChecker$Graph" (66 : Nat) "PathChecker$NormalForm" "size" "I" "PathChecker"),
  (Jvm.Cond.fieldLinkNest "PathChecker$Path" (28 : Nat) "PathChecker$NormalForm" "size" "I" "PathChecker"),
  (Jvm.Cond.fieldLinkNest "PathChecker" (102 : Nat) "PathChecker$NormalForm" "size" "I" "PathChecker"),
  (Jvm.Cond.fieldLinkNest "PathChecker$Path" (37 : Nat) "PathChecker$NormalForm" "seconds" "[I" "PathChecker"),
  (Jvm.Cond.fieldLinkNest "PathChecker$Graph" (90 : Nat) "PathChecker$NormalForm" "seconds" "[I" "PathChecker"),
  (Jvm.Cond.fieldLinkNest "PathChecker$Graph" (41 : Nat) "PathChecker$NormalForm" "timed" "I" "PathChecker"),
  (Jvm.Cond.fieldLinkNest "PathChecker" (94 : Nat) "PathChecker$NormalForm" "timed" "I" "PathChecker"),
  (Jvm.Cond.fieldLinkNest "PathChecker$Knots" (105 : Nat) "PathChecker$NormalForm" "timed" "I" "PathChecker"),
  (Jvm.Cond.fieldLinkNest "PathChecker$Graph" (79 : Nat) "PathChecker$NormalForm" "timedParts" "[I" "PathChecker"),
  (Jvm.Cond.fieldLinkNest "PathChecker$Graph" (69 : Nat) "PathChecker$NormalForm" "timedNumbers" "[I" "PathChecker"),
  (Jvm.Cond.methodLinkNest "PathChecker$Graph" (20 : Nat) ({ cls := "PathChecker$Structure", name := "<init>", desc := "()V" } : Jvm.MethodName) "PathChecker"),
  (Jvm.Cond.fieldLinkNest "PathChecker$Graph" (63 : Nat) "PathChecker$Structure" "marks" "[I" "PathChecker"),
  (Jvm.Cond.fieldLinkNest "PathChecker" (112 : Nat) "PathChecker$Structure" "marks" "[I" "PathChecker"),
  (Jvm.Cond.fieldLinkNest "PathChecker$Path" (55 : Nat) "PathChecker$Structure" "marks" "[I" "PathChecker"),
  (Jvm.Cond.fieldLinkNest "PathChecker" (122 : Nat) "PathChecker$Structure" "links" "[I" "PathChecker"),
  (Jvm.Cond.fieldLinkNest "PathChecker" (55 : Nat) "PathChecker$Graph" "form" "LPathChecker$NormalForm;" "PathChecker"),
  (Jvm.Cond.fieldLinkNest "PathChecker$Search" (81 : Nat) "PathChecker$Graph" "form" "LPathChecker$NormalForm;" "PathChecker"),
  (Jvm.Cond.fieldLinkNest "PathChecker$Knots" (101 : Nat) "PathChecker$Graph" "form" "LPathChecker$NormalForm;" "PathChecker"),
  (Jvm.Cond.fieldLinkNest "PathChecker" (62 : Nat) "PathChecker$Graph" "structure" "LPathChecker$Structure;" "PathChecker"),
  (Jvm.Cond.fieldLinkNest "PathChecker$Nearness" (41 : Nat) "PathChecker$Graph" "structure" "LPathChecker$Structure;" "PathChecker"),
  (Jvm.Cond.fieldLinkNest "PathChecker$Search" (64 : Nat) "PathChecker$Graph" "structure" "LPathChecker$Structure;" "PathChecker"),
  (Jvm.Cond.fieldLinkNest "PathChecker$Knots" (79 : Nat) "PathChecker$Graph" "structure" "LPathChecker$Structure;" "PathChecker"),
  (Jvm.Cond.fieldLinkNest "PathChecker$Knots" (47 : Nat) "PathChecker$Graph" "guesses" "I" "PathChecker"),
  (Jvm.Cond.fieldLinkNest "PathChecker$Search" (53 : Nat) "PathChecker$Graph" "holding" "[I" "PathChecker"),
  (Jvm.Cond.fieldLinkNest "PathChecker$Nearness" (57 : Nat) "PathChecker$Graph" "holding" "[I" "PathChecker"),
  (Jvm.Cond.fieldLinkNest "PathChecker$Knots" (110 : Nat) "PathChecker$Graph" "prompt" "[I" "PathChecker"),
  (Jvm.Cond.fieldLinkNest "PathChecker$Nearness" (18 : Nat) "PathChecker$Knots" "graph" "LPathChecker$Graph;" "PathChecker"),
  (Jvm.Cond.fieldLinkNest "PathChecker" (48 : Nat) "PathChecker$Knots" "graph" "LPathChecker$Graph;" "PathChecker"),
  (Jvm.Cond.fieldLinkNest "PathChecker$Nearness" (30 : Nat) "PathChecker$Knots" "guesses" "[I" "PathChecker"),
  (Jvm.Cond.fieldLinkNest "PathChecker" (41 : Nat) "PathChecker$Nearness" "knots" "LPathChecker$Knots;" "PathChecker"),
  (Jvm.Cond.fieldLinkNest "PathChecker$Search" (18 : Nat) "PathChecker$Nearness" "graph" "LPathChecker$Graph;" "PathChecker"),
  (Jvm.Cond.fieldLinkNest "PathChecker" (36 : Nat) "PathChecker$Search" "nearness" "LPathChecker$Nearness;" "PathChecker"),
  (Jvm.Cond.fieldLinkNest "PathChecker" (144 : Nat) "PathChecker$Search" "lasso" "LPathChecker$Path;" "PathChecker"),
  (Jvm.Cond.fieldLinkNest "PathChecker" (141 : Nat) "PathChecker$Search" "loop" "I" "PathChecker"),
  (Jvm.Cond.castable "java/lang/IllegalArgumentException" "java/lang/IllegalArgumentException"),
  (Jvm.Cond.declares ({ cls := "java/lang/RuntimeException", name := "<init>", desc := "()V" } : Jvm.MethodName)),
  (Jvm.Cond.declares ({ cls := "java/lang/RuntimeException", name := "<init>", desc := "(Ljava/lang/String;)V" } : Jvm.MethodName)),
  (Jvm.Cond.declares ({ cls := "java/lang/Exception", name := "<init>", desc := "()V" } : Jvm.MethodName)),
  (Jvm.Cond.declares ({ cls := "java/lang/Exception", name := "<init>", desc := "(Ljava/lang/String;)V" } : Jvm.MethodName)),
  (Jvm.Cond.declares ({ cls := "java/lang/Throwable", name := "<init>", desc := "()V" } : Jvm.MethodName)),
  (Jvm.Cond.declares ({ cls := "java/lang/Throwable", name := "<init>", desc := "(Ljava/lang/String;)V" } : Jvm.MethodName)),
  (Jvm.Cond.castable "java/lang/UnsupportedOperationException" "java/lang/UnsupportedOperationException"),
  (Jvm.Cond.methodLinkNest "PathChecker$NormalForm" (82 : Nat) ({ cls := "PathChecker$Reader", name := "isTimed", desc := "(C)Z" } : Jvm.MethodName) "PathChecker"),
  (Jvm.Cond.castable "java/lang/IllegalStateException" "java/lang/IllegalStateException"),
  (Jvm.Cond.castable "java/lang/IndexOutOfBoundsException" "java/lang/IndexOutOfBoundsException"),
  (Jvm.Cond.fieldLinkNest "PathChecker$Graph" (76 : Nat) "PathChecker" "GUESSES_WITH" "[I" "PathChecker")]
def zNk : Cond → Bool
  | .fieldLinkNest .. => true
  | .methodLinkNest .. => true
  | .declares .. => true
  | .castable .. => true
  | _ => false
theorem zNst_is : ∀ w ∈ zNst, zNk w = true := by decide +kernel
theorem zNst_in : ∀ w ∈ zNst, w ∈ lw_tbl := by
  have h : zNst.all (fun w => decide (w ∈ lw_tbl)) = true := by decide +kernel
  exact fun w hw => of_decide_eq_true (List.all_eq_true.mp h w hw)
theorem zn_34 : (Jvm.Cond.fieldLinkNest "PathChecker$NormalForm" (58 : Nat) "PathChecker$Reader" "signs" "[C" "PathChecker") ∈ zNst := List.mem_of_getElem? (i := 1) (by decide +kernel)
theorem zn_36 : (Jvm.Cond.fieldLinkNest "PathChecker$NormalForm" (64 : Nat) "PathChecker$Reader" "firsts" "[I" "PathChecker") ∈ zNst := List.mem_of_getElem? (i := 2) (by decide +kernel)
theorem zn_38 : (Jvm.Cond.fieldLinkNest "PathChecker$NormalForm" (63 : Nat) "PathChecker$Reader" "seconds" "[I" "PathChecker") ∈ zNst := List.mem_of_getElem? (i := 3) (by decide +kernel)
theorem zn_40 : (Jvm.Cond.fieldLinkNest "PathChecker$NormalForm" (49 : Nat) "PathChecker$Reader" "parts" "I" "PathChecker") ∈ zNst := List.mem_of_getElem? (i := 4) (by decide +kernel)
theorem zn_42 : (Jvm.Cond.fieldLinkNest "PathChecker" (78 : Nat) "PathChecker$Reader" "timed" "I" "PathChecker") ∈ zNst := List.mem_of_getElem? (i := 5) (by decide +kernel)
theorem zn_81 : (Jvm.Cond.fieldLinkNest "PathChecker$Search" (46 : Nat) "PathChecker$Path" "states" "[I" "PathChecker") ∈ zNst := List.mem_of_getElem? (i := 6) (by decide +kernel)
theorem zn_82 : (Jvm.Cond.fieldLinkNest "PathChecker" (153 : Nat) "PathChecker$Path" "states" "[I" "PathChecker") ∈ zNst := List.mem_of_getElem? (i := 7) (by decide +kernel)
theorem zn_84 : (Jvm.Cond.fieldLinkNest "PathChecker$Search" (43 : Nat) "PathChecker$Path" "count" "I" "PathChecker") ∈ zNst := List.mem_of_getElem? (i := 8) (by decide +kernel)
theorem zn_85 : (Jvm.Cond.fieldLinkNest "PathChecker" (147 : Nat) "PathChecker$Path" "count" "I" "PathChecker") ∈ zNst := List.mem_of_getElem? (i := 9) (by decide +kernel)
theorem zn_125 : (Jvm.Cond.fieldLinkNest "PathChecker$Graph" (86 : Nat) "PathChecker$NormalForm" "signs" "[C" "PathChecker") ∈ zNst := List.mem_of_getElem? (i := 15) (by decide +kernel)
theorem zn_126 : (Jvm.Cond.fieldLinkNest "PathChecker$Path" (33 : Nat) "PathChecker$NormalForm" "signs" "[C" "PathChecker") ∈ zNst := List.mem_of_getElem? (i := 16) (by decide +kernel)
theorem zn_127 : (Jvm.Cond.fieldLinkNest "PathChecker" (105 : Nat) "PathChecker$NormalForm" "signs" "[C" "PathChecker") ∈ zNst := List.mem_of_getElem? (i := 17) (by decide +kernel)
theorem zn_129 : (Jvm.Cond.fieldLinkNest "PathChecker$Graph" (66 : Nat) "PathChecker$NormalForm" "size" "I" "PathChecker") ∈ zNst := List.mem_of_getElem? (i := 18) (by decide +kernel)
theorem zn_130 : (Jvm.Cond.fieldLinkNest "PathChecker$Path" (28 : Nat) "PathChecker$NormalForm" "size" "I" "PathChecker") ∈ zNst := List.mem_of_getElem? (i := 19) (by decide +kernel)
theorem zn_131 : (Jvm.Cond.fieldLinkNest "PathChecker" (102 : Nat) "PathChecker$NormalForm" "size" "I" "PathChecker") ∈ zNst := List.mem_of_getElem? (i := 20) (by decide +kernel)
theorem zn_133 : (Jvm.Cond.fieldLinkNest "PathChecker$Path" (37 : Nat) "PathChecker$NormalForm" "seconds" "[I" "PathChecker") ∈ zNst := List.mem_of_getElem? (i := 21) (by decide +kernel)
theorem zn_134 : (Jvm.Cond.fieldLinkNest "PathChecker$Graph" (90 : Nat) "PathChecker$NormalForm" "seconds" "[I" "PathChecker") ∈ zNst := List.mem_of_getElem? (i := 22) (by decide +kernel)
theorem zn_136 : (Jvm.Cond.fieldLinkNest "PathChecker$Graph" (41 : Nat) "PathChecker$NormalForm" "timed" "I" "PathChecker") ∈ zNst := List.mem_of_getElem? (i := 23) (by decide +kernel)
theorem zn_137 : (Jvm.Cond.fieldLinkNest "PathChecker" (94 : Nat) "PathChecker$NormalForm" "timed" "I" "PathChecker") ∈ zNst := List.mem_of_getElem? (i := 24) (by decide +kernel)
theorem zn_139 : (Jvm.Cond.fieldLinkNest "PathChecker$Knots" (105 : Nat) "PathChecker$NormalForm" "timed" "I" "PathChecker") ∈ zNst := List.mem_of_getElem? (i := 25) (by decide +kernel)
theorem zn_141 : (Jvm.Cond.fieldLinkNest "PathChecker$Graph" (79 : Nat) "PathChecker$NormalForm" "timedParts" "[I" "PathChecker") ∈ zNst := List.mem_of_getElem? (i := 26) (by decide +kernel)
theorem zn_143 : (Jvm.Cond.fieldLinkNest "PathChecker$Graph" (69 : Nat) "PathChecker$NormalForm" "timedNumbers" "[I" "PathChecker") ∈ zNst := List.mem_of_getElem? (i := 27) (by decide +kernel)
theorem zn_176 : (Jvm.Cond.fieldLinkNest "PathChecker$Graph" (63 : Nat) "PathChecker$Structure" "marks" "[I" "PathChecker") ∈ zNst := List.mem_of_getElem? (i := 29) (by decide +kernel)
theorem zn_177 : (Jvm.Cond.fieldLinkNest "PathChecker" (112 : Nat) "PathChecker$Structure" "marks" "[I" "PathChecker") ∈ zNst := List.mem_of_getElem? (i := 30) (by decide +kernel)
theorem zn_178 : (Jvm.Cond.fieldLinkNest "PathChecker$Path" (55 : Nat) "PathChecker$Structure" "marks" "[I" "PathChecker") ∈ zNst := List.mem_of_getElem? (i := 31) (by decide +kernel)
theorem zn_180 : (Jvm.Cond.fieldLinkNest "PathChecker" (122 : Nat) "PathChecker$Structure" "links" "[I" "PathChecker") ∈ zNst := List.mem_of_getElem? (i := 32) (by decide +kernel)
theorem zn_187 : (Jvm.Cond.fieldLinkNest "PathChecker" (55 : Nat) "PathChecker$Graph" "form" "LPathChecker$NormalForm;" "PathChecker") ∈ zNst := List.mem_of_getElem? (i := 33) (by decide +kernel)
theorem zn_188 : (Jvm.Cond.fieldLinkNest "PathChecker$Search" (81 : Nat) "PathChecker$Graph" "form" "LPathChecker$NormalForm;" "PathChecker") ∈ zNst := List.mem_of_getElem? (i := 34) (by decide +kernel)
theorem zn_189 : (Jvm.Cond.fieldLinkNest "PathChecker$Knots" (101 : Nat) "PathChecker$Graph" "form" "LPathChecker$NormalForm;" "PathChecker") ∈ zNst := List.mem_of_getElem? (i := 35) (by decide +kernel)
theorem zn_191 : (Jvm.Cond.fieldLinkNest "PathChecker" (62 : Nat) "PathChecker$Graph" "structure" "LPathChecker$Structure;" "PathChecker") ∈ zNst := List.mem_of_getElem? (i := 36) (by decide +kernel)
theorem zn_192 : (Jvm.Cond.fieldLinkNest "PathChecker$Nearness" (41 : Nat) "PathChecker$Graph" "structure" "LPathChecker$Structure;" "PathChecker") ∈ zNst := List.mem_of_getElem? (i := 37) (by decide +kernel)
theorem zn_193 : (Jvm.Cond.fieldLinkNest "PathChecker$Search" (64 : Nat) "PathChecker$Graph" "structure" "LPathChecker$Structure;" "PathChecker") ∈ zNst := List.mem_of_getElem? (i := 38) (by decide +kernel)
theorem zn_194 : (Jvm.Cond.fieldLinkNest "PathChecker$Knots" (79 : Nat) "PathChecker$Graph" "structure" "LPathChecker$Structure;" "PathChecker") ∈ zNst := List.mem_of_getElem? (i := 39) (by decide +kernel)
theorem zn_196 : (Jvm.Cond.fieldLinkNest "PathChecker$Knots" (47 : Nat) "PathChecker$Graph" "guesses" "I" "PathChecker") ∈ zNst := List.mem_of_getElem? (i := 40) (by decide +kernel)
theorem zn_201 : (Jvm.Cond.fieldLinkNest "PathChecker$Search" (53 : Nat) "PathChecker$Graph" "holding" "[I" "PathChecker") ∈ zNst := List.mem_of_getElem? (i := 41) (by decide +kernel)
theorem zn_202 : (Jvm.Cond.fieldLinkNest "PathChecker$Nearness" (57 : Nat) "PathChecker$Graph" "holding" "[I" "PathChecker") ∈ zNst := List.mem_of_getElem? (i := 42) (by decide +kernel)
theorem zn_204 : (Jvm.Cond.fieldLinkNest "PathChecker$Knots" (110 : Nat) "PathChecker$Graph" "prompt" "[I" "PathChecker") ∈ zNst := List.mem_of_getElem? (i := 43) (by decide +kernel)
theorem zn_223 : (Jvm.Cond.fieldLinkNest "PathChecker$Nearness" (18 : Nat) "PathChecker$Knots" "graph" "LPathChecker$Graph;" "PathChecker") ∈ zNst := List.mem_of_getElem? (i := 44) (by decide +kernel)
theorem zn_224 : (Jvm.Cond.fieldLinkNest "PathChecker" (48 : Nat) "PathChecker$Knots" "graph" "LPathChecker$Graph;" "PathChecker") ∈ zNst := List.mem_of_getElem? (i := 45) (by decide +kernel)
theorem zn_226 : (Jvm.Cond.fieldLinkNest "PathChecker$Nearness" (30 : Nat) "PathChecker$Knots" "guesses" "[I" "PathChecker") ∈ zNst := List.mem_of_getElem? (i := 46) (by decide +kernel)
theorem zn_263 : (Jvm.Cond.fieldLinkNest "PathChecker" (41 : Nat) "PathChecker$Nearness" "knots" "LPathChecker$Knots;" "PathChecker") ∈ zNst := List.mem_of_getElem? (i := 47) (by decide +kernel)
theorem zn_264 : (Jvm.Cond.fieldLinkNest "PathChecker$Search" (18 : Nat) "PathChecker$Nearness" "graph" "LPathChecker$Graph;" "PathChecker") ∈ zNst := List.mem_of_getElem? (i := 48) (by decide +kernel)
theorem zn_280 : (Jvm.Cond.fieldLinkNest "PathChecker" (36 : Nat) "PathChecker$Search" "nearness" "LPathChecker$Nearness;" "PathChecker") ∈ zNst := List.mem_of_getElem? (i := 49) (by decide +kernel)
theorem zn_283 : (Jvm.Cond.fieldLinkNest "PathChecker" (144 : Nat) "PathChecker$Search" "lasso" "LPathChecker$Path;" "PathChecker") ∈ zNst := List.mem_of_getElem? (i := 50) (by decide +kernel)
theorem zn_287 : (Jvm.Cond.fieldLinkNest "PathChecker" (141 : Nat) "PathChecker$Search" "loop" "I" "PathChecker") ∈ zNst := List.mem_of_getElem? (i := 51) (by decide +kernel)
theorem zn_547 : (Jvm.Cond.methodLinkNest "PathChecker$NormalForm" (82 : Nat) ({ cls := "PathChecker$Reader", name := "isTimed", desc := "(C)Z" } : Jvm.MethodName) "PathChecker") ∈ zNst := List.mem_of_getElem? (i := 60) (by decide +kernel)
theorem zn_617 : (Jvm.Cond.fieldLinkNest "PathChecker$Graph" (76 : Nat) "PathChecker" "GUESSES_WITH" "[I" "PathChecker") ∈ zNst := List.mem_of_getElem? (i := 63) (by decide +kernel)
abbrev zH : Type := (Nat × Nat) ⊕ (Nat × List (Option Nat))
def zN : Nat := 74
def zshL : List zH := [
  .inr (0, [some 1, none, some 2, some 8, some 11, some 16, some 19, some 28, some 34, some 42, none]),
  .inl (1, 32),
  .inr (6, [some 3, some 4, some 5, none, none, some 6, none, some 7, none, none, none]),
  .inl (1, 32),
  .inl (0, 32),
  .inl (0, 32),
  .inl (1, 32),
  .inl (0, 32),
  .inr (5, [some 9, none, some 10]),
  .inl (0, 8),
  .inl (0, 37),
  .inr (7, [some 16, some 28, some 13, some 12, none, none]),
  .inl (0, 6),
  .inr (5, [some 14, none, some 15]),
  .inl (0, 6),
  .inl (0, 37),
  .inr (3, [some 19, some 28, some 17, some 18]),
  .inl (0, 36),
  .inl (0, 6),
  .inr (2, [some 28, some 20, some 21, none, some 22, some 23, some 24, none, some 25, none, some 26, some 27]),
  .inl (0, 6),
  .inl (0, 192),
  .inl (0, 192),
  .inl (0, 192),
  .inl (0, 192),
  .inl (0, 192),
  .inl (2, 192),
  .inl (0, 6),
  .inr (1, [some 34, some 42, none, some 29, some 30, some 31, some 32, some 33]),
  .inl (0, 37),
  .inl (0, 37),
  .inl (0, 1152),
  .inl (0, 6),
  .inl (0, 30),
  .inr (4, [some 35, none, some 36, some 37, none, some 38, some 39, some 40, some 41, none]),
  .inl (1, 37),
  .inl (0, 37),
  .inl (0, 37),
  .inl (0, 5),
  .inl (0, 37),
  .inl (0, 32),
  .inl (2, 32),
  .inr (8, [some 43, some 44]),
  .inl (0, 6),
  .inl (0, 6),
  .inr (9, [none, none, some 46, none, none, some 47, some 48, some 49, some 50, none, none, some 51, some 52, some 53, none, some 54, none, some 55, none, none, some 56, some 57, some 58, none, some 59, none, some 60, some 61, some 62, some 63, some 64, some 65, some 66, some 67, none, none, some 68, some 69, some 70, some 71, some 72]),
  .inl (0, 32),
  .inl (0, 40),
  .inl (0, 40),
  .inl (0, 40),
  .inl (0, 40),
  .inl (0, 40),
  .inl (0, 40),
  .inl (0, 40),
  .inl (0, 40),
  .inl (0, 40),
  .inl (0, 100),
  .inl (0, 6),
  .inl (2, 36),
  .inl (0, 8),
  .inl (0, 2304),
  .inl (2, 384),
  .inl (2, 40),
  .inl (3, 6),
  .inl (3, 6),
  .inl (3, 6),
  .inl (3, 6),
  .inl (3, 36),
  .inl (0, 8),
  .inl (2, 320),
  .inl (0, 6),
  .inl (0, 6),
  .inl (0, 36),
  .inl (3, 1)]
def zsh (o : Nat) : zH := zshL.getD o (.inl (0, 0))
-- 0 pc
-- 1 pc.text
-- 2 reader
-- 3 reader.signs
-- 4 reader.firsts
-- 5 reader.seconds
-- 6 reader.waiting
-- 7 reader.ready
-- 8 row
-- 9 row.states
-- 10 row.holds
-- 11 search
-- 12 search.open
-- 13 lasso
-- 14 lasso.states
-- 15 lasso.holds
-- 16 nearness
-- 17 nearness.near
-- 18 nearness.reaching
-- 19 knots
-- 20 knots.guesses
-- 21 knots.numbers
-- 22 knots.lows
-- 23 knots.tried
-- 24 knots.walk
-- 25 knots.held
-- 26 knots.isHeld
-- 27 knots.members
-- 28 graph
-- 29 graph.here
-- 30 graph.before
-- 31 graph.guessBefore
-- 32 graph.holding
-- 33 graph.prompt
-- 34 form
-- 35 form.signs
-- 36 form.seconds
-- 37 form.ends
-- 38 form.timedParts
-- 39 form.timedNumbers
-- 40 form.todo
-- 41 form.todoNegated
-- 42 structure
-- 43 structure.marks
-- 44 structure.links
-- 45 mo
-- 46 mo.text
-- 47 mo.kind
-- 48 mo.left
-- 49 mo.right
-- 50 mo.bitOf
-- 51 mo.newKind
-- 52 mo.newLeft
-- 53 mo.newRight
-- 54 mo.operand
-- 55 mo.operator
-- 56 mo.normalForm
-- 57 mo.marks
-- 58 mo.links
-- 59 mo.row
-- 60 mo.before
-- 61 mo.top
-- 62 mo.value
-- 63 mo.fair
-- 64 mo.good
-- 65 mo.reach
-- 66 mo.back
-- 67 mo.goal
-- 68 mo.lasso
-- 69 mo.at
-- 70 mo.foundSize
-- 71 mo.foundTurn
-- 72 mo.found
-- 73 out
def zgi : Nat → Int32 := fun j => match j with
  | 0 => -1431655766
  | 1 => -858993460
  | 2 => -252645136
  | 3 => -16711936
  | _ => -65536
def zgw (j : Nat) : Value := .int (zgi j)
end
section
/-! THE SMALL MACHINE: the world is a fixed list of cells (zsh says their shapes); what changes are numbers: zS -/
/-- the numbers of the world: slots and elements of int kind, elements of long kind; by place and index -/
abbrev zS : Type := (Nat → Nat → Int32) × (Nat → Nat → Int64)
def zwA (σ : zS) (o j : Nat) (x : Int32) : zS := (va_up σ.1 o (upd (σ.1 o) j x), σ.2)
def zwL (σ : zS) (o j : Nat) (x : Int64) : zS := (σ.1, va_up σ.2 o (vp_updL (σ.2 o) j x))
theorem zwA_1 (σ : zS) (o j : Nat) (x : Int32) (o2 j2 : Nat) : (zwA σ o j x).1 o2 j2 = if o2 = o then (if j2 = j then x else σ.1 o2 j2) else σ.1 o2 j2 := by
  by_cases h : o2 = o
  · subst h
    simp [zwA, va_up, upd]
  · simp [zwA, va_up, h]
theorem zwA_2 (σ : zS) (o j : Nat) (x : Int32) : (zwA σ o j x).2 = σ.2 := rfl
theorem zwL_1 (σ : zS) (o j : Nat) (x : Int64) : (zwL σ o j x).1 = σ.1 := rfl
theorem zwL_2 (σ : zS) (o j : Nat) (x : Int64) (o2 j2 : Nat) : (zwL σ o j x).2 o2 j2 = if o2 = o then (if j2 = j then x else σ.2 o2 j2) else σ.2 o2 j2 := by
  by_cases h : o2 = o
  · subst h
    simp [zwL, va_up, vp_updL]
  · simp [zwL, va_up, h]
/-- a value of the machine: its references are places -/
def zv (ad : Nat → Nat) (v : Value) : Value := match v with
  | .ref o => .ref (ad o)
  | w => w
theorem zv_cat (ad : Nat → Nat) (v : Value) : (zv ad v).category = v.category := by cases v <;> rfl
def zfs (ad : Nat → Nat) (f : Nat → Int32) : Nat → List (Option Nat) → List Value
  | _, [] => []
  | j, none :: t => .int (f j) :: zfs ad f (j + 1) t
  | j, some o :: t => .ref (ad o) :: zfs ad f (j + 1) t
theorem zfs_len (ad : Nat → Nat) (f : Nat → Int32) : ∀ (rs : List (Option Nat)) (j : Nat), (zfs ad f j rs).length = rs.length
  | [], _ => rfl
  | none :: t, j => by simp [zfs, zfs_len ad f t (j + 1)]
  | some o :: t, j => by simp [zfs, zfs_len ad f t (j + 1)]
theorem zfs_int' (ad : Nat → Nat) (f : Nat → Int32) : ∀ (rs : List (Option Nat)) (j k : Nat), rs[k]? = some none → (zfs ad f j rs)[k]? = some (.int (f (j + k)))
  | [], _, _, h => by simp at h
  | none :: t, j, 0, _ => rfl
  | some o :: t, j, 0, h => by simp at h
  | none :: t, j, k + 1, h => by
    have h1 := zfs_int' ad f t (j + 1) k (by simpa using h)
    rw [show j + (k + 1) = j + 1 + k by omega]
    simpa [zfs] using h1
  | some o :: t, j, k + 1, h => by
    have h1 := zfs_int' ad f t (j + 1) k (by simpa using h)
    rw [show j + (k + 1) = j + 1 + k by omega]
    simpa [zfs] using h1
theorem zfs_ref' (ad : Nat → Nat) (f : Nat → Int32) : ∀ (rs : List (Option Nat)) (j k o : Nat), rs[k]? = some (some o) → (zfs ad f j rs)[k]? = some (.ref (ad o))
  | [], _, _, _, h => by simp at h
  | none :: t, j, 0, _, h => by simp at h
  | some o2 :: t, j, 0, o, h => by
    simp at h
    subst h
    rfl
  | none :: t, j, k + 1, o, h => by
    have h1 := zfs_ref' ad f t (j + 1) k o (by simpa using h)
    simpa [zfs] using h1
  | some o2 :: t, j, k + 1, o, h => by
    have h1 := zfs_ref' ad f t (j + 1) k o (by simpa using h)
    simpa [zfs] using h1
theorem zfs_int {ad : Nat → Nat} {f : Nat → Int32} {rs : List (Option Nat)} {k : Nat} (h : rs[k]? = some none) : (zfs ad f 0 rs)[k]? = some (.int (f k)) := by
  have h1 := zfs_int' ad f rs 0 k h
  rwa [Nat.zero_add] at h1
theorem zfs_ref {ad : Nat → Nat} {f : Nat → Int32} {rs : List (Option Nat)} {k o : Nat} (h : rs[k]? = some (some o)) : (zfs ad f 0 rs)[k]? = some (.ref (ad o)) := zfs_ref' ad f rs 0 k o h
theorem zfs_same (ad : Nat → Nat) (f g : Nat → Int32) : ∀ (rs : List (Option Nat)) (j : Nat), (∀ k, j ≤ k → f k = g k) → zfs ad f j rs = zfs ad g j rs
  | [], _, _ => rfl
  | none :: t, j, h => by rw [zfs, zfs, h j (Nat.le_refl _), zfs_same ad f g t (j + 1) (fun k hk => h k (by omega))]
  | some o :: t, j, h => by rw [zfs, zfs, zfs_same ad f g t (j + 1) (fun k hk => h k (by omega))]
theorem zfs_set' (ad : Nat → Nat) (f : Nat → Int32) (x : Int32) : ∀ (rs : List (Option Nat)) (j k : Nat), rs[k]? = some none → (zfs ad f j rs).set k (.int x) = zfs ad (upd f (j + k) x) j rs
  | [], _, _, h => by simp at h
  | none :: t, j, 0, _ => by
    simp only [zfs, List.set_cons_zero, Nat.add_zero]
    rw [show upd f j x j = x by simp [upd], zfs_same ad f (upd f j x) t (j + 1) (fun k hk => by simp [upd]; omega)]
  | some o :: t, j, 0, h => by simp at h
  | none :: t, j, k + 1, h => by
    have h1 := zfs_set' ad f x t (j + 1) k (by simpa using h)
    simp only [zfs, List.set_cons_succ]
    rw [h1, show j + 1 + k = j + (k + 1) by omega, show upd f (j + (k + 1)) x j = f j by simp [upd]]
  | some o :: t, j, k + 1, h => by
    have h1 := zfs_set' ad f x t (j + 1) k (by simpa using h)
    simp only [zfs, List.set_cons_succ]
    rw [h1, show j + 1 + k = j + (k + 1) by omega]
theorem zfs_set {ad : Nat → Nat} {f : Nat → Int32} {x : Int32} {rs : List (Option Nat)} {k : Nat} (h : rs[k]? = some none) : (zfs ad f 0 rs).set k (.int x) = zfs ad (upd f k x) 0 rs := by
  have h1 := zfs_set' ad f x rs 0 k h
  rwa [Nat.zero_add] at h1
/-- the cells -/
def zcell (ad : Nat → Nat) (ca : Nat → ClassId) (σ : zS) (o : Nat) : va_E := match zsh o with
  | .inl q => if q.1 = 3 then .inl (ca q.1, q.2, .inr (.inl (σ.2 o))) else .inl (ca q.1, q.2, .inl (σ.1 o))
  | .inr q => .inr (q.1, zfs ad (σ.1 o) 0 q.2)
def zws (ad : Nat → Nat) (ca : Nat → ClassId) (σ : zS) : va_W := (List.range zN).map (fun o => (ad o, zcell ad ca σ o))
theorem zcell_ne {ad : Nat → Nat} {ca : Nat → ClassId} {σ σ2 : zS} {o : Nat} (h : σ2.1 o = σ.1 o) (h2 : σ2.2 o = σ.2 o) : zcell ad ca σ2 o = zcell ad ca σ o := by
  unfold zcell
  rw [h, h2]
theorem zws_at {ad : Nat → Nat} {ca : Nat → ClassId} {σ : zS} {o : Nat} (ho : o < zN) : (zws ad ca σ)[o]? = some (ad o, zcell ad ca σ o) := by
  simp [zws, ho]
theorem zws_obj {ad : Nat → Nat} {ca : Nat → ClassId} {σ : zS} {o ci : Nat} {rs : List (Option Nat)} (ho : o < zN) (hs : zsh o = .inr (ci, rs)) : (zws ad ca σ)[o]? = some (ad o, .inr (ci, zfs ad (σ.1 o) 0 rs)) := by
  rw [zws_at ho]
  simp [zcell, hs]
theorem zws_arr {ad : Nat → Nat} {ca : Nat → ClassId} {σ : zS} {o k n : Nat} (ho : o < zN) (hs : zsh o = .inl (k, n)) (hk : k ≠ 3) : (zws ad ca σ)[o]? = some (ad o, .inl (ca k, n, .inl (σ.1 o))) := by
  rw [zws_at ho]
  simp [zcell, hs, hk]
theorem zws_arrL {ad : Nat → Nat} {ca : Nat → ClassId} {σ : zS} {o n : Nat} (ho : o < zN) (hs : zsh o = .inl (3, n)) : (zws ad ca σ)[o]? = some (ad o, .inl (ca 3, n, .inr (.inl (σ.2 o)))) := by
  rw [zws_at ho]
  simp [zcell, hs]
theorem zws_set {ad : Nat → Nat} {ca : Nat → ClassId} {σ σ2 : zS} {o : Nat} {e : va_E} (ho : o < zN) (he : e = zcell ad ca σ2 o) (h : ∀ i, i ≠ o → σ2.1 i = σ.1 i ∧ σ2.2 i = σ.2 i) : (zws ad ca σ).set o (ad o, e) = zws ad ca σ2 := by
  refine List.ext_getElem? (fun i => ?_)
  rw [List.getElem?_set]
  by_cases e1 : o = i
  · subst e1
    rw [if_pos rfl, zws_at ho, if_pos (by simp [zws, ho]), he]
  · rw [if_neg e1]
    by_cases hi : i < zN
    · rw [zws_at hi, zws_at hi, zcell_ne (h i (Ne.symm e1)).1 (h i (Ne.symm e1)).2]
    · rw [List.getElem?_eq_none (by simp [zws]; omega), List.getElem?_eq_none (by simp [zws]; omega)]
theorem zws_setA {ad : Nat → Nat} {ca : Nat → ClassId} {σ : zS} {o k n j : Nat} {x : Int32} (ho : o < zN) (hs : zsh o = .inl (k, n)) (hk : k ≠ 3) : (zws ad ca σ).set o (ad o, .inl (ca k, n, .inl (upd (σ.1 o) j x))) = zws ad ca (zwA σ o j x) :=
  zws_set ho (by simp [zcell, hs, hk, zwA, va_up]) (fun i hi => ⟨by simp [zwA, va_up, hi], rfl⟩)
theorem zws_setL {ad : Nat → Nat} {ca : Nat → ClassId} {σ : zS} {o n j : Nat} {x : Int64} (ho : o < zN) (hs : zsh o = .inl (3, n)) : (zws ad ca σ).set o (ad o, .inl (ca 3, n, .inr (.inl (vp_updL (σ.2 o) j x)))) = zws ad ca (zwL σ o j x) :=
  zws_set ho (by simp [zcell, hs, zwL, va_up]) (fun i hi => ⟨rfl, by simp [zwL, va_up, hi]⟩)
theorem zws_setF {ad : Nat → Nat} {ca : Nat → ClassId} {σ : zS} {o ci j : Nat} {rs : List (Option Nat)} {x : Int32} (ho : o < zN) (hs : zsh o = .inr (ci, rs)) (hj : rs[j]? = some none) : (zws ad ca σ).set o (ad o, .inr (ci, (zfs ad (σ.1 o) 0 rs).set j (.int x))) = zws ad ca (zwA σ o j x) :=
  zws_set ho (by rw [zfs_set hj]; simp [zcell, hs, zwA, va_up]) (fun i hi => ⟨by simp [zwA, va_up, hi], rfl⟩)
/-- the locals: a list by place, 'none' where nothing is known -/
def zLv (ad : Nat → Nat) : Nat → List (Option Value) → List (Nat × Value)
  | _, [] => []
  | i, none :: t => zLv ad (i + 1) t
  | i, some v :: t => (i, zv ad v) :: zLv ad (i + 1) t
def zLok (lv : List (Option Value)) : Nat → Bool
  | 0 => true
  | i + 1 => match lv[i]? with
    | some (some (.long _)) => false
    | some (some (.double _)) => false
    | _ => true
theorem zLv_mem (ad : Nat → Nat) : ∀ (lv : List (Option Value)) (j i : Nat) (v : Value), lv[i]? = some (some v) → (j + i, zv ad v) ∈ zLv ad j lv
  | [], _, _, _, h => by simp at h
  | none :: t, j, 0, v, h => by simp at h
  | some w :: t, j, 0, v, h => by
    simp at h
    subst h
    exact List.mem_cons_self
  | none :: t, j, i + 1, v, h => by
    have h1 := zLv_mem ad t (j + 1) i v (by simpa using h)
    rw [show j + (i + 1) = j + 1 + i by omega]
    exact h1
  | some w :: t, j, i + 1, v, h => by
    have h1 := zLv_mem ad t (j + 1) i v (by simpa using h)
    rw [show j + (i + 1) = j + 1 + i by omega]
    exact List.mem_cons_of_mem _ h1
theorem zLv_of (ad : Nat → Nat) : ∀ (lv : List (Option Value)) (j : Nat) (q : Nat × Value), q ∈ zLv ad j lv → ∃ (i : Nat) (v : Value), q = (j + i, zv ad v) ∧ lv[i]? = some (some v)
  | [], _, _, h => by cases h
  | none :: t, j, q, h => by
    obtain ⟨i, v, h1, h2⟩ := zLv_of ad t (j + 1) q h
    exact ⟨i + 1, v, by rw [h1, show j + (i + 1) = j + 1 + i by omega], by simpa using h2⟩
  | some w :: t, j, q, h => by
    rcases List.mem_cons.mp h with h | h
    · exact ⟨0, w, h, rfl⟩
    · obtain ⟨i, v, h1, h2⟩ := zLv_of ad t (j + 1) q h
      exact ⟨i + 1, v, by rw [h1, show j + (i + 1) = j + 1 + i by omega], by simpa using h2⟩
theorem zLv_at {ls : Array Slot} {nL : Nat} {ad : Nat → Nat} {lv : List (Option Value)} {i : Nat} {v : Value} (h : lv_has ls nL (zLv ad 0 lv)) (hv : lv[i]? = some (some v)) : ls[i]? = some (.val (zv ad v)) := by
  have h1 := h.2.2 _ (zLv_mem ad lv 0 i v hv)
  simpa using h1
theorem zLv_place {ad : Nat → Nat} {lv : List (Option Value)} {i : Nat} {x : Int32} (hv : lv[i]? = some (some (.int x))) : ∃ j : Nat, (zLv ad 0 lv)[j]? = some (i, .int x) := by
  have h1 := zLv_mem ad lv 0 i _ hv
  obtain ⟨j, hj⟩ := List.getElem?_of_mem h1
  exact ⟨j, by rw [hj]; simp [zv]⟩
theorem zLok_cat {ad : Nat → Nat} {lv : List (Option Value)} {i : Nat} {v : Value} (ho : zLok lv (i + 1) = true) (hv : lv[i]? = some (some v)) : ((zv ad v).category == 2) = false := by
  cases v <;> simp_all [zLok, zv, Value.category]
theorem zLv_set1 {ls : Array Slot} {nL : Nat} {ad : Nat → Nat} {lv : List (Option Value)} {i : Nat} {v : Value} (h : lv_has ls nL ((i, zv ad v) :: (zLv ad 0 lv).filter (fun q => !(q.1 == i) && !(q.1 + 1 == i && q.2.category == 2)))) (ho : zLok lv i = true) : lv_has ls nL (zLv ad 0 (lv.set i (some v))) := by
  refine ⟨h.1, h.2.1, fun q hq => ?_⟩
  obtain ⟨j, w, rfl, hw⟩ := zLv_of ad _ _ _ hq
  apply h.2.2
  rw [List.getElem?_set] at hw
  by_cases e : i = j
  · subst e
    rw [if_pos rfl] at hw
    split at hw
    · cases hw
      simp
    · cases hw
  · rw [if_neg e] at hw
    refine List.mem_cons_of_mem _ (List.mem_filter.mpr ⟨zLv_mem ad _ 0 _ _ hw, ?_⟩)
    have h1 : (0 + j == i) = false := by simp; omega
    by_cases e2 : j + 1 = i
    · subst e2
      rw [h1, zLok_cat (ad := ad) ho hw, Bool.and_false]
      rfl
    · have h2 : (0 + j + 1 == i) = false := by simp; omega
      rw [h1, h2]
      rfl
theorem zLv_set2 {ls : Array Slot} {nL : Nat} {ad : Nat → Nat} {lv : List (Option Value)} {i : Nat} {x : Int64} (h : lv_has ls nL ((i, .long x) :: (zLv ad 0 lv).filter (fun q => !(q.1 == i) && (!(q.1 == i + 1) && !(q.1 + 1 == i && q.2.category == 2))))) (ho : zLok lv i = true) : lv_has ls nL (zLv ad 0 ((lv.set i (some (.long x))).set (i + 1) none)) := by
  refine ⟨h.1, h.2.1, fun q hq => ?_⟩
  obtain ⟨j, w, rfl, hw⟩ := zLv_of ad _ _ _ hq
  apply h.2.2
  rw [List.getElem?_set] at hw
  by_cases e0 : i + 1 = j
  · rw [if_pos e0] at hw
    split at hw
    · cases hw
    · cases hw
  · rw [if_neg e0, List.getElem?_set] at hw
    by_cases e : i = j
    · subst e
      rw [if_pos rfl] at hw
      split at hw
      · cases hw
        simp [zv]
      · cases hw
    · rw [if_neg e] at hw
      refine List.mem_cons_of_mem _ (List.mem_filter.mpr ⟨zLv_mem ad _ 0 _ _ hw, ?_⟩)
      have h1 : (0 + j == i) = false := by simp; omega
      have h3 : (0 + j == i + 1) = false := by simp; omega
      by_cases e2 : j + 1 = i
      · subst e2
        rw [h1, h3, zLok_cat (ad := ad) ho hw, Bool.and_false]
        rfl
      · have h2 : (0 + j + 1 == i) = false := by simp; omega
        rw [h1, h2, h3]
        rfl
end
section
/-! A method's invocation, seen by the small machine -/
def zxc (x : Nat) : String := match x with
  | 0 => "java/lang/IllegalArgumentException"
  | 1 => "java/lang/UnsupportedOperationException"
  | 2 => "java/lang/IllegalStateException"
  | _ => "java/lang/IndexOutOfBoundsException"
abbrev zrm (fr lo mc : Nat) : Room := { frames := fr, cells := mc, slots := 6 * mc, locals := lo }
def ztys (ca : Nat → ClassId) : List (ClassId × FieldType) := [(ca 0, .int), (ca 1, .char), (ca 2, .boolean), (ca 3, .long)]
/-- pairs of exceptions of which the first is none of the second -/
def zNc : List (String × String) := [(zxc 1, zxc 0), (zxc 3, zxc 2), (zxc 1, zxc 2), (zxc 1, zxc 3)]
/-- a static field as the tables lay it -/
def zLs (C n d : String) (A : Nat → Prop) (U : State) (H : Heap) : Prop := ∃ (c : ClassId) (k : Class) (i : Nat) (f : Field) (a : Nat) (cell : Cell), U.vm.findClass C = some c ∧ U.fieldFound? C n d = some (c, k, i, f) ∧ f.isStatic = true ∧ k.statics = some a ∧ H[a]? = some cell ∧ cell.vm.isStatics = true ∧ cell.cls = c ∧ f.slot < cell.slots.size ∧ k.staticTypes[f.slot]? = some f.type ∧ ¬ A a
theorem zLs.moved {C n d : String} {A : Nat → Prop} {u U : State} {H : Heap} (hvm : u.vm.Alike U.vm) (h : zLs C n d A u H) : zLs C n d A U H := by
  obtain ⟨c, k, i, f, a, cell, h0, h1, h2, h3, h4, h5, h6, h7, h8, h9⟩ := h
  obtain ⟨k', hi', he⟩ := State.fieldFound?_setVm hvm h1
  exact ⟨c, k', i, f, a, cell, by rw [hvm.findClass]; exact h0, hi', h2, by rw [he]; exact h3, h4, h5, h6, h7, by rw [he]; exact h8, h9⟩
theorem zLs.kept {C n d : String} {A : Nat → Prop} {U : State} {H H1 : Heap} (h : zLs C n d A U H) (hq : ∀ a : Nat, a < H.size → ¬ A a → H1[a]? = H[a]?) : zLs C n d A U H1 := by
  obtain ⟨c, k, i, f, a, cell, h0, h1, h2, h3, h4, h5, h6, h7, h8, h9⟩ := h
  exact ⟨c, k, i, f, a, cell, h0, h1, h2, h3, by rw [hq a (Array.getElem?_eq_some_iff.mp h4).1 h9]; exact h4, h5, h6, h7, h8, h9⟩
theorem zLs.narrow {C n d : String} {A B : Nat → Prop} {U : State} {H : Heap} (h : zLs C n d A U H) (hAB : ∀ q, B q → A q) : zLs C n d B U H := by
  obtain ⟨c, k, i, f, a, cell, h0, h1, h2, h3, h4, h5, h6, h7, h8, h9⟩ := h
  exact ⟨c, k, i, f, a, cell, h0, h1, h2, h3, h4, h5, h6, h7, h8, fun z => h9 (hAB a z)⟩
theorem zLs.word {args : Array Value} {C n d : String} {A : Nat → Prop} {U : State} (h : zLs C n d A U U.heap) : (Cond.laysStatic C n d).before args U = true := by
  obtain ⟨c, k, i, f, a, cell, h0, h1, h2, h3, h4, h5, h6, h7, h8, h9⟩ := h
  exact Cond.laysStatic_of h0 h1 h2 h3 h4 h5 h6 h7 h8
theorem zLs.of {args : Array Value} {C n d : String} {A : Nat → Prop} {U : State} (h : (Cond.laysStatic C n d).before args U = true) (hA : ∀ a : Nat, a < U.heap.size → ¬ A a) : zLs C n d A U U.heap := by
  obtain ⟨c, k, i, f, a, cell, h0, h1, h2, h3, h4, h5, h6, h7, h8⟩ := Cond.laysStatic_spec h
  exact ⟨c, k, i, f, a, cell, h0, h1, h2, h3, h4, h5, h6, h7, h8, hA a (Array.getElem?_eq_some_iff.mp h4).1⟩
/-- what stays as it is while the world changes: nest mates' links, the table of the guesses, Throwable's two statics -/
def zEn (U : State) (H : Heap) (A : Nat → Prop) (t : Nat) : Prop := (∀ w ∈ zNst, va_Nw w U) ∧ va_Z "PathChecker" "GUESSES_WITH" "[I" (.ref t) A U H ∧ va_T .int t 5 zgw A U H ∧ va_Zq "java/lang/Throwable" "UNASSIGNED_STACK" "[Ljava/lang/StackTraceElement;" A U H ∧ va_Zq "java/lang/Throwable" "SUPPRESSED_SENTINEL" "Ljava/util/List;" A U H ∧ (∀ q ∈ zNc, va_Nc q.1 q.2 U) ∧ zLs "java/lang/Throwable" "UNASSIGNED_STACK" "[Ljava/lang/StackTraceElement;" A U H ∧ zLs "java/lang/Throwable" "SUPPRESSED_SENTINEL" "Ljava/util/List;" A U H
theorem zEn.narrow {U : State} {H : Heap} {A B : Nat → Prop} {t : Nat} (h : zEn U H A t) (hAB : ∀ q, B q → A q) : zEn U H B t := ⟨h.1, h.2.1.narrow hAB, h.2.2.1.narrow hAB, h.2.2.2.1.narrow hAB, h.2.2.2.2.1.narrow hAB, h.2.2.2.2.2.1, h.2.2.2.2.2.2.1.narrow hAB, h.2.2.2.2.2.2.2.narrow hAB⟩
theorem zEn.kept {U : State} {H H1 : Heap} {A : Nat → Prop} {t : Nat} (h : zEn U H A t) (hq : ∀ a : Nat, a < H.size → ¬ A a → H1[a]? = H[a]?) : zEn U H1 A t := ⟨h.1, h.2.1.kept hq, h.2.2.1.kept hq, h.2.2.2.1.kept hq, h.2.2.2.2.1.kept hq, h.2.2.2.2.2.1, h.2.2.2.2.2.2.1.kept hq, h.2.2.2.2.2.2.2.kept hq⟩
/-- the whole world in a state -/
def zW (D : va_G) (ad : Nat → Nat) (ca : Nat → ClassId) (σ : zS) (U : State) : Prop := va_P D vwCl (zws ad ca σ) U.heap ∧ va_K D vwCl (ztys ca) U ∧ va_D (fun _ => True) (zws ad ca σ) ∧ zEn U U.heap (va_A (zws ad ca σ) U.heap.size) (ad 999)
theorem zws_adr {ad : Nat → Nat} {ca : Nat → ClassId} {σ σ2 : zS} {k : Nat} {q : Nat} {e : va_E} (h : (zws ad ca σ)[k]? = some (q, e)) : ∃ e2, (zws ad ca σ2)[k]? = some (q, e2) := by
  by_cases hk : k < zN
  · rw [zws_at hk] at h
    cases h
    exact ⟨_, zws_at hk⟩
  · rw [List.getElem?_eq_none (by simp [zws]; omega)] at h
    cases h
theorem zA_eq {ad : Nat → Nat} {ca : Nat → ClassId} {σ σ2 : zS} {sz : Nat} {q : Nat} (h : va_A (zws ad ca σ) sz q) : va_A (zws ad ca σ2) sz q := by
  rcases h with ⟨k, e, h⟩ | h
  · obtain ⟨e2, h2⟩ := zws_adr (σ2 := σ2) h
    exact Or.inl ⟨k, e2, h2⟩
  · exact Or.inr h
theorem zD_eq {A : Nat → Prop} {ad : Nat → Nat} {ca : Nat → ClassId} {σ : zS} (h : va_D A (zws ad ca σ)) (σ2 : zS) : va_D A (zws ad ca σ2) := by
  refine ⟨fun i j p q hp hq hpq => ?_, fun k q hq => ?_⟩
  · obtain ⟨p1, p2⟩ := p
    obtain ⟨q1, q2⟩ := q
    obtain ⟨e1, h1⟩ := zws_adr (σ2 := σ) hp
    obtain ⟨e2, h2⟩ := zws_adr (σ2 := σ) hq
    exact h.1 i j _ _ h1 h2 hpq
  · obtain ⟨q1, q2⟩ := q
    obtain ⟨e1, h1⟩ := zws_adr (σ2 := σ) hq
    exact h.2 k (q1, e1) h1
theorem zA_none {D : va_G} {ad : Nat → Nat} {ca : Nat → ClassId} {σ : zS} {s : State} (hP : va_P D vwCl (zws ad ca σ) s.heap) : ∀ (q : Nat) (cell : Cell), va_A (zws ad ca σ) s.heap.size q → s.heap[q]? = some cell → cell.vm.isStatics = false := by
  intro q cell h hc
  rcases h with ⟨k, e, h⟩ | h
  · have h1 := hP k _ h
    cases e with
    | inl a =>
      have h2 : s.heap[q]? = some (vp_cell a.1 a.2) := h1
      rw [h2] at hc
      cases hc
      obtain ⟨a1, a2, a3⟩ := a
      rcases a3 with f | f | f | f | f <;> rfl
    | inr o =>
      obtain ⟨r, -, cell2, h3, -, h4, -⟩ := h1
      have h5 : s.heap[q]? = some cell2 := h3
      rw [h5] at hc
      cases hc
      rw [h4]
      rfl
  · have := (Array.getElem?_eq_some_iff.mp hc).1
    omega
def zFE (s t : State) (L : List Loc) (k n : Nat) : Prop := s.WarmedH t.vm ∧ s.sameButNew ({ t with vm := s.vm } : State) L k n
/-- an answer: nothing, or an int -/
def zRv (r : Option Value) : Prop := r = none ∨ ∃ v : Int32, r = some (.int v)
/-- how it may end -/
def zQc (D : va_G) (ad : Nat → Nat) (ca : Nat → ClassId) (A : Nat → Prop) (s : State) (po : Option Value → zS → Prop) (pt : Nat → zS → Prop) (o : Outcome) (t : State) : Prop :=
  va_F A s t ∧ ((∃ (r : Option Value) (σ2 : zS), o = .returned r ∧ zRv r ∧ po r σ2 ∧ va_P D vwCl (zws ad ca σ2) t.heap) ∨
    ∃ (x : Nat) (a : Addr) (cell : Cell) (σ2 : zS), o = .threw a ∧ pt x σ2 ∧ va_P D vwCl (zws ad ca σ2) t.heap ∧ s.heap.size ≤ a ∧ t.heap[a]? = some cell ∧ cell.vm = .none ∧ s.vm.findClass (zxc x) = some cell.cls)
def zQ (below : List Frame) (D : va_G) (ad : Nat → Nat) (ca : Nat → ClassId) (A : Nat → Prop) (s : State) (po : Option Value → zS → Prop) (pt : Nat → zS → Prop) (mc : Nat) : State → Prop := fun t =>
  ∃ o, t.status = .running ∧ Ended t below o ∧ zQc D ad ca A s po pt o t ∧ ∃ L, zFE s t L mc (6 * mc) ∧ ∀ q ∈ L, A q.base
def zR (own : String) (cc : ByteArray) (nL fr lo mc : Nat) (ex : List ExceptionTableEntry) (ret : Option FieldType) (po : Option Value → zS → Prop) (pt : Nat → zS → Prop) (Z : Nat → Nat → List (Option Value) → List Value → zS → Prop) : Prop :=
  ∃ (p : Program) (l : Launch) (e : Env) (R : Room) (s : State) (m : MethodId) (args : Array Value) (below : List Frame) (meth : Method) (c : Code) (D : va_G) (ad : Nat → Nat) (ca : Nat → ClassId) (A : Nat → Prop),
    p.tables.exec = Jvm.exec ∧ c.code = cc ∧ c.maxLocals = nL ∧ s.vm.findClass own = some m.cls ∧ (∀ w ∈ zwd, w.before args s = true) ∧ zEn s s.heap A (ad 999) ∧ va_K D vwCl (ztys ca) s ∧ (∀ σ, va_D A (zws ad ca σ)) ∧ (∀ q, s.heap.size ≤ q → A q) ∧
    meth.sig.returnType = ret ∧ meth.locks = false ∧ fr ≤ R.frames ∧ lo ≤ R.locals ∧ (mc ≤ R.cells ∧ 6 * mc ≤ R.slots) ∧ l.stackTraces = false ∧ c.exceptionTable.toList = ex ∧ (∀ (q : Nat) (cell : Cell), A q → s.heap[q]? = some cell → cell.vm.isStatics = false) ∧
    Z = fun k pc lv st σ => ∀ (ls : Array Slot) (H : Heap) (locs : List Loc), lv_has ls nL (zLv ad 0 lv) → va_P D vwCl (zws ad ca σ) H → va_S A s.heap H locs → W p l e R s m args below meth c H locs k (6 * k) (zQ below D ad ca A s po pt mc) (F0 m pc ls (st.map (zv ad)))
theorem W_mono {p : Program} {l : Launch} {e : Env} {R : Room} {s : State} {m : MethodId} {args : Array Value} {below : List Frame} {meth : Method} {c : Code} {H : Heap} {locs : List Loc} {cells slots : Nat} {Q Q2 : State → Prop} {g : JFrame} (h : ∀ t, Q t → Q2 t) (k : W p l e R s m args below meth c H locs cells slots Q g) : W p l e R s m args below meth c H locs cells slots Q2 g := by
  intro T hT X
  obtain ⟨t, a, b⟩ := k T hT X
  exact ⟨t, a, h t b⟩
section ZE
variable {own : String} {cc : ByteArray} {nL fr lo mc : Nat} {ex : List ExceptionTableEntry} {ret : Option FieldType} {po : Option Value → zS → Prop} {pt : Nat → zS → Prop} {Z : Nat → Nat → List (Option Value) → List Value → zS → Prop}
theorem z_zret (hR : zR own cc nL fr lo mc ex ret po pt Z) {k pc : Nat} {lv : List (Option Value)} {σ : zS} {v : Int32} {ty : FieldType} (d : decode cc pc = .ok (.ireturn, 1)) (hrt : ret = some ty) (hnr : narrow ty (.int v) = .int v) (hk : k ≤ mc) (h : po (some (.int v)) σ) : Z k pc lv [.int v] σ := by
  obtain ⟨p, l, e, R, s, m, args, below, meth, c, D, ad, ca, A, hx, hb, hml, hown, hts, hE, hK, hD, hA, hret, hlk, hfr, hlo, hmc, htr, hex, hAc, rfl⟩ := hR
  intro ls H locs hl hP hS
  refine W.widen (k := mc) (n := 6 * mc) hk (by omega) ?_
  refine W_mono (fun t ht => ?_) (W.zret (Qc := fun _ _ o t => zQc D ad ca A s po pt o t) (free := A) hx hb (hret.trans hrt) hnr (fun t ht hW => ⟨hS.F ht, Or.inl ⟨_, σ, rfl, Or.inr ⟨v, rfl⟩, h, by rw [ht]; exact hP⟩⟩) hS.2.2 d hlk)
  obtain ⟨o, h1, h2, h3, L, ⟨-, h4, h5⟩, h6⟩ := ht
  exact ⟨o, h1, h2, h3, L, ⟨h4, h5⟩, h6⟩
theorem z_vret (hR : zR own cc nL fr lo mc ex ret po pt Z) {k pc : Nat} {lv : List (Option Value)} {σ : zS} (d : decode cc pc = .ok (.return_, 1)) (hrt : ret = none) (hk : k ≤ mc) (h : po none σ) : Z k pc lv [] σ := by
  obtain ⟨p, l, e, R, s, m, args, below, meth, c, D, ad, ca, A, hx, hb, hml, hown, hts, hE, hK, hD, hA, hret, hlk, hfr, hlo, hmc, htr, hex, hAc, rfl⟩ := hR
  intro ls H locs hl hP hS
  refine W.widen (k := mc) (n := 6 * mc) hk (by omega) ?_
  refine W_mono (fun t ht => ?_) (W.vret (Qc := fun _ _ o t => zQc D ad ca A s po pt o t) (free := A) hx hb (hret.trans hrt) (fun t ht hW => ⟨hS.F ht, Or.inl ⟨_, σ, rfl, Or.inl rfl, h, by rw [ht]; exact hP⟩⟩) hS.2.2 d hlk)
  obtain ⟨o, h1, h2, h3, L, ⟨-, h4, h5⟩, h6⟩ := ht
  exact ⟨o, h1, h2, h3, L, ⟨h4, h5⟩, h6⟩
end ZE
/-- a contract: with these arguments, from these numbers -/
def zM (y : MethodName) (cc : ByteArray) (nL : Nat) (ret : Option FieldType) (fr lo mc : Nat) (av : List Value) (σ : zS) (po : Option Value → zS → Prop) (pt : Nat → zS → Prop) : Prop :=
  ∀ (l : Launch), l.stackTraces = false → ∀ (D : va_G) (ad : Nat → Nat) (ca : Nat → ClassId) (sz : Nat), MetFree l y (headSpec (.code y cc nL ret :: zwd) (zrm fr lo mc)) (va_Pc (av.map (zv ad)) (fun U => U.heap.size = sz ∧ zW D ad ca σ U)) (fun _ _ _ _ _ => True)
    (fun _ st o t => zQc D ad ca (va_A (zws ad ca σ) sz) st po pt o t ∧ ∃ L, zFE st t L mc (6 * mc) ∧ ∀ q ∈ L, va_A (zws ad ca σ) sz q.base)
def zarg : List Value → List (Option Value)
  | [] => []
  | .long x :: t => some (.long x) :: none :: zarg t
  | .double x :: t => some (.double x) :: none :: zarg t
  | v :: t => some v :: zarg t
theorem zarg_in (ad : Nat → Nat) : ∀ (av : List Value) (j n : Nat), ∀ q ∈ zLv ad j (zarg av ++ List.replicate n none), q ∈ lv_args j (av.map (zv ad)) := by
  have rep : ∀ (n j : Nat) (q : Nat × Value), q ∈ zLv ad j (List.replicate n none) → False := by
    intro n
    induction n with
    | zero => intro j q h; cases h
    | succ n ih =>
      intro j q h
      rw [List.replicate_succ] at h
      exact ih (j + 1) q h
  intro av
  induction av with
  | nil =>
    intro j n q h
    exact (rep n j q h).elim
  | cons v t ih =>
    intro j n q h
    have one : ∀ (w : Value), w.category = 1 → q ∈ (j, zv ad w) :: zLv ad (j + 1) (zarg t ++ List.replicate n none) → q ∈ lv_args j ((w :: t).map (zv ad)) := by
      intro w hw h1
      rcases List.mem_cons.mp h1 with h2 | h2
      · rw [h2]
        exact List.mem_cons_self
      · refine List.mem_cons_of_mem _ ?_
        rw [if_neg (by rw [zv_cat, hw]; decide)]
        exact ih (j + 1) n q h2
    have two : ∀ (w : Value), w.category = 2 → q ∈ (j, zv ad w) :: zLv ad (j + 1 + 1) (zarg t ++ List.replicate n none) → q ∈ lv_args j ((w :: t).map (zv ad)) := by
      intro w hw h1
      rcases List.mem_cons.mp h1 with h2 | h2
      · rw [h2]
        exact List.mem_cons_self
      · refine List.mem_cons_of_mem _ ?_
        rw [if_pos (by rw [zv_cat, hw])]
        exact ih (j + 2) n q h2
    cases v with
    | long x => exact two (.long x) rfl h
    | double x => exact two (.double x) rfl h
    | int x => exact one (.int x) rfl h
    | float x => exact one (.float x) rfl h
    | null => exact one .null rfl h
    | ref x => exact one (.ref x) rfl h
    | retAddr x => exact one (.retAddr x) rfl h
theorem zM.of {y : MethodName} {cc : ByteArray} {nL : Nat} {ret : Option FieldType} {fr lo mc : Nat} {av : List Value} {σ : zS} {po : Option Value → zS → Prop} {pt : Nat → zS → Prop} (lv : List (Option Value)) (hy : plainName y.cls = true) (n : Nat) (hlv : zarg av ++ List.replicate n none = lv) (hlen : ∀ ad : Nat → Nat, (lg_sl (av.map (zv ad))).length ≤ nL)
    (h : ∀ Z, zR y.cls cc nL fr lo mc [] ret po pt Z → Z 0 0 lv [] σ) : zM y cc nL ret fr lo mc av σ po pt := by
  intro l htr D ad ca sz
  refine MetFree.of_bodyS (code := cc) (maxLocals := nL) (ret := ret) hy ?_ ?_
  · intro args s m h1 hn
    obtain ⟨meth, c, h1, h2, h3, h4, h5, h6, -, -⟩ := Cond.code_spec hn (atoms_spec (ws := .code y cc nL ret :: zwd) h1 _ List.mem_cons_self)
    exact ⟨meth, c, h1, h2, h3, h4, h5, h6⟩
  · intro p e s m args below meth c s₁ B hml hv _
    obtain ⟨rfl, hsz, hP, hK, hD, hE⟩ := hv
    subst hsz
    have hts := atoms_spec (ws := .code y cc nL ret :: zwd) B.pre
    have hh0 : s₁.heap = s.heap := by rw [B.state]; rfl
    have hl := lv_entry (av.map (zv ad)) (n := nL) (hlen ad)
    have hex : c.exceptionTable.toList = [] := by
      have h9 := B.noHandlers (hts _ List.mem_cons_self)
      have h0 : c.exceptionTable.size = 0 := by simpa [Array.isEmpty] using h9
      exact List.eq_nil_of_length_eq_zero (by simpa using h0)
    obtain ⟨t, a1, o, b1, b2, b3, b4⟩ := h _ ⟨p, l, e, (headSpec (.code y cc nL ret :: zwd) (zrm fr lo mc)).room, s, m, _, below, meth, c, D, ad, ca, va_A (zws ad ca σ) s.heap.size, B.exec, B.bytes, hml, findClass_of_methodNamed B.named, fun w hw => hts w (List.mem_cons_of_mem _ hw), hE, hK, fun σ2 => zD_eq (hD.self (sz := s.heap.size)) σ2, fun q hq => Or.inr hq, B.returns, B.notSynchronized, Nat.le_refl _, Nat.le_refl _, ⟨Nat.le_refl _, Nat.le_refl _⟩, htr, hex, zA_none hP, rfl⟩
      _ s.heap [] ⟨hl.1, hl.2.1, fun q hq => hl.2.2 q (zarg_in ad av 0 n q (by rw [hlv]; exact hq))⟩ hP va_S.rf s₁ hh0 (Stand.of_body B)
    rw [lg_entry_eq]
    exact ⟨t, o, a1, b1, b2, b3, b4⟩
/-! Calls -/
theorem zNst_on (w : Cond) (hw : w ∈ zNst) : w.onTables = true := by
  have h1 := zNst_is w hw
  cases w <;> first | rfl | cases h1
theorem zEn.warm {s U : State} {H : Heap} {A : Nat → Prop} {t : Nat} (hW : s.WarmedH U.vm) (h : zEn s H A t) : zEn U H A t := by
  refine ⟨fun w hw => ?_, h.2.1.moved hW.alike, h.2.2.1.moved hW.alike, h.2.2.2.1.moved hW.alike, h.2.2.2.2.1.moved hW.alike, fun q hq => (h.2.2.2.2.2.1 q hq).moved hW.alike, h.2.2.2.2.2.2.1.moved hW.alike, h.2.2.2.2.2.2.2.moved hW.alike⟩
  have h1 := zNst_is w hw
  have h2 := h.1 w hw
  cases w with
  | fieldLinkNest a i b n d h => exact va_Nw.warmF hW h2
  | methodLinkNest a i x h => exact va_Nw.warmM hW h2
  | declares x => exact va_Nw.warmD hW h2
  | castable a b => exact va_Nw.warmC hW h2
  | _ => cases h1
theorem zEn.same {u U : State} {H : Heap} {A : Nat → Prop} {t : Nat} (hv : u.vm = U.vm) (h : zEn u H A t) : zEn U H A t := by
  have ha : u.vm.Alike U.vm := hv ▸ Vm.Alike.refl u.vm
  refine ⟨fun w hw => ?_, h.2.1.moved ha, h.2.2.1.moved ha, h.2.2.2.1.moved ha, h.2.2.2.2.1.moved ha, fun q hq => (h.2.2.2.2.2.1 q hq).moved ha, h.2.2.2.2.2.2.1.moved ha, h.2.2.2.2.2.2.2.moved ha⟩
  have h1 := zNst_is w hw
  have h2 := h.1 w hw
  cases w with
  | fieldLinkNest a i b n d h => exact va_Nw.same rfl hv h2
  | methodLinkNest a i x h => exact va_Nw.same rfl hv h2
  | declares x => exact va_Nw.same rfl hv h2
  | castable a b => exact va_Nw.same rfl hv h2
  | _ => cases h1
theorem zW.blind {av : List Value} {D : va_G} {ad : Nat → Nat} {ca : Nat → ClassId} {σ : zS} {sz : Nat} : FrameBlind (va_Pc av (fun U => U.heap.size = sz ∧ zW D ad ca σ U)) := by
  intro a U g mk h
  obtain ⟨h0, h1, h2, h3, h4, h5⟩ := h
  exact ⟨h0, h1, h2, va_K.moved (u := U) (U := U.calling g mk a) (Vm.Alike.refl U.vm) h3, h4, zEn.same (u := U) (U := U.calling g mk a) rfl h5⟩
theorem zM.met {y : MethodName} {cc : ByteArray} {nL : Nat} {ret : Option FieldType} {fr lo mc : Nat} {av : List Value} {σ : zS} {po : Option Value → zS → Prop} (h : zM y cc nL ret fr lo mc av σ po (fun _ _ => False)) {l : Launch} (htr : l.stackTraces = false) (D : va_G) (ad : Nat → Nat) (ca : Nat → ClassId) (sz : Nat) :
    Met l y (.code y cc nL ret :: zwd) (zrm fr lo mc) (va_Pc (av.map (zv ad)) (fun U => U.heap.size = sz ∧ zW D ad ca σ U)) (fun _ st o t => zQc D ad ca (va_A (zws ad ca σ) sz) st po (fun _ _ => False) o t) mc (6 * mc) (va_A (zws ad ca σ) sz) := by
  intro p e ha hc hk s m args below hf happ hP hK
  obtain ⟨n, o, h1, h2, h3, h4, L, h5, h6⟩ := h l htr D ad ca sz p e ha hc hk s m args below hf happ hP hK
  refine ⟨n, o, h1, h2, h3, h4, L, ⟨?_, h5.1, h5.2⟩, h6⟩
  rcases h4.2 with ⟨r, σ2, e1, -⟩ | ⟨x, a, cell, σ2, -, hf, -⟩
  · exact ⟨r, e1⟩
  · exact hf.elim
section ZC
variable {p : Program} {l : Launch} {e : Env} {R : Room} {s : State} {m : MethodId} {args : Array Value} {below : List Frame} {meth : Method} {c : Code} {H : Heap} {locs : List Loc} {Q : State → Prop} {D : va_G} {ad : Nat → Nat} {ca : Nat → ClassId} {A : Nat → Prop}
theorem zA_sub {σ : zS} (hD : va_D A (zws ad ca σ)) (hA : ∀ q, s.heap.size ≤ q → A q) (hS : va_S A s.heap H locs) : ∀ q, va_A (zws ad ca σ) H.size q → A q := by
  intro q h
  rcases h with ⟨k, e, h⟩ | h
  · exact hD.2 k _ h
  · exact hA q (Nat.le_trans hS.1 h)
theorem zW_at {σ : zS} {U : State} (hE : zEn s s.heap A (ad 999)) (hK : va_K D vwCl (ztys ca) s) (hD : va_D A (zws ad ca σ)) (hA : ∀ q, s.heap.size ≤ q → A q) (hP : va_P D vwCl (zws ad ca σ) H) (hS : va_S A s.heap H locs) (hU : U.heap = H) (hW : s.WarmedH U.vm) : zW D ad ca σ U := by
  refine ⟨by rw [hU]; exact hP, va_K.moved hW.alike hK, hD.weaken (fun _ _ _ _ => trivial), ?_⟩
  rw [hU]
  exact ((hE.kept (fun a h1 h2 => hS.2.1 a h1 h2)).warm hW).narrow (zA_sub hD hA hS)
theorem z_run {σ : zS} {k pc nL : Nat} {ls : Array Slot} {lv : List (Option Value)} {st0 : List Value} {st : List Value} {po2 : Option Value → zS → Prop} (hD : va_D A (zws ad ca σ)) (hA : ∀ q, s.heap.size ≤ q → A q) (hS : va_S A s.heap H locs) (hl : lv_has ls nL (zLv ad 0 lv))
    (hr : va_Run p l e R s m args below meth c H locs k (6 * k) 0 0 (F0 m pc ls st0) (st.map (zv ad)) (fun st o t => zQc D ad ca (va_A (zws ad ca σ) H.size) st po2 (fun _ _ => False) o t) (va_A (zws ad ca σ) H.size))
    (kk : ∀ r σ2, po2 r σ2 → ∀ (ls : Array Slot) (H : Heap) (locs : List Loc), lv_has ls nL (zLv ad 0 lv) → va_P D vwCl (zws ad ca σ2) H → va_S A s.heap H locs → W p l e R s m args below meth c H locs k (6 * k) Q (F0 m (pc + 3) ls ((r.toList ++ st).map (zv ad)))) : W p l e R s m args below meth c H locs k (6 * k) Q (F0 m pc ls st0) := by
  intro T hT X
  obtain ⟨v, st₀, t, T', L, h0, X', hL, e1, e2, hq, stp⟩ := hr T hT X
  obtain ⟨hF, hq⟩ := hq
  rcases hq with ⟨r, σ2, hr, hrv, hpo, hP2⟩ | ⟨x, a, cell, σ2, -, hf, -⟩
  · cases hr
    have hsub := zA_sub hD hA hS
    have hz : H.size ≤ t.heap.size := by have := hF.1; rw [h0] at this; exact this
    have hS2 : va_S A s.heap T'.heap (locs ++ L) := by
      refine ⟨Nat.le_trans hS.1 (by rw [e1]; exact hz), fun q h1 h2 => ?_, fun q hq => ?_⟩
      · have h3 := hF.2 q (by rw [h0]; exact Nat.lt_of_lt_of_le h1 hS.1) (fun z => h2 (hsub q z))
        rw [e1, h3, h0]
        exact hS.2.1 q h1 h2
      · rcases List.mem_append.mp hq with h | h
        · exact hS.2.2 q h
        · exact hsub _ (hL q h)
    obtain ⟨t2, a1, b1⟩ := kk v σ2 hpo ls T'.heap (locs ++ L) hl (by rw [e1]; exact hP2) hS2 T' rfl X'
    refine ⟨t2, stp t2 ?_, b1⟩
    have e3 : (v.toList ++ st).map (zv ad) = v.toList ++ st.map (zv ad) := by
      rcases hrv with rfl | ⟨q, rfl⟩
      · rfl
      · rfl
    rw [e3] at a1
    exact a1
  · exact hf.elim
end ZC
/-- what the tables say of a call -/
def zCo (y : MethodName) (n : Nat) : Prop := Cond.initialized y.cls ∈ zwd ∧ (y.cls ≠ "java/lang/invoke/MethodHandle" ∧ y.cls ≠ "java/lang/invoke/VarHandle" ∧ (parseMethodDescriptor y.desc).map (fun d => d.parameters.length) = some n)
def zCV (own : String) (i : Nat) (y : MethodName) (n : Nat) : Prop := zCo y n ∧ Cond.instanceMethod y ∈ zwd ∧ Cond.selects y.cls y y ∈ zwd ∧ (Cond.methodLink own i y ∈ zwd ∨ ∃ host, Cond.methodLinkNest own i y host ∈ zNst)
def zCS (own : String) (i : Nat) (y : MethodName) (n : Nat) : Prop := zCo y n ∧ Cond.static y ∈ zwd ∧ (Cond.methodLink own i y ∈ zwd ∨ ∃ host, Cond.methodLinkNest own i y host ∈ zNst)
theorem zGoodIn {y : MethodName} {cc : ByteArray} {nL : Nat} {ret : Option FieldType} (h : Cond.code y cc nL ret ∈ zwd) : GoodIn zwd (.code y cc nL ret :: zwd) := by
  intro w hw
  have h1 : w ∈ zwd := by
    rcases List.mem_cons.mp hw with rfl | h2
    · exact h
    · exact h2
  exact ⟨h1, zgood w h1⟩
section ZD
variable {own : String} {cc : ByteArray} {nL fr lo mc : Nat} {ex : List ExceptionTableEntry} {ret : Option FieldType} {po : Option Value → zS → Prop} {pt : Nat → zS → Prop} {Z : Nat → Nat → List (Option Value) → List Value → zS → Prop}
theorem z_callV (hR : zR own cc nL fr lo mc ex ret po pt Z) {k pc n i o ci N nLY frY loY : Nat} {lv : List (Option Value)} {st : List Value} {σ : zS} {y : MethodName} {ccY : ByteArray} {retY : Option FieldType} {T : u_T} {rs : List (Option Nat)} {av : List Value} {po2 : Option Value → zS → Prop}
    (d : decode cc pc = .ok (.invokevirtual i, 3)) (hn : pc + 3 = n) (hC : zCV own i y av.length) (hcd : Cond.code y ccY nLY retY ∈ zwd) (hf : frY + 1 ≤ fr ∧ 8 + (nLY + 11) + loY ≤ lo) (hw : (st.map fun v => v.category).sum ≤ 8) (ho : o < zN) (hs : zsh o = .inr (ci, rs)) (hcl : vwCl[ci]? = some (y.cls, T, N)) (hk : k ≤ mc)
    (hM : zM y ccY nLY retY frY loY 0 (.ref o :: av) σ po2 (fun _ _ => False)) (kk : ∀ r σ2, po2 r σ2 → Z k n lv (r.toList ++ st) σ2) : Z k pc lv (av.reverse ++ .ref o :: st) σ := by
  obtain ⟨p, l, e, R, s, m, args, below, meth, c, D, ad, ca, A, hx, hb, hml, hown, hts, hE, hK, hD, hA, hret, hlk, hfr, hlo, hmc, htr, hex, hAc, rfl⟩ := hR
  intro ls H locs hl hP hS
  subst hn
  have est : (av.reverse ++ .ref o :: st).map (zv ad) = (av.map (zv ad)).reverse ++ .ref (ad o) :: st.map (zv ad) := by simp [zv]
  have hw2 : ((st.map (zv ad)).map fun v => v.category).sum ≤ 8 := by
    rw [List.map_map]
    have e9 : ((fun v : Value => v.category) ∘ zv ad) = fun v => v.category := funext fun v => zv_cat ad v
    rw [e9]
    exact hw
  obtain ⟨⟨hini, hd⟩, hin, hse, hlink⟩ := hC
  have pv : PreV s H y.cls (ad o) (va_Pc ((.ref o :: av).map (zv ad)) (fun U => U.heap.size = H.size ∧ zW D ad ca σ U)) (av.map (zv ad)) :=
    ⟨zW.blind, va_recv hK hP hcl (zws_obj ho hs), fun U hU hW => ⟨rfl, by rw [hU], zW_at hE hK (hD σ) hA hP hS hU hW⟩⟩
  have hfr2 : frY + 1 ≤ R.frames ∧ 8 + (nLY + 11) + loY ≤ R.locals := ⟨by omega, by omega⟩
  rw [est]
  refine z_run (hD σ) hA hS hl ?_ (fun r σ2 h2 => kk r σ2 h2)
  rcases hlink with hlink | ⟨host, hlink⟩
  · exact va_runV (As := av.map (zv ad)) (rest := st.map (zv ad)) (C := y.cls) (n := av.length) ⟨hx, hb, hml, hown, hts⟩ (hM.met htr D ad ca H.size) ⟨callB_of av.length hts (zGoodIn hcd) rfl rfl rfl (hts _ hini) (hts _ hlink) hd hfr2, hts _ hin, hts _ hse⟩ pv rfl (by simp) hl.1 rfl (by show 2 * 0 + _ ≤ 8; omega) d ⟨by omega, by omega⟩
  · exact va_runVN (As := av.map (zv ad)) (rest := st.map (zv ad)) (C := y.cls) (n := av.length) ⟨hx, hb, hml, hown, hts⟩ (hM.met htr D ad ca H.size) ⟨va_cnB av.length hts (zGoodIn hcd) rfl rfl rfl (hE.1 _ hlink) (hts _ hini) hd hfr2, hts _ hin, hts _ hse⟩ pv rfl (by simp) hl.1 rfl (by show 2 * 0 + _ ≤ 8; omega) d ⟨by omega, by omega⟩
theorem z_callS (hR : zR own cc nL fr lo mc ex ret po pt Z) {k pc n i nLY frY loY : Nat} {lv : List (Option Value)} {st : List Value} {σ : zS} {y : MethodName} {ccY : ByteArray} {retY : Option FieldType} {av : List Value} {po2 : Option Value → zS → Prop}
    (d : decode cc pc = .ok (.invokestatic i, 3)) (hn : pc + 3 = n) (hC : zCS own i y av.length) (hcd : Cond.code y ccY nLY retY ∈ zwd) (hf : frY + 1 ≤ fr ∧ 8 + (nLY + 11) + loY ≤ lo) (hw : (st.map fun v => v.category).sum ≤ 8) (hk : k ≤ mc)
    (hM : zM y ccY nLY retY frY loY 0 av σ po2 (fun _ _ => False)) (kk : ∀ r σ2, po2 r σ2 → Z k n lv (r.toList ++ st) σ2) : Z k pc lv (av.reverse ++ st) σ := by
  obtain ⟨p, l, e, R, s, m, args, below, meth, c, D, ad, ca, A, hx, hb, hml, hown, hts, hE, hK, hD, hA, hret, hlk, hfr, hlo, hmc, htr, hex, hAc, rfl⟩ := hR
  intro ls H locs hl hP hS
  subst hn
  have est : (av.reverse ++ st).map (zv ad) = (av.map (zv ad)).reverse ++ st.map (zv ad) := by simp
  have hw2 : ((st.map (zv ad)).map fun v => v.category).sum ≤ 8 := by
    rw [List.map_map]
    have e9 : ((fun v : Value => v.category) ∘ zv ad) = fun v => v.category := funext fun v => zv_cat ad v
    rw [e9]
    exact hw
  obtain ⟨⟨hini, hd⟩, hst, hlink⟩ := hC
  have pv : PreS s H (va_Pc (av.map (zv ad)) (fun U => U.heap.size = H.size ∧ zW D ad ca σ U)) (av.map (zv ad)) :=
    ⟨zW.blind, fun U hU hW => ⟨rfl, by rw [hU], zW_at hE hK (hD σ) hA hP hS hU hW⟩⟩
  have hfr2 : frY + 1 ≤ R.frames ∧ 8 + (nLY + 11) + loY ≤ R.locals := ⟨by omega, by omega⟩
  rw [est]
  refine z_run (hD σ) hA hS hl ?_ (fun r σ2 h2 => kk r σ2 h2)
  rcases hlink with hlink | ⟨host, hlink⟩
  · exact va_runS (As := av.map (zv ad)) (rest := st.map (zv ad)) (n := av.length) ⟨hx, hb, hml, hown, hts⟩ (hM.met htr D ad ca H.size) ⟨callB_of av.length hts (zGoodIn hcd) rfl rfl rfl (hts _ hini) (hts _ hlink) hd hfr2, hts _ hst⟩ pv rfl (by simp) hl.1 rfl (by show 2 * 0 + _ ≤ 8; omega) d ⟨by omega, by omega⟩
  · exact va_runSN (As := av.map (zv ad)) (rest := st.map (zv ad)) (n := av.length) ⟨hx, hb, hml, hown, hts⟩ (hM.met htr D ad ca H.size) ⟨va_cnB av.length hts (zGoodIn hcd) rfl rfl rfl (hE.1 _ hlink) (hts _ hini) hd hfr2, hts _ hst, trivial⟩ pv rfl (by simp) hl.1 rfl (by show 2 * 0 + _ ≤ 8; omega) d ⟨by omega, by omega⟩
end ZD
/-! Fields -/
def zLk (own : String) (i : Nat) (q : String × String × String × Bool) : Prop := Cond.fieldLink own i q.1 q.2.1 q.2.2.1 ∈ zwd ∨ ∃ host, Cond.fieldLinkNest own i q.1 q.2.1 q.2.2.1 host ∈ zNst
def zG (own : String) (i ci j : Nat) : Prop := ∃ (C : String) (T : u_T) (N : Nat), vwCl[ci]? = some (C, T, N) ∧ j < N ∧ (∀ w ∈ u_ws C T N, w ∈ zwd) ∧ zLk own i (T j)
def zPt (own : String) (i ci j : Nat) (ty : FieldType) : Prop := ∃ (C : String) (T : u_T) (N : Nat) (ty0 : Nat → FieldType), vwCl[ci]? = some (C, T, N) ∧ j < N ∧ (∀ w ∈ u_ws C T N, w ∈ zwd) ∧ zLk own i (T j) ∧
  (∀ k, k < N → parseFieldDescriptor (T k).2.2.1 = some (ty0 k)) ∧ (∀ a, a < N → ∀ b, b < N → a ≠ b → (T a).2.1 ≠ (T b).2.1) ∧ (T j).2.2.2 = false ∧ parseFieldDescriptor (T j).2.2.1 = some ty
section ZG
variable {p : Program} {l : Launch} {e : Env} {R : Room} {s : State} {m : MethodId} {args : Array Value} {below : List Frame} {meth : Method} {c : Code} {H : Heap} {locs : List Loc} {cells slots : Nat} {Q : State → Prop} {D : va_G} {ad : Nat → Nat} {ca : Nat → ClassId} {A : Nat → Prop} {cc : ByteArray} {own : String} {pc : Nat} {ls : Array Slot} {rest : List Value} {σ : zS} {t0 : Nat}
theorem zG_get (hx : p.tables.exec = Jvm.exec) (hb : c.code = cc) (hts : ∀ w ∈ zwd, w.before args s = true) (hE : zEn s s.heap A t0) (hown : s.vm.findClass own = some m.cls) (hK : va_K D vwCl (ztys ca) s) (hP : va_P D vwCl (zws ad ca σ) H) {i ci j o a : Nat} (hG : zG own i ci j) {fs : List Value} {v : Value} (he : (zws ad ca σ)[o]? = some (a, .inr (ci, fs))) (hv : fs[j]? = some v) (d : decode cc pc = .ok (.getfield i, 3))
    (kk : W p l e R s m args below meth c H locs cells slots Q (F0 m (pc + 3) ls (v :: rest))) : W p l e R s m args below meth c H locs cells slots Q (F0 m pc ls (.ref a :: rest)) := by
  obtain ⟨C, T, N, hc, hj, hin, hl⟩ := hG
  rcases hl with hl | ⟨host, hl⟩
  · exact va_get hx hb hts hin hown hK hP o he hc j hj (hts _ hl) (fun _ h => h) hv d kk
  · exact va_getN hx hb hts hin hown hK hP o he hc j hj (va_Nw.use rfl (hE.1 _ hl)) (fun _ h => h) hv d kk
theorem zPt_put (hx : p.tables.exec = Jvm.exec) (hb : c.code = cc) (hts : ∀ w ∈ zwd, w.before args s = true) (hE : zEn s s.heap A t0) (hown : s.vm.findClass own = some m.cls) (hK : va_K D vwCl (ztys ca) s) (hP : va_P D vwCl (zws ad ca σ) H) (hD : va_D A (zws ad ca σ)) (hS : va_S A s.heap H locs) {i ci j o : Nat} {ty : FieldType} {rs : List (Option Nat)} {x : Int32} (hG : zPt own i ci j ty) (ho : o < zN) (hs : zsh o = .inr (ci, rs)) (hj : rs[j]? = some none)
    (hn : narrow ty (.int x) = .int x) (hfit : fits ty (.int x) = true) (d : decode cc pc = .ok (.putfield i, 3))
    (kk : ∀ (H1 : Heap) (locs1 : List Loc), va_P D vwCl (zws ad ca (zwA σ o j x)) H1 → va_S A s.heap H1 locs1 → W p l e R s m args below meth c H1 locs1 cells slots Q (F0 m (pc + 3) ls rest)) : W p l e R s m args below meth c H locs cells slots Q (F0 m pc ls (.int x :: .ref (ad o) :: rest)) := by
  obtain ⟨C, T, N, ty0, hc, hjN, hin, hl, hty, hnm, hfin, hd⟩ := hG
  have hlen : j < (zfs ad (σ.1 o) 0 rs).length := by
    rw [zfs_len]
    exact (List.getElem?_eq_some_iff.mp hj).1
  have fin : ∀ (H1 : Heap) (locs1 : List Loc), va_P D vwCl ((zws ad ca σ).set o (ad o, .inr (ci, (zfs ad (σ.1 o) 0 rs).set j (.int x)))) H1 → va_D A ((zws ad ca σ).set o (ad o, .inr (ci, (zfs ad (σ.1 o) 0 rs).set j (.int x)))) → va_S A s.heap H1 locs1 → W p l e R s m args below meth c H1 locs1 cells slots Q (F0 m (pc + 3) ls rest) := by
    intro H1 locs1 h1 _ h3
    rw [zws_setF ho hs hj] at h1
    exact kk H1 locs1 h1 h3
  rcases hl with hl | ⟨host, hl⟩
  · exact va_put hx hb hts hin ty0 hty hnm hown hK hP hD hS o (zws_obj ho hs) hc j hjN (hts _ hl) (fun _ h => h) hfin hd hn hfit hlen d fin
  · exact va_putN hx hb hts hin ty0 hty hnm hown hK hP hD hS o (zws_obj ho hs) hc j hjN (va_Nw.use rfl (hE.1 _ hl)) (fun _ h => h) hfin hd hn hfit hlen d fin
end ZG
end
section
/-! An exception of the class's own: made, and thrown out of the method -/
section ZT
variable {p : Program} {l : Launch} {e : Env} {R : Room} {s : State} {m : MethodId} {args : Array Value} {below : List Frame} {meth : Method} {c : Code} {T : State} {locs : List Loc} {cells slots : Nat}
/-- the same point, told from now on -/
theorem zRebase (X : Stand p l e R s m args below meth c T locs cells slots) (hc : cells ≤ R.cells) (hs : slots ≤ R.slots) :
    Stand p l e { R with cells := R.cells - cells, slots := R.slots - slots } ({ s with heap := T.heap, slotsUsed := T.slotsUsed } : State) m args below meth c T [] 0 0 := by
  have hr := X.room
  have h1 := X.heapSize
  have h2 := X.used
  have h3 := X.book
  refine ⟨X.admits, X.cas, X.clock, X.frames, ?_, X.hears, X.method, X.code, X.here, X.tail, State.WarmedH.of_rootvm (s := s) rfl X.warmed, X.limits, X.bytes, ?_⟩
  · simp only [State.hasRoom, Bool.and_eq_true, decide_eq_true_eq] at hr ⊢
    obtain ⟨⟨⟨⟨r1, r2⟩, r3⟩, r4⟩, r5⟩ := hr
    refine ⟨⟨⟨⟨r1, r2⟩, ?_⟩, ?_⟩, h3⟩
    · show T.heap.size + (R.cells - cells) ≤ _
      omega
    · show T.slotsUsed + (R.slots - slots) ≤ _
      omega
  · refine ⟨?_, Nat.le_refl _, Nat.le_refl _, ?_, ?_, fun a c h => ⟨c, h, rfl, rfl, fun _ _ => rfl⟩⟩
    · have h4 := X.same.1
      exact h4
    · show T.slotsUsed = T.slotsUsed + ((T.heap.toList.drop T.heap.size).map (·.slots.size)).sum
      rw [List.drop_eq_nil_of_le (by simp)]
      rfl
    · show ((T.heap.toList.drop T.heap.size).map (·.slots.size)).sum ≤ 0
      rw [List.drop_eq_nil_of_le (by simp)]
      exact Nat.le_refl _
end ZT
theorem zq_isRef {args : Array Value} {s : State} {C n d : String} {A : Nat → Prop} (h : va_Zq C n d A s s.heap) : (Cond.isRef (.static C n d)).before args s = true := by
  rcases h with h | ⟨t, h⟩
  · obtain ⟨cf, kf, fi, f, a, cell, h1, h2, h3, h4, h5, h6, h7, h8⟩ := h
    simp [Cond.before, Cond.holds, Cond.value, Term.eval, State.fieldNamed?, h1, h2, h4, h5, h6, h7]
  · obtain ⟨cf, kf, fi, f, a, cell, h1, h2, h3, h4, h5, h6, h7, h8⟩ := h
    simp [Cond.before, Cond.holds, Cond.value, Term.eval, State.fieldNamed?, h1, h2, h4, h5, h6, h7]
/-- the words of a throw that the tables hold -/
def zTh (own : String) (i ic x : Nat) : Prop := Cond.classLink own i (zxc x) ∈ zwd ∧ Cond.instantiable (zxc x) 6 ∈ zwd ∧ Cond.initialized (zxc x) ∈ zwd ∧
  ∀ a ∈ Bundle.ownAtoms0 own ic (zxc x) ["java/lang/RuntimeException", "java/lang/Exception"], (a ∈ zwd ∧ a.onTables = true) ∨ a ∈ zNst ∨ a = .isRef (.static Bundle.tN "UNASSIGNED_STACK" Bundle.steD) ∨ a = .isRef (.static Bundle.tN "SUPPRESSED_SENTINEL" Bundle.listD) ∨ a = .laysStatic Bundle.tN "UNASSIGNED_STACK" Bundle.steD ∨ a = .laysStatic Bundle.tN "SUPPRESSED_SENTINEL" Bundle.listD
theorem zTh_of {own : String} {ic : Nat} {C : String} (h : (Bundle.ownAtoms0 own ic C ["java/lang/RuntimeException", "java/lang/Exception"]).all (fun a => (decide (a ∈ lw_tbl) && goodWord a && a.onTables) || decide (a ∈ zNst) || decide (a = .isRef (.static Bundle.tN "UNASSIGNED_STACK" Bundle.steD)) || decide (a = .isRef (.static Bundle.tN "SUPPRESSED_SENTINEL" Bundle.listD)) || decide (a = .laysStatic Bundle.tN "UNASSIGNED_STACK" Bundle.steD) || decide (a = .laysStatic Bundle.tN "SUPPRESSED_SENTINEL" Bundle.listD)) = true) :
    ∀ a ∈ Bundle.ownAtoms0 own ic C ["java/lang/RuntimeException", "java/lang/Exception"], (a ∈ zwd ∧ a.onTables = true) ∨ a ∈ zNst ∨ a = .isRef (.static Bundle.tN "UNASSIGNED_STACK" Bundle.steD) ∨ a = .isRef (.static Bundle.tN "SUPPRESSED_SENTINEL" Bundle.listD) ∨ a = .laysStatic Bundle.tN "UNASSIGNED_STACK" Bundle.steD ∨ a = .laysStatic Bundle.tN "SUPPRESSED_SENTINEL" Bundle.listD := by
  intro a ha
  have h1 := List.all_eq_true.mp h a ha
  simp only [Bool.or_eq_true, Bool.and_eq_true, decide_eq_true_eq] at h1
  rcases h1 with ((((⟨⟨h1, h2⟩, h3⟩ | h1) | h1) | h1) | h1) | h1
  · exact Or.inl ⟨List.mem_filter.mpr ⟨h1, h2⟩, h3⟩
  · exact Or.inr (Or.inl h1)
  · exact Or.inr (Or.inr (Or.inl h1))
  · exact Or.inr (Or.inr (Or.inr (Or.inl h1)))
  · exact Or.inr (Or.inr (Or.inr (Or.inr (Or.inl h1))))
  · exact Or.inr (Or.inr (Or.inr (Or.inr (Or.inr h1))))
section ZU
variable {own : String} {cc : ByteArray} {nL fr lo mc : Nat} {ret : Option FieldType} {po : Option Value → zS → Prop} {pt : Nat → zS → Prop} {Z : Nat → Nat → List (Option Value) → List Value → zS → Prop}
theorem zxc_fit (x : Nat) : Bundle.fit (zxc x) = true := by
  unfold zxc
  split <;> decide +kernel
theorem z_throw (hR : zR own cc nL fr lo mc [] ret po pt Z) {k pc i ic x : Nat} {lv : List (Option Value)} {σ : zS} (d0 : decode cc pc = .ok (.new i, 3)) (d3 : decode cc (pc + 3) = .ok (.dup, 1)) (d4 : decode cc (pc + 4) = .ok (.invokespecial ic, 3)) (d7 : decode cc (pc + 7) = .ok (.athrow, 1)) (hT : zTh own i ic x) (hk : k + 1 ≤ mc) (hf6 : 6 ≤ fr) (hl81 : 81 ≤ lo) (h : pt x σ) : Z k pc lv [] σ := by
  obtain ⟨p, l, e, R, s, m, args, below, meth, c, D, ad, ca, A, hx, hb, hml, hown, hts, hE, hK, hD, hA, hret, hlk, hfr, hlo, hmc, htr, hex, hAc, rfl⟩ := hR
  intro ls H locs hl hP hS T hT0 X0
  obtain ⟨hcl, hins, hini, hat⟩ := hT
  have X := zRebase X0 (by omega) (by omega)
  have htr2 : e.platform.stackTraces = false := by rw [show e.platform.stackTraces = l.stackTraces by rw [X.admits.platform]]; exact htr
  -- the words at the point from which the rest is told
  have hE2 : zEn ({ s with heap := T.heap, slotsUsed := T.slotsUsed } : State) T.heap A (ad 999) := by
    have h1 := hE.kept (H1 := T.heap) (fun a h1 h2 => by rw [hT0]; exact hS.2.1 a h1 h2)
    exact zEn.same (u := s) (U := ({ s with heap := T.heap, slotsUsed := T.slotsUsed } : State)) rfl h1
  have htab : ∀ w, w ∈ zwd → w.onTables = true → w.before args ({ s with heap := T.heap, slotsUsed := T.slotsUsed } : State) = true := fun w hw ho => va_tabs ho (u := s) (U := ({ s with heap := T.heap, slotsUsed := T.slotsUsed } : State)) rfl (hts w hw)
  have hatoms : ∀ a ∈ Bundle.ownAtoms0 own ic (zxc x) ["java/lang/RuntimeException", "java/lang/Exception"], a.before args ({ s with heap := T.heap, slotsUsed := T.slotsUsed } : State) = true := by
    intro a ha
    rcases hat a ha with ⟨h1, h2⟩ | h1 | h1 | h1 | h1 | h1
    · exact htab a h1 h2
    · exact va_Nw.use (zNst_on a h1) (hE2.1 a h1)
    · rw [h1]
      exact zq_isRef hE2.2.2.2.1
    · rw [h1]
      exact zq_isRef hE2.2.2.2.2.1
    · rw [h1]
      exact zLs.word hE2.2.2.2.2.2.2.1
    · rw [h1]
      exact zLs.word hE2.2.2.2.2.2.2.2
  obtain ⟨vm₁, cX, kX, hfX, hkX, -, -, X₁, st1⟩ := X.newCold hx (own := own) (C := zxc x) (index := i) (n := 6) hown (htab _ hcl rfl) (htab _ hins rfl) (htab _ hini rfl) (g := F0 m pc ls []) rfl (by rw [hb]; exact d0) (by show 0 + 1 ≤ R.cells - k; omega) (by show 0 + 6 ≤ R.slots - 6 * k; omega)
  generalize hT1 : (T.setVm vm₁).pushCell { cls := cX, slots := kX.instanceTypes.map defaultValue, vm := .none } = T1 at X₁ st1
  have hcellA : T1.heap[T.heap.size]? = some (freshCell cX kX) := by rw [← hT1]; exact State.heap_pushCell_size _ _
  obtain ⟨U, hsteps, hrun, hend, hW, hsame, ce, hce, K⟩ := X₁.ctorThrow0 hx htr2 (own := own) (cls := zxc x) (names := ["java/lang/RuntimeException", "java/lang/Exception"]) (ic := ic) hown (zxc_fit x) (by decide +kernel) hatoms (fun y hy => by cases hy) hfX hkX hcellA (Nat.le_refl _)
    (g := F0 m (pc + 4) ls [.ref T.heap.size, .ref T.heap.size]) rfl (by rw [hml]; exact hl.1) rfl rfl (rest := []) rfl (by rw [hb]; exact d4) (by rw [hb]; exact d7) (fun y hy => by rw [hex] at hy; cases hy) (by show 2 + 3 < R.frames; omega) (by show 2 * 0 + 1 + (13 * (2 + 1) + 41) ≤ R.locals; omega) hlk
  obtain ⟨q1, q2, q3, q4, q5, q6⟩ := hsame
  have kept : ∀ q : Nat, q < T.heap.size → U.heap[q]? = T.heap[q]? := by
    intro q hq
    have hq2 : T.heap[q]? = some T.heap[q] := Array.getElem?_eq_getElem hq
    obtain ⟨c2, e1, e2, e3, e4⟩ := q6 q _ hq2
    have e5 : c2.slots = (T.heap[q]).slots := Array.ext_getElem? (fun i => e4 i (fun z => by cases z))
    have e6 : c2 = T.heap[q] := by rw [e2, e5]
    rw [hq2]
    rw [e6] at e1
    exact e1
  have hsz : H.size ≤ U.heap.size := by
    have : T.heap.size ≤ U.heap.size := q2
    rw [hT0] at this
    exact this
  have hP2 : va_P D vwCl (zws ad ca σ) U.heap := hP.kept (fun k2 q hq => by
    have h1 : q.1 < T.heap.size := by rw [hT0]; exact (hP k2 q hq).lt
    rw [kept q.1 h1, hT0])
  refine ⟨U, st1 _ ?_, .threw T.heap.size, hrun, hend, ⟨⟨Nat.le_trans hS.1 hsz, fun q h1 h2 => ?_⟩, Or.inr ⟨x, T.heap.size, ce, σ, rfl, h, hP2, ?_, hce, K.vm, K.cls⟩⟩, locs, ⟨State.WarmedH.of_rootvm (s := ({ s with heap := T.heap, slotsUsed := T.slotsUsed } : State)) rfl hW, ?_⟩, hS.2.2⟩
  · jvm_step X₁.here [X₁.here.top, hx, hb, d3, Value.category]
    exact hsteps
  · have h3 : q < T.heap.size := by rw [hT0]; exact Nat.lt_of_lt_of_le h1 hS.1
    rw [kept q h3, hT0]
    exact hS.2.1 q h1 h2
  · rw [hT0]
    exact hS.1
  · have e1 : T.setVm s.vm = { s.setFrames T.frames with heap := T.heap, slotsUsed := T.slotsUsed } := X0.same.1
    have e2 : ({ (T.setVm s.vm).setFrames U.frames with heap := U.heap, slotsUsed := U.slotsUsed } : State) = { s.setFrames U.frames with heap := U.heap, slotsUsed := U.slotsUsed } := by
      rw [e1]
      show ({ (s.setFrames T.frames).setFrames U.frames with heap := U.heap, slotsUsed := U.slotsUsed } : State) = _
      rw [State.setFrames_setFrames]
    have e3 : (T.setVm s.vm).sameButNew ({ U with vm := s.vm } : State) [] (0 + 1) (0 + 6) := ⟨by
      show ({ U with vm := s.vm } : State) = ({ (T.setVm s.vm).setFrames U.frames with heap := U.heap, slotsUsed := U.slotsUsed } : State)
      rw [e2]
      exact q1, q2, q3, q4, q5, q6⟩
    exact (X0.same.trans e3).weaken (fun y hy _ => by simpa using hy) (by omega) (by omega)
end ZU
end
section
/-! the rows of the small machine -/
section ZR
variable {own : String} {cc : ByteArray} {nL fr lo mc : Nat} {ex : List ExceptionTableEntry} {ret : Option FieldType} {po : Option Value → zS → Prop} {pt : Nat → zS → Prop} {Z : Nat → Nat → List (Option Value) → List Value → zS → Prop}
theorem z_iadd (hR : zR own cc nL fr lo mc ex ret po pt Z) {k pc : Nat} {lv : List (Option Value)} {st : List Value} {σ : zS} {x y : Int32} {n : Nat} (d : decode cc pc = .ok (.iadd, 1)) (hn : pc + 1 = n) (kk : Z k n lv (.int (x + y) :: st) σ) : Z k pc lv (.int y :: .int x :: st) σ := by
  obtain ⟨p, l, e, R, s, m, args, below, meth, c, D, ad, ca, A, hx, hb, hml, hown, hts, hE, hK, hD, hA, hret, hlk, hfr, hlo, hmc, htr, hex, hAc, rfl⟩ := hR
  intro ls H locs hl hP hS
  subst hn
  exact lv_iadd hx hb d (kk ls H locs hl hP hS)
theorem z_isub (hR : zR own cc nL fr lo mc ex ret po pt Z) {k pc : Nat} {lv : List (Option Value)} {st : List Value} {σ : zS} {x y : Int32} {n : Nat} (d : decode cc pc = .ok (.isub, 1)) (hn : pc + 1 = n) (kk : Z k n lv (.int (x - y) :: st) σ) : Z k pc lv (.int y :: .int x :: st) σ := by
  obtain ⟨p, l, e, R, s, m, args, below, meth, c, D, ad, ca, A, hx, hb, hml, hown, hts, hE, hK, hD, hA, hret, hlk, hfr, hlo, hmc, htr, hex, hAc, rfl⟩ := hR
  intro ls H locs hl hP hS
  subst hn
  exact lv_isub hx hb d (kk ls H locs hl hP hS)
theorem z_imul (hR : zR own cc nL fr lo mc ex ret po pt Z) {k pc : Nat} {lv : List (Option Value)} {st : List Value} {σ : zS} {x y : Int32} {n : Nat} (d : decode cc pc = .ok (.imul, 1)) (hn : pc + 1 = n) (kk : Z k n lv (.int (x * y) :: st) σ) : Z k pc lv (.int y :: .int x :: st) σ := by
  obtain ⟨p, l, e, R, s, m, args, below, meth, c, D, ad, ca, A, hx, hb, hml, hown, hts, hE, hK, hD, hA, hret, hlk, hfr, hlo, hmc, htr, hex, hAc, rfl⟩ := hR
  intro ls H locs hl hP hS
  subst hn
  exact lv_imul hx hb d (kk ls H locs hl hP hS)
theorem z_iand (hR : zR own cc nL fr lo mc ex ret po pt Z) {k pc : Nat} {lv : List (Option Value)} {st : List Value} {σ : zS} {x y : Int32} {n : Nat} (d : decode cc pc = .ok (.iand, 1)) (hn : pc + 1 = n) (kk : Z k n lv (.int (x &&& y) :: st) σ) : Z k pc lv (.int y :: .int x :: st) σ := by
  obtain ⟨p, l, e, R, s, m, args, below, meth, c, D, ad, ca, A, hx, hb, hml, hown, hts, hE, hK, hD, hA, hret, hlk, hfr, hlo, hmc, htr, hex, hAc, rfl⟩ := hR
  intro ls H locs hl hP hS
  subst hn
  exact lv_iand hx hb d (kk ls H locs hl hP hS)
theorem z_ior (hR : zR own cc nL fr lo mc ex ret po pt Z) {k pc : Nat} {lv : List (Option Value)} {st : List Value} {σ : zS} {x y : Int32} {n : Nat} (d : decode cc pc = .ok (.ior, 1)) (hn : pc + 1 = n) (kk : Z k n lv (.int (x ||| y) :: st) σ) : Z k pc lv (.int y :: .int x :: st) σ := by
  obtain ⟨p, l, e, R, s, m, args, below, meth, c, D, ad, ca, A, hx, hb, hml, hown, hts, hE, hK, hD, hA, hret, hlk, hfr, hlo, hmc, htr, hex, hAc, rfl⟩ := hR
  intro ls H locs hl hP hS
  subst hn
  exact lv_ior hx hb d (kk ls H locs hl hP hS)
theorem z_ixor (hR : zR own cc nL fr lo mc ex ret po pt Z) {k pc : Nat} {lv : List (Option Value)} {st : List Value} {σ : zS} {x y : Int32} {n : Nat} (d : decode cc pc = .ok (.ixor, 1)) (hn : pc + 1 = n) (kk : Z k n lv (.int (x ^^^ y) :: st) σ) : Z k pc lv (.int y :: .int x :: st) σ := by
  obtain ⟨p, l, e, R, s, m, args, below, meth, c, D, ad, ca, A, hx, hb, hml, hown, hts, hE, hK, hD, hA, hret, hlk, hfr, hlo, hmc, htr, hex, hAc, rfl⟩ := hR
  intro ls H locs hl hP hS
  subst hn
  exact lv_ixor hx hb d (kk ls H locs hl hP hS)
theorem z_ishl (hR : zR own cc nL fr lo mc ex ret po pt Z) {k pc : Nat} {lv : List (Option Value)} {st : List Value} {σ : zS} {x y : Int32} {n : Nat} (d : decode cc pc = .ok (.ishl, 1)) (hn : pc + 1 = n) (kk : Z k n lv (.int (x <<< (y &&& 31)) :: st) σ) : Z k pc lv (.int y :: .int x :: st) σ := by
  obtain ⟨p, l, e, R, s, m, args, below, meth, c, D, ad, ca, A, hx, hb, hml, hown, hts, hE, hK, hD, hA, hret, hlk, hfr, hlo, hmc, htr, hex, hAc, rfl⟩ := hR
  intro ls H locs hl hP hS
  subst hn
  exact lv_ishl hx hb d (kk ls H locs hl hP hS)
theorem z_ishr (hR : zR own cc nL fr lo mc ex ret po pt Z) {k pc : Nat} {lv : List (Option Value)} {st : List Value} {σ : zS} {x y : Int32} {n : Nat} (d : decode cc pc = .ok (.ishr, 1)) (hn : pc + 1 = n) (kk : Z k n lv (.int (x >>> (y &&& 31)) :: st) σ) : Z k pc lv (.int y :: .int x :: st) σ := by
  obtain ⟨p, l, e, R, s, m, args, below, meth, c, D, ad, ca, A, hx, hb, hml, hown, hts, hE, hK, hD, hA, hret, hlk, hfr, hlo, hmc, htr, hex, hAc, rfl⟩ := hR
  intro ls H locs hl hP hS
  subst hn
  exact lv_ishr hx hb d (kk ls H locs hl hP hS)
theorem z_idiv (hR : zR own cc nL fr lo mc ex ret po pt Z) {k pc : Nat} {lv : List (Option Value)} {st : List Value} {σ : zS} {x y : Int32} {n : Nat} (d : decode cc pc = .ok (.idiv, 1)) (hne : ¬ y = 0) (hn : pc + 1 = n) (kk : Z k n lv (.int (x / y) :: st) σ) : Z k pc lv (.int y :: .int x :: st) σ := by
  obtain ⟨p, l, e, R, s, m, args, below, meth, c, D, ad, ca, A, hx, hb, hml, hown, hts, hE, hK, hD, hA, hret, hlk, hfr, hlo, hmc, htr, hex, hAc, rfl⟩ := hR
  intro ls H locs hl hP hS
  subst hn
  exact lv_idiv hx hb d hne (kk ls H locs hl hP hS)
theorem z_irem (hR : zR own cc nL fr lo mc ex ret po pt Z) {k pc : Nat} {lv : List (Option Value)} {st : List Value} {σ : zS} {x y : Int32} {n : Nat} (d : decode cc pc = .ok (.irem, 1)) (hne : ¬ y = 0) (hn : pc + 1 = n) (kk : Z k n lv (.int (x - x / y * y) :: st) σ) : Z k pc lv (.int y :: .int x :: st) σ := by
  obtain ⟨p, l, e, R, s, m, args, below, meth, c, D, ad, ca, A, hx, hb, hml, hown, hts, hE, hK, hD, hA, hret, hlk, hfr, hlo, hmc, htr, hex, hAc, rfl⟩ := hR
  intro ls H locs hl hP hS
  subst hn
  exact lv_irem hx hb d hne (kk ls H locs hl hP hS)
theorem z_iushr (hR : zR own cc nL fr lo mc ex ret po pt Z) {k pc : Nat} {lv : List (Option Value)} {st : List Value} {σ : zS} {x y : Int32} {n : Nat} (d : decode cc pc = .ok (.iushr, 1)) (hn : pc + 1 = n) (kk : Z k n lv (.int ((x.toUInt32 >>> (y.toUInt32 &&& Int32.toUInt32 31)).toInt32) :: st) σ) : Z k pc lv (.int y :: .int x :: st) σ := by
  obtain ⟨p, l, e, R, s, m, args, below, meth, c, D, ad, ca, A, hx, hb, hml, hown, hts, hE, hK, hD, hA, hret, hlk, hfr, hlo, hmc, htr, hex, hAc, rfl⟩ := hR
  intro ls H locs hl hP hS
  subst hn
  exact lv_iushr hx hb d rfl (kk ls H locs hl hP hS)
theorem z_land (hR : zR own cc nL fr lo mc ex ret po pt Z) {k pc : Nat} {lv : List (Option Value)} {st : List Value} {σ : zS} {x y : Int64} {n : Nat} (d : decode cc pc = .ok (.land, 1)) (hn : pc + 1 = n) (kk : Z k n lv (.long (x &&& y) :: st) σ) : Z k pc lv (.long y :: .long x :: st) σ := by
  obtain ⟨p, l, e, R, s, m, args, below, meth, c, D, ad, ca, A, hx, hb, hml, hown, hts, hE, hK, hD, hA, hret, hlk, hfr, hlo, hmc, htr, hex, hAc, rfl⟩ := hR
  intro ls H locs hl hP hS
  subst hn
  exact lv_land hx hb d (kk ls H locs hl hP hS)
theorem z_lor (hR : zR own cc nL fr lo mc ex ret po pt Z) {k pc : Nat} {lv : List (Option Value)} {st : List Value} {σ : zS} {x y : Int64} {n : Nat} (d : decode cc pc = .ok (.lor, 1)) (hn : pc + 1 = n) (kk : Z k n lv (.long (x ||| y) :: st) σ) : Z k pc lv (.long y :: .long x :: st) σ := by
  obtain ⟨p, l, e, R, s, m, args, below, meth, c, D, ad, ca, A, hx, hb, hml, hown, hts, hE, hK, hD, hA, hret, hlk, hfr, hlo, hmc, htr, hex, hAc, rfl⟩ := hR
  intro ls H locs hl hP hS
  subst hn
  exact lv_lor hx hb d (kk ls H locs hl hP hS)
theorem z_lsub (hR : zR own cc nL fr lo mc ex ret po pt Z) {k pc : Nat} {lv : List (Option Value)} {st : List Value} {σ : zS} {x y : Int64} {n : Nat} (d : decode cc pc = .ok (.lsub, 1)) (hn : pc + 1 = n) (kk : Z k n lv (.long (x - y) :: st) σ) : Z k pc lv (.long y :: .long x :: st) σ := by
  obtain ⟨p, l, e, R, s, m, args, below, meth, c, D, ad, ca, A, hx, hb, hml, hown, hts, hE, hK, hD, hA, hret, hlk, hfr, hlo, hmc, htr, hex, hAc, rfl⟩ := hR
  intro ls H locs hl hP hS
  subst hn
  exact lv_lsub hx hb d (kk ls H locs hl hP hS)
theorem z_lushr (hR : zR own cc nL fr lo mc ex ret po pt Z) {k pc : Nat} {lv : List (Option Value)} {st : List Value} {σ : zS} {x : Int64} {y : Int32} {n : Nat} (d : decode cc pc = .ok (.lushr, 1)) (hn : pc + 1 = n) (kk : Z k n lv (.long ((x.toUInt64 >>> (y.toInt64.toUInt64 &&& Int64.toUInt64 63)).toInt64) :: st) σ) : Z k pc lv (.int y :: .long x :: st) σ := by
  obtain ⟨p, l, e, R, s, m, args, below, meth, c, D, ad, ca, A, hx, hb, hml, hown, hts, hE, hK, hD, hA, hret, hlk, hfr, hlo, hmc, htr, hex, hAc, rfl⟩ := hR
  intro ls H locs hl hP hS
  subst hn
  exact lv_lushr hx hb d rfl (kk ls H locs hl hP hS)
theorem z_lshl (hR : zR own cc nL fr lo mc ex ret po pt Z) {k pc : Nat} {lv : List (Option Value)} {st : List Value} {σ : zS} {x : Int64} {y : Int32} {n : Nat} (d : decode cc pc = .ok (.lshl, 1)) (hn : pc + 1 = n) (kk : Z k n lv (.long (x <<< (y.toInt64 &&& 63)) :: st) σ) : Z k pc lv (.int y :: .long x :: st) σ := by
  obtain ⟨p, l, e, R, s, m, args, below, meth, c, D, ad, ca, A, hx, hb, hml, hown, hts, hE, hK, hD, hA, hret, hlk, hfr, hlo, hmc, htr, hex, hAc, rfl⟩ := hR
  intro ls H locs hl hP hS
  subst hn
  exact lv_lshl hx hb d rfl (kk ls H locs hl hP hS)
theorem z_lshr (hR : zR own cc nL fr lo mc ex ret po pt Z) {k pc : Nat} {lv : List (Option Value)} {st : List Value} {σ : zS} {x : Int64} {y : Int32} {n : Nat} (d : decode cc pc = .ok (.lshr, 1)) (hn : pc + 1 = n) (kk : Z k n lv (.long (x >>> (y.toInt64 &&& 63)) :: st) σ) : Z k pc lv (.int y :: .long x :: st) σ := by
  obtain ⟨p, l, e, R, s, m, args, below, meth, c, D, ad, ca, A, hx, hb, hml, hown, hts, hE, hK, hD, hA, hret, hlk, hfr, hlo, hmc, htr, hex, hAc, rfl⟩ := hR
  intro ls H locs hl hP hS
  subst hn
  exact lv_lshr hx hb d rfl (kk ls H locs hl hP hS)
theorem z_lcmp (hR : zR own cc nL fr lo mc ex ret po pt Z) {k pc : Nat} {lv : List (Option Value)} {st : List Value} {σ : zS} {x y : Int64} {n : Nat} (d : decode cc pc = .ok (.lcmp, 1)) (hn : pc + 1 = n) (kk : Z k n lv (.int (lg_cmp x y) :: st) σ) : Z k pc lv (.long y :: .long x :: st) σ := by
  obtain ⟨p, l, e, R, s, m, args, below, meth, c, D, ad, ca, A, hx, hb, hml, hown, hts, hE, hK, hD, hA, hret, hlk, hfr, hlo, hmc, htr, hex, hAc, rfl⟩ := hR
  intro ls H locs hl hP hS
  subst hn
  exact W.lcmp hx hb d (kk ls H locs hl hP hS)
theorem z_i2l (hR : zR own cc nL fr lo mc ex ret po pt Z) {k pc : Nat} {lv : List (Option Value)} {st : List Value} {σ : zS} {x : Int32} {n : Nat} (d : decode cc pc = .ok (.i2l, 1)) (hn : pc + 1 = n) (kk : Z k n lv (.long x.toInt64 :: st) σ) : Z k pc lv (.int x :: st) σ := by
  obtain ⟨p, l, e, R, s, m, args, below, meth, c, D, ad, ca, A, hx, hb, hml, hown, hts, hE, hK, hD, hA, hret, hlk, hfr, hlo, hmc, htr, hex, hAc, rfl⟩ := hR
  intro ls H locs hl hP hS
  subst hn
  exact lv_i2l hx hb d rfl (kk ls H locs hl hP hS)
theorem z_l2i (hR : zR own cc nL fr lo mc ex ret po pt Z) {k pc : Nat} {lv : List (Option Value)} {st : List Value} {σ : zS} {x : Int64} {n : Nat} (d : decode cc pc = .ok (.l2i, 1)) (hn : pc + 1 = n) (kk : Z k n lv (.int x.toInt32 :: st) σ) : Z k pc lv (.long x :: st) σ := by
  obtain ⟨p, l, e, R, s, m, args, below, meth, c, D, ad, ca, A, hx, hb, hml, hown, hts, hE, hK, hD, hA, hret, hlk, hfr, hlo, hmc, htr, hex, hAc, rfl⟩ := hR
  intro ls H locs hl hP hS
  subst hn
  exact lv_l2i hx hb d rfl (kk ls H locs hl hP hS)
theorem z_i2c (hR : zR own cc nL fr lo mc ex ret po pt Z) {k pc : Nat} {lv : List (Option Value)} {st : List Value} {σ : zS} {x : Int32} {n : Nat} (d : decode cc pc = .ok (.i2c, 1)) (hn : pc + 1 = n) (kk : Z k n lv (.int ((x.toUInt32 % 65536).toInt32) :: st) σ) : Z k pc lv (.int x :: st) σ := by
  obtain ⟨p, l, e, R, s, m, args, below, meth, c, D, ad, ca, A, hx, hb, hml, hown, hts, hE, hK, hD, hA, hret, hlk, hfr, hlo, hmc, htr, hex, hAc, rfl⟩ := hR
  intro ls H locs hl hP hS
  subst hn
  exact lv_i2c hx hb d rfl (kk ls H locs hl hP hS)
theorem z_iconst (hR : zR own cc nL fr lo mc ex ret po pt Z) {k pc : Nat} {lv : List (Option Value)} {st : List Value} {σ : zS} {i : Int} {v : Int32} {n : Nat} (d : decode cc pc = .ok (.iconst i, 1)) (hv : Int32.ofInt i = v) (hn : pc + 1 = n) (kk : Z k n lv (.int v :: st) σ) : Z k pc lv (st) σ := by
  obtain ⟨p, l, e, R, s, m, args, below, meth, c, D, ad, ca, A, hx, hb, hml, hown, hts, hE, hK, hD, hA, hret, hlk, hfr, hlo, hmc, htr, hex, hAc, rfl⟩ := hR
  intro ls H locs hl hP hS
  subst hn
  exact lv_iconst hx hb d hv (kk ls H locs hl hP hS)
theorem z_bipush (hR : zR own cc nL fr lo mc ex ret po pt Z) {k pc : Nat} {lv : List (Option Value)} {st : List Value} {σ : zS} {i : Int} {v : Int32} {n : Nat} (d : decode cc pc = .ok (.bipush i, 2)) (hv : (Int8.ofInt i).toInt32 = v) (hn : pc + 2 = n) (kk : Z k n lv (.int v :: st) σ) : Z k pc lv (st) σ := by
  obtain ⟨p, l, e, R, s, m, args, below, meth, c, D, ad, ca, A, hx, hb, hml, hown, hts, hE, hK, hD, hA, hret, hlk, hfr, hlo, hmc, htr, hex, hAc, rfl⟩ := hR
  intro ls H locs hl hP hS
  subst hn
  exact lv_bipush hx hb d hv (kk ls H locs hl hP hS)
theorem z_sipush (hR : zR own cc nL fr lo mc ex ret po pt Z) {k pc : Nat} {lv : List (Option Value)} {st : List Value} {σ : zS} {i : Int} {v : Int32} {n : Nat} (d : decode cc pc = .ok (.sipush i, 3)) (hv : (Int16.ofInt i).toInt32 = v) (hn : pc + 3 = n) (kk : Z k n lv (.int v :: st) σ) : Z k pc lv (st) σ := by
  obtain ⟨p, l, e, R, s, m, args, below, meth, c, D, ad, ca, A, hx, hb, hml, hown, hts, hE, hK, hD, hA, hret, hlk, hfr, hlo, hmc, htr, hex, hAc, rfl⟩ := hR
  intro ls H locs hl hP hS
  subst hn
  exact lv_sipush hx hb d hv (kk ls H locs hl hP hS)
theorem z_lconst (hR : zR own cc nL fr lo mc ex ret po pt Z) {k pc : Nat} {lv : List (Option Value)} {st : List Value} {σ : zS} {i : Fin 2} {v : Int64} {n : Nat} (d : decode cc pc = .ok (.lconst i, 1)) (hv : Int64.ofNat (i : Nat) = v) (hn : pc + 1 = n) (kk : Z k n lv (.long v :: st) σ) : Z k pc lv (st) σ := by
  obtain ⟨p, l, e, R, s, m, args, below, meth, c, D, ad, ca, A, hx, hb, hml, hown, hts, hE, hK, hD, hA, hret, hlk, hfr, hlo, hmc, htr, hex, hAc, rfl⟩ := hR
  intro ls H locs hl hP hS
  subst hn
  exact lv_lconst hx hb d hv (kk ls H locs hl hP hS)
theorem z_ldc (hR : zR own cc nL fr lo mc ex ret po pt Z) {k pc : Nat} {lv : List (Option Value)} {st : List Value} {σ : zS} {i : Nat} {v : Int32} {n : Nat} (d : decode cc pc = .ok (.ldc i, 2)) (hc : Cond.constant own i v ∈ zwd) (hn : pc + 2 = n) (kk : Z k n lv (.int v :: st) σ) : Z k pc lv (st) σ := by
  obtain ⟨p, l, e, R, s, m, args, below, meth, c, D, ad, ca, A, hx, hb, hml, hown, hts, hE, hK, hD, hA, hret, hlk, hfr, hlo, hmc, htr, hex, hAc, rfl⟩ := hR
  intro ls H locs hl hP hS
  subst hn
  exact lv_ldc hx hb hown (hts _ hc) d (kk ls H locs hl hP hS)
theorem z_ldc2 (hR : zR own cc nL fr lo mc ex ret po pt Z) {k pc : Nat} {lv : List (Option Value)} {st : List Value} {σ : zS} {i : Nat} {v : Int64} {n : Nat} (d : decode cc pc = .ok (.ldc2_w i, 3)) (hc : Cond.constantLong own i v ∈ zwd) (hn : pc + 3 = n) (kk : Z k n lv (.long v :: st) σ) : Z k pc lv (st) σ := by
  obtain ⟨p, l, e, R, s, m, args, below, meth, c, D, ad, ca, A, hx, hb, hml, hown, hts, hE, hK, hD, hA, hret, hlk, hfr, hlo, hmc, htr, hex, hAc, rfl⟩ := hR
  intro ls H locs hl hP hS
  subst hn
  exact lv_ldc2 hx hb hown (hts _ hc) d (kk ls H locs hl hP hS)
theorem z_dup (hR : zR own cc nL fr lo mc ex ret po pt Z) {k pc : Nat} {lv : List (Option Value)} {st : List Value} {σ : zS} {va : Value} {n : Nat} (d : decode cc pc = .ok (.dup, 1)) (hva : va.category = 1) (hn : pc + 1 = n) (kk : Z k n lv (va :: va :: st) σ) : Z k pc lv (va :: st) σ := by
  obtain ⟨p, l, e, R, s, m, args, below, meth, c, D, ad, ca, A, hx, hb, hml, hown, hts, hE, hK, hD, hA, hret, hlk, hfr, hlo, hmc, htr, hex, hAc, rfl⟩ := hR
  intro ls H locs hl hP hS
  subst hn
  exact lv_dup hx hb d ((zv_cat ad va).trans hva) (kk ls H locs hl hP hS)
theorem z_pop (hR : zR own cc nL fr lo mc ex ret po pt Z) {k pc : Nat} {lv : List (Option Value)} {st : List Value} {σ : zS} {va : Value} {n : Nat} (d : decode cc pc = .ok (.pop, 1)) (hva : va.category = 1) (hn : pc + 1 = n) (kk : Z k n lv (st) σ) : Z k pc lv (va :: st) σ := by
  obtain ⟨p, l, e, R, s, m, args, below, meth, c, D, ad, ca, A, hx, hb, hml, hown, hts, hE, hK, hD, hA, hret, hlk, hfr, hlo, hmc, htr, hex, hAc, rfl⟩ := hR
  intro ls H locs hl hP hS
  subst hn
  exact lv_pop hx hb d ((zv_cat ad va).trans hva) (kk ls H locs hl hP hS)
theorem z_dup_x1 (hR : zR own cc nL fr lo mc ex ret po pt Z) {k pc : Nat} {lv : List (Option Value)} {st : List Value} {σ : zS} {va vb : Value} {n : Nat} (d : decode cc pc = .ok (.dup_x1, 1)) (hva : va.category = 1) (hvb : vb.category = 1) (hn : pc + 1 = n) (kk : Z k n lv (va :: vb :: va :: st) σ) : Z k pc lv (va :: vb :: st) σ := by
  obtain ⟨p, l, e, R, s, m, args, below, meth, c, D, ad, ca, A, hx, hb, hml, hown, hts, hE, hK, hD, hA, hret, hlk, hfr, hlo, hmc, htr, hex, hAc, rfl⟩ := hR
  intro ls H locs hl hP hS
  subst hn
  exact lv_dup_x1 hx hb d ((zv_cat ad va).trans hva) ((zv_cat ad vb).trans hvb) (kk ls H locs hl hP hS)
theorem z_dup_x2 (hR : zR own cc nL fr lo mc ex ret po pt Z) {k pc : Nat} {lv : List (Option Value)} {st : List Value} {σ : zS} {va vb vd : Value} {n : Nat} (d : decode cc pc = .ok (.dup_x2, 1)) (hva : va.category = 1) (hvb : vb.category = 1) (hvd : vd.category = 1) (hn : pc + 1 = n) (kk : Z k n lv (va :: vb :: vd :: va :: st) σ) : Z k pc lv (va :: vb :: vd :: st) σ := by
  obtain ⟨p, l, e, R, s, m, args, below, meth, c, D, ad, ca, A, hx, hb, hml, hown, hts, hE, hK, hD, hA, hret, hlk, hfr, hlo, hmc, htr, hex, hAc, rfl⟩ := hR
  intro ls H locs hl hP hS
  subst hn
  exact lv_dup_x2 hx hb d ((zv_cat ad va).trans hva) ((zv_cat ad vb).trans hvb) ((zv_cat ad vd).trans hvd) (kk ls H locs hl hP hS)
theorem z_dup2_11 (hR : zR own cc nL fr lo mc ex ret po pt Z) {k pc : Nat} {lv : List (Option Value)} {st : List Value} {σ : zS} {va vb : Value} {n : Nat} (d : decode cc pc = .ok (.dup2, 1)) (hva : va.category = 1) (hvb : vb.category = 1) (hn : pc + 1 = n) (kk : Z k n lv (va :: vb :: va :: vb :: st) σ) : Z k pc lv (va :: vb :: st) σ := by
  obtain ⟨p, l, e, R, s, m, args, below, meth, c, D, ad, ca, A, hx, hb, hml, hown, hts, hE, hK, hD, hA, hret, hlk, hfr, hlo, hmc, htr, hex, hAc, rfl⟩ := hR
  intro ls H locs hl hP hS
  subst hn
  exact lv_dup2_11 hx hb d ((zv_cat ad va).trans hva) ((zv_cat ad vb).trans hvb) (kk ls H locs hl hP hS)
theorem z_iload_n (hR : zR own cc nL fr lo mc ex ret po pt Z) {k pc : Nat} {lv : List (Option Value)} {st : List Value} {σ : zS} {i : Fin 4} {x : Int32} {n : Nat} (d : decode cc pc = .ok (.iload_n i, 1)) (hn : pc + 1 = n) (hv : lv[(i : Nat)]? = some (some (.int x))) (kk : Z k n lv (.int x :: st) σ) : Z k pc lv st σ := by
  obtain ⟨p, l, e, R, s, m, args, below, meth, c, D, ad, ca, A, hx, hb, hml, hown, hts, hE, hK, hD, hA, hret, hlk, hfr, hlo, hmc, htr, hex, hAc, rfl⟩ := hR
  intro ls H locs hl hP hS
  subst hn
  exact lv_iload_n hx hb d rfl (zLv_at hl hv) (kk ls H locs hl hP hS)
theorem z_iload (hR : zR own cc nL fr lo mc ex ret po pt Z) {k pc : Nat} {lv : List (Option Value)} {st : List Value} {σ : zS} {i : Nat} {x : Int32} {n : Nat} (d : decode cc pc = .ok (.iload i, 2)) (hn : pc + 2 = n) (hv : lv[i]? = some (some (.int x))) (kk : Z k n lv (.int x :: st) σ) : Z k pc lv st σ := by
  obtain ⟨p, l, e, R, s, m, args, below, meth, c, D, ad, ca, A, hx, hb, hml, hown, hts, hE, hK, hD, hA, hret, hlk, hfr, hlo, hmc, htr, hex, hAc, rfl⟩ := hR
  intro ls H locs hl hP hS
  subst hn
  exact lv_iload hx hb d (zLv_at hl hv) (kk ls H locs hl hP hS)
theorem z_lload_n (hR : zR own cc nL fr lo mc ex ret po pt Z) {k pc : Nat} {lv : List (Option Value)} {st : List Value} {σ : zS} {i : Fin 4} {x : Int64} {n : Nat} (d : decode cc pc = .ok (.lload_n i, 1)) (hn : pc + 1 = n) (hv : lv[(i : Nat)]? = some (some (.long x))) (kk : Z k n lv (.long x :: st) σ) : Z k pc lv st σ := by
  obtain ⟨p, l, e, R, s, m, args, below, meth, c, D, ad, ca, A, hx, hb, hml, hown, hts, hE, hK, hD, hA, hret, hlk, hfr, hlo, hmc, htr, hex, hAc, rfl⟩ := hR
  intro ls H locs hl hP hS
  subst hn
  exact lv_lload_n hx hb d rfl (zLv_at hl hv) (kk ls H locs hl hP hS)
theorem z_lload (hR : zR own cc nL fr lo mc ex ret po pt Z) {k pc : Nat} {lv : List (Option Value)} {st : List Value} {σ : zS} {i : Nat} {x : Int64} {n : Nat} (d : decode cc pc = .ok (.lload i, 2)) (hn : pc + 2 = n) (hv : lv[i]? = some (some (.long x))) (kk : Z k n lv (.long x :: st) σ) : Z k pc lv st σ := by
  obtain ⟨p, l, e, R, s, m, args, below, meth, c, D, ad, ca, A, hx, hb, hml, hown, hts, hE, hK, hD, hA, hret, hlk, hfr, hlo, hmc, htr, hex, hAc, rfl⟩ := hR
  intro ls H locs hl hP hS
  subst hn
  exact lv_lload hx hb d (zLv_at hl hv) (kk ls H locs hl hP hS)
theorem z_aload_n (hR : zR own cc nL fr lo mc ex ret po pt Z) {k pc : Nat} {lv : List (Option Value)} {st : List Value} {σ : zS} {i : Fin 4} {x : Nat} {n : Nat} (d : decode cc pc = .ok (.aload_n i, 1)) (hn : pc + 1 = n) (hv : lv[(i : Nat)]? = some (some (.ref x))) (kk : Z k n lv (.ref x :: st) σ) : Z k pc lv st σ := by
  obtain ⟨p, l, e, R, s, m, args, below, meth, c, D, ad, ca, A, hx, hb, hml, hown, hts, hE, hK, hD, hA, hret, hlk, hfr, hlo, hmc, htr, hex, hAc, rfl⟩ := hR
  intro ls H locs hl hP hS
  subst hn
  exact lv_aload_n hx hb d rfl (zLv_at hl hv) (kk ls H locs hl hP hS)
theorem z_aload (hR : zR own cc nL fr lo mc ex ret po pt Z) {k pc : Nat} {lv : List (Option Value)} {st : List Value} {σ : zS} {i : Nat} {x : Nat} {n : Nat} (d : decode cc pc = .ok (.aload i, 2)) (hn : pc + 2 = n) (hv : lv[i]? = some (some (.ref x))) (kk : Z k n lv (.ref x :: st) σ) : Z k pc lv st σ := by
  obtain ⟨p, l, e, R, s, m, args, below, meth, c, D, ad, ca, A, hx, hb, hml, hown, hts, hE, hK, hD, hA, hret, hlk, hfr, hlo, hmc, htr, hex, hAc, rfl⟩ := hR
  intro ls H locs hl hP hS
  subst hn
  exact lv_aload hx hb d (zLv_at hl hv) (kk ls H locs hl hP hS)
theorem z_istore_n (hR : zR own cc nL fr lo mc ex ret po pt Z) {k pc : Nat} {lv : List (Option Value)} {st : List Value} {σ : zS} {i : Fin 4} {x : Int32} {n : Nat} (d : decode cc pc = .ok (.istore_n i, 1)) (hn : pc + 1 = n) (hi : (i : Nat) < nL) (ho : zLok lv i = true) (kk : Z k n (lv.set i (some (.int x))) st σ) : Z k pc lv (.int x :: st) σ := by
  obtain ⟨p, l, e, R, s, m, args, below, meth, c, D, ad, ca, A, hx, hb, hml, hown, hts, hE, hK, hD, hA, hret, hlk, hfr, hlo, hmc, htr, hex, hAc, rfl⟩ := hR
  intro ls H locs hl hP hS
  subst hn
  exact lv_istore_n hx hb d rfl hl hi rfl (fun ls1 h1 => kk ls1 H locs (zLv_set1 (v := .int x) h1 ho) hP hS)
theorem z_istore (hR : zR own cc nL fr lo mc ex ret po pt Z) {k pc : Nat} {lv : List (Option Value)} {st : List Value} {σ : zS} {i : Nat} {x : Int32} {n : Nat} (d : decode cc pc = .ok (.istore i, 2)) (hn : pc + 2 = n) (hi : i < nL) (ho : zLok lv i = true) (kk : Z k n (lv.set i (some (.int x))) st σ) : Z k pc lv (.int x :: st) σ := by
  obtain ⟨p, l, e, R, s, m, args, below, meth, c, D, ad, ca, A, hx, hb, hml, hown, hts, hE, hK, hD, hA, hret, hlk, hfr, hlo, hmc, htr, hex, hAc, rfl⟩ := hR
  intro ls H locs hl hP hS
  subst hn
  exact lv_istore hx hb d hl hi rfl (fun ls1 h1 => kk ls1 H locs (zLv_set1 (v := .int x) h1 ho) hP hS)
theorem z_astore_n (hR : zR own cc nL fr lo mc ex ret po pt Z) {k pc : Nat} {lv : List (Option Value)} {st : List Value} {σ : zS} {i : Fin 4} {x : Nat} {n : Nat} (d : decode cc pc = .ok (.astore_n i, 1)) (hn : pc + 1 = n) (hi : (i : Nat) < nL) (ho : zLok lv i = true) (kk : Z k n (lv.set i (some (.ref x))) st σ) : Z k pc lv (.ref x :: st) σ := by
  obtain ⟨p, l, e, R, s, m, args, below, meth, c, D, ad, ca, A, hx, hb, hml, hown, hts, hE, hK, hD, hA, hret, hlk, hfr, hlo, hmc, htr, hex, hAc, rfl⟩ := hR
  intro ls H locs hl hP hS
  subst hn
  exact lv_astore_n hx hb d rfl hl hi rfl (fun ls1 h1 => kk ls1 H locs (zLv_set1 (v := .ref x) h1 ho) hP hS)
theorem z_astore (hR : zR own cc nL fr lo mc ex ret po pt Z) {k pc : Nat} {lv : List (Option Value)} {st : List Value} {σ : zS} {i : Nat} {x : Nat} {n : Nat} (d : decode cc pc = .ok (.astore i, 2)) (hn : pc + 2 = n) (hi : i < nL) (ho : zLok lv i = true) (kk : Z k n (lv.set i (some (.ref x))) st σ) : Z k pc lv (.ref x :: st) σ := by
  obtain ⟨p, l, e, R, s, m, args, below, meth, c, D, ad, ca, A, hx, hb, hml, hown, hts, hE, hK, hD, hA, hret, hlk, hfr, hlo, hmc, htr, hex, hAc, rfl⟩ := hR
  intro ls H locs hl hP hS
  subst hn
  exact lv_astore hx hb d hl hi rfl (fun ls1 h1 => kk ls1 H locs (zLv_set1 (v := .ref x) h1 ho) hP hS)
theorem z_lstore_n (hR : zR own cc nL fr lo mc ex ret po pt Z) {k pc : Nat} {lv : List (Option Value)} {st : List Value} {σ : zS} {i : Fin 4} {x : Int64} {n : Nat} (d : decode cc pc = .ok (.lstore_n i, 1)) (hn : pc + 1 = n) (hi : (i : Nat) + 1 < nL) (ho : zLok lv (i : Nat) = true) (kk : Z k n ((lv.set (i : Nat) (some (.long x))).set ((i : Nat) + 1) none) st σ) : Z k pc lv (.long x :: st) σ := by
  obtain ⟨p, l, e, R, s, m, args, below, meth, c, D, ad, ca, A, hx, hb, hml, hown, hts, hE, hK, hD, hA, hret, hlk, hfr, hlo, hmc, htr, hex, hAc, rfl⟩ := hR
  intro ls H locs hl hP hS
  subst hn
  exact lv_lstore_n hx hb d rfl hl hi rfl (fun ls1 h1 => kk ls1 H locs (zLv_set2 (x := x) h1 ho) hP hS)
theorem z_lstore (hR : zR own cc nL fr lo mc ex ret po pt Z) {k pc : Nat} {lv : List (Option Value)} {st : List Value} {σ : zS} {i : Nat} {x : Int64} {n : Nat} (d : decode cc pc = .ok (.lstore i, 2)) (hn : pc + 2 = n) (hi : i + 1 < nL) (ho : zLok lv i = true) (kk : Z k n ((lv.set i (some (.long x))).set (i + 1) none) st σ) : Z k pc lv (.long x :: st) σ := by
  obtain ⟨p, l, e, R, s, m, args, below, meth, c, D, ad, ca, A, hx, hb, hml, hown, hts, hE, hK, hD, hA, hret, hlk, hfr, hlo, hmc, htr, hex, hAc, rfl⟩ := hR
  intro ls H locs hl hP hS
  subst hn
  exact lv_lstore hx hb d hl hi rfl (fun ls1 h1 => kk ls1 H locs (zLv_set2 (x := x) h1 ho) hP hS)
theorem z_iinc (hR : zR own cc nL fr lo mc ex ret po pt Z) {k pc : Nat} {lv : List (Option Value)} {st : List Value} {σ : zS} {i : Nat} {q : Int} {x q32 : Int32} {n : Nat} (d : decode cc pc = .ok (.iinc i q, 3)) (hn : pc + 3 = n) (hq : Int32.ofInt q = q32) (hi : i < nL) (ho : zLok lv i = true) (hv : lv[i]? = some (some (.int x))) (kk : Z k n (lv.set i (some (.int (x + q32)))) st σ) : Z k pc lv st σ := by
  obtain ⟨p, l, e, R, s, m, args, below, meth, c, D, ad, ca, A, hx, hb, hml, hown, hts, hE, hK, hD, hA, hret, hlk, hfr, hlo, hmc, htr, hex, hAc, rfl⟩ := hR
  intro ls H locs hl hP hS
  subst hn
  subst hq
  obtain ⟨j, hj⟩ := zLv_place (ad := ad) hv
  exact lv_iinc hx hb d hl hj rfl hi rfl (fun ls1 h1 => kk ls1 H locs (zLv_set1 (v := .int _) h1 ho) hP hS)
theorem z_if_eq (hR : zR own cc nL fr lo mc ex ret po pt Z) {k pc : Nat} {lv : List (Option Value)} {st : List Value} {σ : zS} {x : Int32} {off : Int} {n t : Nat} (d : decode cc pc = .ok (.ifCond .eq off, 3)) (hn : pc + 3 = n) (ht : (pc : Int) + off = (t : Int)) (kt : x = 0 → Z k t lv st σ) (kf : ¬ x = 0 → Z k n lv st σ) : Z k pc lv (.int x :: st) σ := by
  obtain ⟨p, l, e, R, s, m, args, below, meth, c, D, ad, ca, A, hx, hb, hml, hown, hts, hE, hK, hD, hA, hret, hlk, hfr, hlo, hmc, htr, hex, hAc, rfl⟩ := hR
  intro ls H locs hl hP hS
  subst hn
  exact lv_if_eq hx hb d ht (fun h => kt h ls H locs hl hP hS) (fun h => kf h ls H locs hl hP hS)
theorem z_icmp_eq (hR : zR own cc nL fr lo mc ex ret po pt Z) {k pc : Nat} {lv : List (Option Value)} {st : List Value} {σ : zS} {x y : Int32} {off : Int} {n t : Nat} (d : decode cc pc = .ok (.if_icmp .eq off, 3)) (hn : pc + 3 = n) (ht : (pc : Int) + off = (t : Int)) (kt : x = y → Z k t lv st σ) (kf : ¬ x = y → Z k n lv st σ) : Z k pc lv (.int y :: .int x :: st) σ := by
  obtain ⟨p, l, e, R, s, m, args, below, meth, c, D, ad, ca, A, hx, hb, hml, hown, hts, hE, hK, hD, hA, hret, hlk, hfr, hlo, hmc, htr, hex, hAc, rfl⟩ := hR
  intro ls H locs hl hP hS
  subst hn
  exact lv_icmp_eq hx hb d ht (fun h => kt h ls H locs hl hP hS) (fun h => kf h ls H locs hl hP hS)
theorem z_if_ne (hR : zR own cc nL fr lo mc ex ret po pt Z) {k pc : Nat} {lv : List (Option Value)} {st : List Value} {σ : zS} {x : Int32} {off : Int} {n t : Nat} (d : decode cc pc = .ok (.ifCond .ne off, 3)) (hn : pc + 3 = n) (ht : (pc : Int) + off = (t : Int)) (kt : ¬ x = 0 → Z k t lv st σ) (kf : x = 0 → Z k n lv st σ) : Z k pc lv (.int x :: st) σ := by
  obtain ⟨p, l, e, R, s, m, args, below, meth, c, D, ad, ca, A, hx, hb, hml, hown, hts, hE, hK, hD, hA, hret, hlk, hfr, hlo, hmc, htr, hex, hAc, rfl⟩ := hR
  intro ls H locs hl hP hS
  subst hn
  exact lv_if_ne hx hb d ht (fun h => kt h ls H locs hl hP hS) (fun h => kf h ls H locs hl hP hS)
theorem z_icmp_ne (hR : zR own cc nL fr lo mc ex ret po pt Z) {k pc : Nat} {lv : List (Option Value)} {st : List Value} {σ : zS} {x y : Int32} {off : Int} {n t : Nat} (d : decode cc pc = .ok (.if_icmp .ne off, 3)) (hn : pc + 3 = n) (ht : (pc : Int) + off = (t : Int)) (kt : ¬ x = y → Z k t lv st σ) (kf : x = y → Z k n lv st σ) : Z k pc lv (.int y :: .int x :: st) σ := by
  obtain ⟨p, l, e, R, s, m, args, below, meth, c, D, ad, ca, A, hx, hb, hml, hown, hts, hE, hK, hD, hA, hret, hlk, hfr, hlo, hmc, htr, hex, hAc, rfl⟩ := hR
  intro ls H locs hl hP hS
  subst hn
  exact lv_icmp_ne hx hb d ht (fun h => kt h ls H locs hl hP hS) (fun h => kf h ls H locs hl hP hS)
theorem z_if_lt (hR : zR own cc nL fr lo mc ex ret po pt Z) {k pc : Nat} {lv : List (Option Value)} {st : List Value} {σ : zS} {x : Int32} {off : Int} {n t : Nat} (d : decode cc pc = .ok (.ifCond .lt off, 3)) (hn : pc + 3 = n) (ht : (pc : Int) + off = (t : Int)) (kt : x < 0 → Z k t lv st σ) (kf : ¬ x < 0 → Z k n lv st σ) : Z k pc lv (.int x :: st) σ := by
  obtain ⟨p, l, e, R, s, m, args, below, meth, c, D, ad, ca, A, hx, hb, hml, hown, hts, hE, hK, hD, hA, hret, hlk, hfr, hlo, hmc, htr, hex, hAc, rfl⟩ := hR
  intro ls H locs hl hP hS
  subst hn
  exact lv_if_lt hx hb d ht (fun h => kt h ls H locs hl hP hS) (fun h => kf h ls H locs hl hP hS)
theorem z_icmp_lt (hR : zR own cc nL fr lo mc ex ret po pt Z) {k pc : Nat} {lv : List (Option Value)} {st : List Value} {σ : zS} {x y : Int32} {off : Int} {n t : Nat} (d : decode cc pc = .ok (.if_icmp .lt off, 3)) (hn : pc + 3 = n) (ht : (pc : Int) + off = (t : Int)) (kt : x < y → Z k t lv st σ) (kf : ¬ x < y → Z k n lv st σ) : Z k pc lv (.int y :: .int x :: st) σ := by
  obtain ⟨p, l, e, R, s, m, args, below, meth, c, D, ad, ca, A, hx, hb, hml, hown, hts, hE, hK, hD, hA, hret, hlk, hfr, hlo, hmc, htr, hex, hAc, rfl⟩ := hR
  intro ls H locs hl hP hS
  subst hn
  exact lv_icmp_lt hx hb d ht (fun h => kt h ls H locs hl hP hS) (fun h => kf h ls H locs hl hP hS)
theorem z_if_ge (hR : zR own cc nL fr lo mc ex ret po pt Z) {k pc : Nat} {lv : List (Option Value)} {st : List Value} {σ : zS} {x : Int32} {off : Int} {n t : Nat} (d : decode cc pc = .ok (.ifCond .ge off, 3)) (hn : pc + 3 = n) (ht : (pc : Int) + off = (t : Int)) (kt : 0 ≤ x → Z k t lv st σ) (kf : ¬ 0 ≤ x → Z k n lv st σ) : Z k pc lv (.int x :: st) σ := by
  obtain ⟨p, l, e, R, s, m, args, below, meth, c, D, ad, ca, A, hx, hb, hml, hown, hts, hE, hK, hD, hA, hret, hlk, hfr, hlo, hmc, htr, hex, hAc, rfl⟩ := hR
  intro ls H locs hl hP hS
  subst hn
  exact lv_if_ge hx hb d ht (fun h => kt h ls H locs hl hP hS) (fun h => kf h ls H locs hl hP hS)
theorem z_icmp_ge (hR : zR own cc nL fr lo mc ex ret po pt Z) {k pc : Nat} {lv : List (Option Value)} {st : List Value} {σ : zS} {x y : Int32} {off : Int} {n t : Nat} (d : decode cc pc = .ok (.if_icmp .ge off, 3)) (hn : pc + 3 = n) (ht : (pc : Int) + off = (t : Int)) (kt : y ≤ x → Z k t lv st σ) (kf : ¬ y ≤ x → Z k n lv st σ) : Z k pc lv (.int y :: .int x :: st) σ := by
  obtain ⟨p, l, e, R, s, m, args, below, meth, c, D, ad, ca, A, hx, hb, hml, hown, hts, hE, hK, hD, hA, hret, hlk, hfr, hlo, hmc, htr, hex, hAc, rfl⟩ := hR
  intro ls H locs hl hP hS
  subst hn
  exact lv_icmp_ge hx hb d ht (fun h => kt h ls H locs hl hP hS) (fun h => kf h ls H locs hl hP hS)
theorem z_if_gt (hR : zR own cc nL fr lo mc ex ret po pt Z) {k pc : Nat} {lv : List (Option Value)} {st : List Value} {σ : zS} {x : Int32} {off : Int} {n t : Nat} (d : decode cc pc = .ok (.ifCond .gt off, 3)) (hn : pc + 3 = n) (ht : (pc : Int) + off = (t : Int)) (kt : 0 < x → Z k t lv st σ) (kf : ¬ 0 < x → Z k n lv st σ) : Z k pc lv (.int x :: st) σ := by
  obtain ⟨p, l, e, R, s, m, args, below, meth, c, D, ad, ca, A, hx, hb, hml, hown, hts, hE, hK, hD, hA, hret, hlk, hfr, hlo, hmc, htr, hex, hAc, rfl⟩ := hR
  intro ls H locs hl hP hS
  subst hn
  exact lv_if_gt hx hb d ht (fun h => kt h ls H locs hl hP hS) (fun h => kf h ls H locs hl hP hS)
theorem z_icmp_gt (hR : zR own cc nL fr lo mc ex ret po pt Z) {k pc : Nat} {lv : List (Option Value)} {st : List Value} {σ : zS} {x y : Int32} {off : Int} {n t : Nat} (d : decode cc pc = .ok (.if_icmp .gt off, 3)) (hn : pc + 3 = n) (ht : (pc : Int) + off = (t : Int)) (kt : y < x → Z k t lv st σ) (kf : ¬ y < x → Z k n lv st σ) : Z k pc lv (.int y :: .int x :: st) σ := by
  obtain ⟨p, l, e, R, s, m, args, below, meth, c, D, ad, ca, A, hx, hb, hml, hown, hts, hE, hK, hD, hA, hret, hlk, hfr, hlo, hmc, htr, hex, hAc, rfl⟩ := hR
  intro ls H locs hl hP hS
  subst hn
  exact lv_icmp_gt hx hb d ht (fun h => kt h ls H locs hl hP hS) (fun h => kf h ls H locs hl hP hS)
theorem z_if_le (hR : zR own cc nL fr lo mc ex ret po pt Z) {k pc : Nat} {lv : List (Option Value)} {st : List Value} {σ : zS} {x : Int32} {off : Int} {n t : Nat} (d : decode cc pc = .ok (.ifCond .le off, 3)) (hn : pc + 3 = n) (ht : (pc : Int) + off = (t : Int)) (kt : x ≤ 0 → Z k t lv st σ) (kf : ¬ x ≤ 0 → Z k n lv st σ) : Z k pc lv (.int x :: st) σ := by
  obtain ⟨p, l, e, R, s, m, args, below, meth, c, D, ad, ca, A, hx, hb, hml, hown, hts, hE, hK, hD, hA, hret, hlk, hfr, hlo, hmc, htr, hex, hAc, rfl⟩ := hR
  intro ls H locs hl hP hS
  subst hn
  exact lv_if_le hx hb d ht (fun h => kt h ls H locs hl hP hS) (fun h => kf h ls H locs hl hP hS)
theorem z_icmp_le (hR : zR own cc nL fr lo mc ex ret po pt Z) {k pc : Nat} {lv : List (Option Value)} {st : List Value} {σ : zS} {x y : Int32} {off : Int} {n t : Nat} (d : decode cc pc = .ok (.if_icmp .le off, 3)) (hn : pc + 3 = n) (ht : (pc : Int) + off = (t : Int)) (kt : x ≤ y → Z k t lv st σ) (kf : ¬ x ≤ y → Z k n lv st σ) : Z k pc lv (.int y :: .int x :: st) σ := by
  obtain ⟨p, l, e, R, s, m, args, below, meth, c, D, ad, ca, A, hx, hb, hml, hown, hts, hE, hK, hD, hA, hret, hlk, hfr, hlo, hmc, htr, hex, hAc, rfl⟩ := hR
  intro ls H locs hl hP hS
  subst hn
  exact lv_icmp_le hx hb d ht (fun h => kt h ls H locs hl hP hS) (fun h => kf h ls H locs hl hP hS)
theorem z_goto (hR : zR own cc nL fr lo mc ex ret po pt Z) {k pc : Nat} {lv : List (Option Value)} {st : List Value} {σ : zS} {off : Int} {t : Nat} (d : decode cc pc = .ok (.goto off, 3)) (ht : (pc : Int) + off = (t : Int)) (kk : Z k t lv st σ) : Z k pc lv st σ := by
  obtain ⟨p, l, e, R, s, m, args, below, meth, c, D, ad, ca, A, hx, hb, hml, hown, hts, hE, hK, hD, hA, hret, hlk, hfr, hlo, hmc, htr, hex, hAc, rfl⟩ := hR
  intro ls H locs hl hP hS
  exact lv_goto hx hb d ht (kk ls H locs hl hP hS)
theorem z_lookup (hR : zR own cc nL fr lo mc ex ret po pt Z) {k pc : Nat} {lv : List (Option Value)} {st : List Value} {σ : zS} {dflt : Int} {ps : Array (Int × Int)} {len t : Nat} {x : Int32} {off : Int} (d : decode cc pc = .ok (.lookupswitch dflt ps, len)) (hp : (ps.toList.zip (ps.toList.drop 1)).all (fun (a, next) => a.1 < next.1) = true) (ho : Op.lookupswitch.offset ps.toList dflt x.toInt = off) (ht : (pc : Int) + off = (t : Int)) (kk : Z k t lv st σ) : Z k pc lv (.int x :: st) σ := by
  obtain ⟨p, l, e, R, s, m, args, below, meth, c, D, ad, ca, A, hx, hb, hml, hown, hts, hE, hK, hD, hA, hret, hlk, hfr, hlo, hmc, htr, hex, hAc, rfl⟩ := hR
  intro ls H locs hl hP hS
  exact lv_lookup hx hb d hp ho ht (kk ls H locs hl hP hS)
theorem z_tableIn (hR : zR own cc nL fr lo mc ex ret po pt Z) {k pc : Nat} {lv : List (Option Value)} {st : List Value} {σ : zS} {dflt lo2 hi2 : Int} {offs : Array Int} {len t : Nat} {x : Int32} {off : Int} (d : decode cc pc = .ok (.tableswitch dflt lo2 hi2 offs, len)) (h1 : ¬ x.toInt < lo2) (h2 : ¬ hi2 < x.toInt) (ho : offs[(x.toInt - lo2).toNat]? = some off) (ht : (pc : Int) + off = (t : Int)) (kk : Z k t lv st σ) : Z k pc lv (.int x :: st) σ := by
  obtain ⟨p, l, e, R, s, m, args, below, meth, c, D, ad, ca, A, hx, hb, hml, hown, hts, hE, hK, hD, hA, hret, hlk, hfr, hlo, hmc, htr, hex, hAc, rfl⟩ := hR
  intro ls H locs hl hP hS
  exact lv_tableIn hx hb d h1 h2 ho ht (kk ls H locs hl hP hS)
theorem z_getR (hR : zR own cc nL fr lo mc ex ret po pt Z) {k pc : Nat} {lv : List (Option Value)} {st : List Value} {σ : zS} {o i ci j o2 : Nat} {rs : List (Option Nat)} {n : Nat} (d : decode cc pc = .ok (.getfield i, 3)) (hn : pc + 3 = n) (hG : zG own i ci j) (ho : o < zN) (hs : zsh o = .inr (ci, rs)) (hj : rs[j]? = some (some o2)) (kk : Z k n lv (.ref o2 :: st) σ) : Z k pc lv (.ref o :: st) σ := by
  obtain ⟨p, l, e, R, s, m, args, below, meth, c, D, ad, ca, A, hx, hb, hml, hown, hts, hE, hK, hD, hA, hret, hlk, hfr, hlo, hmc, htr, hex, hAc, rfl⟩ := hR
  intro ls H locs hl hP hS
  subst hn
  exact zG_get hx hb hts hE hown hK hP hG (zws_obj ho hs) (zfs_ref hj) d (kk ls H locs hl hP hS)
theorem z_getI (hR : zR own cc nL fr lo mc ex ret po pt Z) {k pc : Nat} {lv : List (Option Value)} {st : List Value} {σ : zS} {o i ci j : Nat} {rs : List (Option Nat)} {n : Nat} (d : decode cc pc = .ok (.getfield i, 3)) (hn : pc + 3 = n) (hG : zG own i ci j) (ho : o < zN) (hs : zsh o = .inr (ci, rs)) (hj : rs[j]? = some none) (kk : Z k n lv (.int (σ.1 o j) :: st) σ) : Z k pc lv (.ref o :: st) σ := by
  obtain ⟨p, l, e, R, s, m, args, below, meth, c, D, ad, ca, A, hx, hb, hml, hown, hts, hE, hK, hD, hA, hret, hlk, hfr, hlo, hmc, htr, hex, hAc, rfl⟩ := hR
  intro ls H locs hl hP hS
  subst hn
  exact zG_get hx hb hts hE hown hK hP hG (zws_obj ho hs) (zfs_int hj) d (kk ls H locs hl hP hS)
theorem z_putI (hR : zR own cc nL fr lo mc ex ret po pt Z) {k pc : Nat} {lv : List (Option Value)} {st : List Value} {σ : zS} {o i ci j : Nat} {rs : List (Option Nat)} {x : Int32} {n : Nat} (d : decode cc pc = .ok (.putfield i, 3)) (hn : pc + 3 = n) (hG : zPt own i ci j .int) (ho : o < zN) (hs : zsh o = .inr (ci, rs)) (hj : rs[j]? = some none) (kk : Z k n lv st (zwA σ o j x)) : Z k pc lv (.int x :: .ref o :: st) σ := by
  obtain ⟨p, l, e, R, s, m, args, below, meth, c, D, ad, ca, A, hx, hb, hml, hown, hts, hE, hK, hD, hA, hret, hlk, hfr, hlo, hmc, htr, hex, hAc, rfl⟩ := hR
  intro ls H locs hl hP hS
  subst hn
  exact zPt_put hx hb hts hE hown hK hP (hD _) hS hG ho hs hj rfl rfl d (fun H1 locs1 hP1 hS1 => kk ls H1 locs1 hl hP1 hS1)
theorem z_putZ (hR : zR own cc nL fr lo mc ex ret po pt Z) {k pc : Nat} {lv : List (Option Value)} {st : List Value} {σ : zS} {o i ci j : Nat} {rs : List (Option Nat)} {x : Int32} {n : Nat} (d : decode cc pc = .ok (.putfield i, 3)) (hn : pc + 3 = n) (hG : zPt own i ci j .boolean) (ho : o < zN) (hs : zsh o = .inr (ci, rs)) (hj : rs[j]? = some none) (h01 : x = 0 ∨ x = 1) (kk : Z k n lv st (zwA σ o j x)) : Z k pc lv (.int x :: .ref o :: st) σ := by
  obtain ⟨p, l, e, R, s, m, args, below, meth, c, D, ad, ca, A, hx, hb, hml, hown, hts, hE, hK, hD, hA, hret, hlk, hfr, hlo, hmc, htr, hex, hAc, rfl⟩ := hR
  intro ls H locs hl hP hS
  subst hn
  exact zPt_put hx hb hts hE hown hK hP (hD _) hS hG ho hs hj (by rcases h01 with rfl | rfl <;> rfl) (by rcases h01 with rfl | rfl <;> rfl) d (fun H1 locs1 hP1 hS1 => kk ls H1 locs1 hl hP1 hS1)
theorem z_iald (hR : zR own cc nL fr lo mc ex ret po pt Z) {k pc : Nat} {lv : List (Option Value)} {st : List Value} {σ : zS} {o N : Nat} {x : Int32} {n : Nat} (j : Nat) (d : decode cc pc = .ok (.iaload, 1)) (hn : pc + 1 = n) (ho : o < zN) (hs : zsh o = .inl (0, N)) (hN : N < 2 ^ 31) (hx0 : x = nI j) (hj : j < N) (kk : Z k n lv (.int (σ.1 o j) :: st) σ) : Z k pc lv (.int x :: .ref o :: st) σ := by
  obtain ⟨p, l, e, R, s, m, args, below, meth, c, D, ad, ca, A, hx, hb, hml, hown, hts, hE, hK, hD, hA, hret, hlk, hfr, hlo, hmc, htr, hex, hAc, rfl⟩ := hR
  intro ls H locs hl hP hS
  subst hn
  subst hx0
  refine va_iald hx hb hK hP o 0 (zws_arr ho hs (by decide)) rfl (vp_in_nI hj hN) d ?_
  rw [nI_clamp (Nat.lt_trans hj hN)]
  exact (kk ls H locs hl hP hS)
theorem z_cald (hR : zR own cc nL fr lo mc ex ret po pt Z) {k pc : Nat} {lv : List (Option Value)} {st : List Value} {σ : zS} {o N : Nat} {x : Int32} {n : Nat} (j : Nat) (d : decode cc pc = .ok (.caload, 1)) (hn : pc + 1 = n) (ho : o < zN) (hs : zsh o = .inl (1, N)) (hN : N < 2 ^ 31) (hx0 : x = nI j) (hj : j < N) (kk : Z k n lv (.int (σ.1 o j) :: st) σ) : Z k pc lv (.int x :: .ref o :: st) σ := by
  obtain ⟨p, l, e, R, s, m, args, below, meth, c, D, ad, ca, A, hx, hb, hml, hown, hts, hE, hK, hD, hA, hret, hlk, hfr, hlo, hmc, htr, hex, hAc, rfl⟩ := hR
  intro ls H locs hl hP hS
  subst hn
  subst hx0
  refine va_cald hx hb hK hP o 1 (zws_arr ho hs (by decide)) rfl (vp_in_nI hj hN) d ?_
  rw [nI_clamp (Nat.lt_trans hj hN)]
  exact (kk ls H locs hl hP hS)
theorem z_zald (hR : zR own cc nL fr lo mc ex ret po pt Z) {k pc : Nat} {lv : List (Option Value)} {st : List Value} {σ : zS} {o N : Nat} {x : Int32} {n : Nat} (j : Nat) (d : decode cc pc = .ok (.baload, 1)) (hn : pc + 1 = n) (ho : o < zN) (hs : zsh o = .inl (2, N)) (hN : N < 2 ^ 31) (hx0 : x = nI j) (hj : j < N) (kk : Z k n lv (.int (σ.1 o j) :: st) σ) : Z k pc lv (.int x :: .ref o :: st) σ := by
  obtain ⟨p, l, e, R, s, m, args, below, meth, c, D, ad, ca, A, hx, hb, hml, hown, hts, hE, hK, hD, hA, hret, hlk, hfr, hlo, hmc, htr, hex, hAc, rfl⟩ := hR
  intro ls H locs hl hP hS
  subst hn
  subst hx0
  refine va_zald hx hb hK hP o 2 (zws_arr ho hs (by decide)) rfl (vp_in_nI hj hN) d ?_
  rw [nI_clamp (Nat.lt_trans hj hN)]
  exact (kk ls H locs hl hP hS)
theorem z_lald (hR : zR own cc nL fr lo mc ex ret po pt Z) {k pc : Nat} {lv : List (Option Value)} {st : List Value} {σ : zS} {o N : Nat} {x : Int32} {n : Nat} (j : Nat) (d : decode cc pc = .ok (.laload, 1)) (hn : pc + 1 = n) (ho : o < zN) (hs : zsh o = .inl (3, N)) (hN : N < 2 ^ 31) (hx0 : x = nI j) (hj : j < N) (kk : Z k n lv (.long (σ.2 o j) :: st) σ) : Z k pc lv (.int x :: .ref o :: st) σ := by
  obtain ⟨p, l, e, R, s, m, args, below, meth, c, D, ad, ca, A, hx, hb, hml, hown, hts, hE, hK, hD, hA, hret, hlk, hfr, hlo, hmc, htr, hex, hAc, rfl⟩ := hR
  intro ls H locs hl hP hS
  subst hn
  subst hx0
  refine va_lald hx hb hK hP o 3 (zws_arrL ho hs) rfl (vp_in_nI hj hN) d ?_
  rw [nI_clamp (Nat.lt_trans hj hN)]
  exact (kk ls H locs hl hP hS)
theorem z_iast (hR : zR own cc nL fr lo mc ex ret po pt Z) {k pc : Nat} {lv : List (Option Value)} {st : List Value} {σ : zS} {o N : Nat} {x y : Int32} {n : Nat} (j : Nat) (d : decode cc pc = .ok (.iastore, 1)) (hn : pc + 1 = n) (ho : o < zN) (hs : zsh o = .inl (0, N)) (hN : N < 2 ^ 31) (hx0 : x = nI j) (hj : j < N) (kk : Z k n lv st (zwA σ o j y)) : Z k pc lv (.int y :: .int x :: .ref o :: st) σ := by
  obtain ⟨p, l, e, R, s, m, args, below, meth, c, D, ad, ca, A, hx, hb, hml, hown, hts, hE, hK, hD, hA, hret, hlk, hfr, hlo, hmc, htr, hex, hAc, rfl⟩ := hR
  intro ls H locs hl hP hS
  subst hn
  subst hx0
  refine va_iast hx hb hK hP (hD _) hS o 0 (zws_arr ho hs (by decide)) rfl (vp_in_nI hj hN) d (fun H1 locs1 hP1 hD1 hS1 => kk ls H1 locs1 hl ?_ hS1)
  rw [nI_clamp (Nat.lt_trans hj hN)] at hP1
  rw [zws_setA ho hs (by decide)] at hP1
  exact hP1
theorem z_cast (hR : zR own cc nL fr lo mc ex ret po pt Z) {k pc : Nat} {lv : List (Option Value)} {st : List Value} {σ : zS} {o N : Nat} {x y : Int32} {n : Nat} (j : Nat) (d : decode cc pc = .ok (.castore, 1)) (hn : pc + 1 = n) (ho : o < zN) (hs : zsh o = .inl (1, N)) (hN : N < 2 ^ 31) (hx0 : x = nI j) (hj : j < N) (kk : Z k n lv st (zwA σ o j (vp_nar .char y))) : Z k pc lv (.int y :: .int x :: .ref o :: st) σ := by
  obtain ⟨p, l, e, R, s, m, args, below, meth, c, D, ad, ca, A, hx, hb, hml, hown, hts, hE, hK, hD, hA, hret, hlk, hfr, hlo, hmc, htr, hex, hAc, rfl⟩ := hR
  intro ls H locs hl hP hS
  subst hn
  subst hx0
  refine va_cast hx hb hK hP (hD _) hS o 1 (zws_arr ho hs (by decide)) rfl (vp_in_nI hj hN) d (fun H1 locs1 hP1 hD1 hS1 => kk ls H1 locs1 hl ?_ hS1)
  rw [nI_clamp (Nat.lt_trans hj hN)] at hP1
  rw [zws_setA ho hs (by decide)] at hP1
  exact hP1
theorem z_zast (hR : zR own cc nL fr lo mc ex ret po pt Z) {k pc : Nat} {lv : List (Option Value)} {st : List Value} {σ : zS} {o N : Nat} {x y : Int32} {n : Nat} (j : Nat) (d : decode cc pc = .ok (.bastore, 1)) (hn : pc + 1 = n) (ho : o < zN) (hs : zsh o = .inl (2, N)) (hN : N < 2 ^ 31) (hx0 : x = nI j) (hj : j < N) (kk : Z k n lv st (zwA σ o j (vp_nar .boolean y))) : Z k pc lv (.int y :: .int x :: .ref o :: st) σ := by
  obtain ⟨p, l, e, R, s, m, args, below, meth, c, D, ad, ca, A, hx, hb, hml, hown, hts, hE, hK, hD, hA, hret, hlk, hfr, hlo, hmc, htr, hex, hAc, rfl⟩ := hR
  intro ls H locs hl hP hS
  subst hn
  subst hx0
  refine va_zast hx hb hK hP (hD _) hS o 2 (zws_arr ho hs (by decide)) rfl (vp_in_nI hj hN) d (fun H1 locs1 hP1 hD1 hS1 => kk ls H1 locs1 hl ?_ hS1)
  rw [nI_clamp (Nat.lt_trans hj hN)] at hP1
  rw [zws_setA ho hs (by decide)] at hP1
  exact hP1
theorem z_last (hR : zR own cc nL fr lo mc ex ret po pt Z) {k pc : Nat} {lv : List (Option Value)} {st : List Value} {σ : zS} {o N : Nat} {x : Int32} {y : Int64} {n : Nat} (j : Nat) (d : decode cc pc = .ok (.lastore, 1)) (hn : pc + 1 = n) (ho : o < zN) (hs : zsh o = .inl (3, N)) (hN : N < 2 ^ 31) (hx0 : x = nI j) (hj : j < N) (kk : Z k n lv st (zwL σ o j y)) : Z k pc lv (.long y :: .int x :: .ref o :: st) σ := by
  obtain ⟨p, l, e, R, s, m, args, below, meth, c, D, ad, ca, A, hx, hb, hml, hown, hts, hE, hK, hD, hA, hret, hlk, hfr, hlo, hmc, htr, hex, hAc, rfl⟩ := hR
  intro ls H locs hl hP hS
  subst hn
  subst hx0
  refine va_last hx hb hK hP (hD _) hS o 3 (zws_arrL ho hs) rfl (vp_in_nI hj hN) d (fun H1 locs1 hP1 hD1 hS1 => kk ls H1 locs1 hl ?_ hS1)
  rw [nI_clamp (Nat.lt_trans hj hN)] at hP1
  rw [zws_setL ho hs] at hP1
  exact hP1
end ZR
end
section
/-! Calls by the number of arguments; Math; the table of the guesses -/
section ZW
variable {own : String} {cc : ByteArray} {nL fr lo mc : Nat} {ex : List ExceptionTableEntry} {ret : Option FieldType} {po : Option Value → zS → Prop} {pt : Nat → zS → Prop} {Z : Nat → Nat → List (Option Value) → List Value → zS → Prop}
theorem z_callV0 (hR : zR own cc nL fr lo mc ex ret po pt Z) {k pc n i o ci N nLY frY loY : Nat} {lv : List (Option Value)} {st : List Value} {σ : zS} {y : MethodName} {ccY : ByteArray} {retY : Option FieldType} {T : u_T} {rs : List (Option Nat)} {po2 : Option Value → zS → Prop} (d : decode cc pc = .ok (.invokevirtual i, 3)) (hn : pc + 3 = n) (hC : zCV own i y 0) (hcd : Cond.code y ccY nLY retY ∈ zwd) (hf : frY + 1 ≤ fr ∧ 8 + (nLY + 11) + loY ≤ lo) (hw : (st.map fun v => v.category).sum ≤ 8) (ho : o < zN) (hs : zsh o = .inr (ci, rs)) (hcl : vwCl[ci]? = some (y.cls, T, N)) (hk : k ≤ mc) (hM : zM y ccY nLY retY frY loY 0 [.ref o] σ po2 (fun _ _ => False)) (kk : ∀ r σ2, po2 r σ2 → Z k n lv (r.toList ++ st) σ2) : Z k pc lv (.ref o :: st) σ :=
  z_callV (av := []) hR d hn hC hcd hf hw ho hs hcl hk hM kk
theorem z_callS0 (hR : zR own cc nL fr lo mc ex ret po pt Z) {k pc n i nLY frY loY : Nat} {lv : List (Option Value)} {st : List Value} {σ : zS} {y : MethodName} {ccY : ByteArray} {retY : Option FieldType} {po2 : Option Value → zS → Prop} (d : decode cc pc = .ok (.invokestatic i, 3)) (hn : pc + 3 = n) (hC : zCS own i y 0) (hcd : Cond.code y ccY nLY retY ∈ zwd) (hf : frY + 1 ≤ fr ∧ 8 + (nLY + 11) + loY ≤ lo) (hw : (st.map fun v => v.category).sum ≤ 8) (hk : k ≤ mc) (hM : zM y ccY nLY retY frY loY 0 [] σ po2 (fun _ _ => False)) (kk : ∀ r σ2, po2 r σ2 → Z k n lv (r.toList ++ st) σ2) : Z k pc lv (st) σ :=
  z_callS (av := []) hR d hn hC hcd hf hw hk hM kk
theorem z_callV1 (hR : zR own cc nL fr lo mc ex ret po pt Z) {k pc n i o ci N nLY frY loY : Nat} {lv : List (Option Value)} {st : List Value} {σ : zS} {y : MethodName} {ccY : ByteArray} {retY : Option FieldType} {T : u_T} {rs : List (Option Nat)} {a1 : Value} {po2 : Option Value → zS → Prop} (d : decode cc pc = .ok (.invokevirtual i, 3)) (hn : pc + 3 = n) (hC : zCV own i y 1) (hcd : Cond.code y ccY nLY retY ∈ zwd) (hf : frY + 1 ≤ fr ∧ 8 + (nLY + 11) + loY ≤ lo) (hw : (st.map fun v => v.category).sum ≤ 8) (ho : o < zN) (hs : zsh o = .inr (ci, rs)) (hcl : vwCl[ci]? = some (y.cls, T, N)) (hk : k ≤ mc) (hM : zM y ccY nLY retY frY loY 0 [.ref o, a1] σ po2 (fun _ _ => False)) (kk : ∀ r σ2, po2 r σ2 → Z k n lv (r.toList ++ st) σ2) : Z k pc lv (a1 :: .ref o :: st) σ :=
  z_callV (av := [a1]) hR d hn hC hcd hf hw ho hs hcl hk hM kk
theorem z_callS1 (hR : zR own cc nL fr lo mc ex ret po pt Z) {k pc n i nLY frY loY : Nat} {lv : List (Option Value)} {st : List Value} {σ : zS} {y : MethodName} {ccY : ByteArray} {retY : Option FieldType} {a1 : Value} {po2 : Option Value → zS → Prop} (d : decode cc pc = .ok (.invokestatic i, 3)) (hn : pc + 3 = n) (hC : zCS own i y 1) (hcd : Cond.code y ccY nLY retY ∈ zwd) (hf : frY + 1 ≤ fr ∧ 8 + (nLY + 11) + loY ≤ lo) (hw : (st.map fun v => v.category).sum ≤ 8) (hk : k ≤ mc) (hM : zM y ccY nLY retY frY loY 0 [a1] σ po2 (fun _ _ => False)) (kk : ∀ r σ2, po2 r σ2 → Z k n lv (r.toList ++ st) σ2) : Z k pc lv (a1 :: st) σ :=
  z_callS (av := [a1]) hR d hn hC hcd hf hw hk hM kk
theorem z_callV2 (hR : zR own cc nL fr lo mc ex ret po pt Z) {k pc n i o ci N nLY frY loY : Nat} {lv : List (Option Value)} {st : List Value} {σ : zS} {y : MethodName} {ccY : ByteArray} {retY : Option FieldType} {T : u_T} {rs : List (Option Nat)} {a1 a2 : Value} {po2 : Option Value → zS → Prop} (d : decode cc pc = .ok (.invokevirtual i, 3)) (hn : pc + 3 = n) (hC : zCV own i y 2) (hcd : Cond.code y ccY nLY retY ∈ zwd) (hf : frY + 1 ≤ fr ∧ 8 + (nLY + 11) + loY ≤ lo) (hw : (st.map fun v => v.category).sum ≤ 8) (ho : o < zN) (hs : zsh o = .inr (ci, rs)) (hcl : vwCl[ci]? = some (y.cls, T, N)) (hk : k ≤ mc) (hM : zM y ccY nLY retY frY loY 0 [.ref o, a1, a2] σ po2 (fun _ _ => False)) (kk : ∀ r σ2, po2 r σ2 → Z k n lv (r.toList ++ st) σ2) : Z k pc lv (a2 :: a1 :: .ref o :: st) σ :=
  z_callV (av := [a1, a2]) hR d hn hC hcd hf hw ho hs hcl hk hM kk
theorem z_callS2 (hR : zR own cc nL fr lo mc ex ret po pt Z) {k pc n i nLY frY loY : Nat} {lv : List (Option Value)} {st : List Value} {σ : zS} {y : MethodName} {ccY : ByteArray} {retY : Option FieldType} {a1 a2 : Value} {po2 : Option Value → zS → Prop} (d : decode cc pc = .ok (.invokestatic i, 3)) (hn : pc + 3 = n) (hC : zCS own i y 2) (hcd : Cond.code y ccY nLY retY ∈ zwd) (hf : frY + 1 ≤ fr ∧ 8 + (nLY + 11) + loY ≤ lo) (hw : (st.map fun v => v.category).sum ≤ 8) (hk : k ≤ mc) (hM : zM y ccY nLY retY frY loY 0 [a1, a2] σ po2 (fun _ _ => False)) (kk : ∀ r σ2, po2 r σ2 → Z k n lv (r.toList ++ st) σ2) : Z k pc lv (a2 :: a1 :: st) σ :=
  z_callS (av := [a1, a2]) hR d hn hC hcd hf hw hk hM kk
theorem z_callV3 (hR : zR own cc nL fr lo mc ex ret po pt Z) {k pc n i o ci N nLY frY loY : Nat} {lv : List (Option Value)} {st : List Value} {σ : zS} {y : MethodName} {ccY : ByteArray} {retY : Option FieldType} {T : u_T} {rs : List (Option Nat)} {a1 a2 a3 : Value} {po2 : Option Value → zS → Prop} (d : decode cc pc = .ok (.invokevirtual i, 3)) (hn : pc + 3 = n) (hC : zCV own i y 3) (hcd : Cond.code y ccY nLY retY ∈ zwd) (hf : frY + 1 ≤ fr ∧ 8 + (nLY + 11) + loY ≤ lo) (hw : (st.map fun v => v.category).sum ≤ 8) (ho : o < zN) (hs : zsh o = .inr (ci, rs)) (hcl : vwCl[ci]? = some (y.cls, T, N)) (hk : k ≤ mc) (hM : zM y ccY nLY retY frY loY 0 [.ref o, a1, a2, a3] σ po2 (fun _ _ => False)) (kk : ∀ r σ2, po2 r σ2 → Z k n lv (r.toList ++ st) σ2) : Z k pc lv (a3 :: a2 :: a1 :: .ref o :: st) σ :=
  z_callV (av := [a1, a2, a3]) hR d hn hC hcd hf hw ho hs hcl hk hM kk
theorem z_callS3 (hR : zR own cc nL fr lo mc ex ret po pt Z) {k pc n i nLY frY loY : Nat} {lv : List (Option Value)} {st : List Value} {σ : zS} {y : MethodName} {ccY : ByteArray} {retY : Option FieldType} {a1 a2 a3 : Value} {po2 : Option Value → zS → Prop} (d : decode cc pc = .ok (.invokestatic i, 3)) (hn : pc + 3 = n) (hC : zCS own i y 3) (hcd : Cond.code y ccY nLY retY ∈ zwd) (hf : frY + 1 ≤ fr ∧ 8 + (nLY + 11) + loY ≤ lo) (hw : (st.map fun v => v.category).sum ≤ 8) (hk : k ≤ mc) (hM : zM y ccY nLY retY frY loY 0 [a1, a2, a3] σ po2 (fun _ _ => False)) (kk : ∀ r σ2, po2 r σ2 → Z k n lv (r.toList ++ st) σ2) : Z k pc lv (a3 :: a2 :: a1 :: st) σ :=
  z_callS (av := [a1, a2, a3]) hR d hn hC hcd hf hw hk hM kk
theorem z_callV4 (hR : zR own cc nL fr lo mc ex ret po pt Z) {k pc n i o ci N nLY frY loY : Nat} {lv : List (Option Value)} {st : List Value} {σ : zS} {y : MethodName} {ccY : ByteArray} {retY : Option FieldType} {T : u_T} {rs : List (Option Nat)} {a1 a2 a3 a4 : Value} {po2 : Option Value → zS → Prop} (d : decode cc pc = .ok (.invokevirtual i, 3)) (hn : pc + 3 = n) (hC : zCV own i y 4) (hcd : Cond.code y ccY nLY retY ∈ zwd) (hf : frY + 1 ≤ fr ∧ 8 + (nLY + 11) + loY ≤ lo) (hw : (st.map fun v => v.category).sum ≤ 8) (ho : o < zN) (hs : zsh o = .inr (ci, rs)) (hcl : vwCl[ci]? = some (y.cls, T, N)) (hk : k ≤ mc) (hM : zM y ccY nLY retY frY loY 0 [.ref o, a1, a2, a3, a4] σ po2 (fun _ _ => False)) (kk : ∀ r σ2, po2 r σ2 → Z k n lv (r.toList ++ st) σ2) : Z k pc lv (a4 :: a3 :: a2 :: a1 :: .ref o :: st) σ :=
  z_callV (av := [a1, a2, a3, a4]) hR d hn hC hcd hf hw ho hs hcl hk hM kk
theorem z_callS4 (hR : zR own cc nL fr lo mc ex ret po pt Z) {k pc n i nLY frY loY : Nat} {lv : List (Option Value)} {st : List Value} {σ : zS} {y : MethodName} {ccY : ByteArray} {retY : Option FieldType} {a1 a2 a3 a4 : Value} {po2 : Option Value → zS → Prop} (d : decode cc pc = .ok (.invokestatic i, 3)) (hn : pc + 3 = n) (hC : zCS own i y 4) (hcd : Cond.code y ccY nLY retY ∈ zwd) (hf : frY + 1 ≤ fr ∧ 8 + (nLY + 11) + loY ≤ lo) (hw : (st.map fun v => v.category).sum ≤ 8) (hk : k ≤ mc) (hM : zM y ccY nLY retY frY loY 0 [a1, a2, a3, a4] σ po2 (fun _ _ => False)) (kk : ∀ r σ2, po2 r σ2 → Z k n lv (r.toList ++ st) σ2) : Z k pc lv (a4 :: a3 :: a2 :: a1 :: st) σ :=
  z_callS (av := [a1, a2, a3, a4]) hR d hn hC hcd hf hw hk hM kk
theorem z_callV5 (hR : zR own cc nL fr lo mc ex ret po pt Z) {k pc n i o ci N nLY frY loY : Nat} {lv : List (Option Value)} {st : List Value} {σ : zS} {y : MethodName} {ccY : ByteArray} {retY : Option FieldType} {T : u_T} {rs : List (Option Nat)} {a1 a2 a3 a4 a5 : Value} {po2 : Option Value → zS → Prop} (d : decode cc pc = .ok (.invokevirtual i, 3)) (hn : pc + 3 = n) (hC : zCV own i y 5) (hcd : Cond.code y ccY nLY retY ∈ zwd) (hf : frY + 1 ≤ fr ∧ 8 + (nLY + 11) + loY ≤ lo) (hw : (st.map fun v => v.category).sum ≤ 8) (ho : o < zN) (hs : zsh o = .inr (ci, rs)) (hcl : vwCl[ci]? = some (y.cls, T, N)) (hk : k ≤ mc) (hM : zM y ccY nLY retY frY loY 0 [.ref o, a1, a2, a3, a4, a5] σ po2 (fun _ _ => False)) (kk : ∀ r σ2, po2 r σ2 → Z k n lv (r.toList ++ st) σ2) : Z k pc lv (a5 :: a4 :: a3 :: a2 :: a1 :: .ref o :: st) σ :=
  z_callV (av := [a1, a2, a3, a4, a5]) hR d hn hC hcd hf hw ho hs hcl hk hM kk
theorem z_callS5 (hR : zR own cc nL fr lo mc ex ret po pt Z) {k pc n i nLY frY loY : Nat} {lv : List (Option Value)} {st : List Value} {σ : zS} {y : MethodName} {ccY : ByteArray} {retY : Option FieldType} {a1 a2 a3 a4 a5 : Value} {po2 : Option Value → zS → Prop} (d : decode cc pc = .ok (.invokestatic i, 3)) (hn : pc + 3 = n) (hC : zCS own i y 5) (hcd : Cond.code y ccY nLY retY ∈ zwd) (hf : frY + 1 ≤ fr ∧ 8 + (nLY + 11) + loY ≤ lo) (hw : (st.map fun v => v.category).sum ≤ 8) (hk : k ≤ mc) (hM : zM y ccY nLY retY frY loY 0 [a1, a2, a3, a4, a5] σ po2 (fun _ _ => False)) (kk : ∀ r σ2, po2 r σ2 → Z k n lv (r.toList ++ st) σ2) : Z k pc lv (a5 :: a4 :: a3 :: a2 :: a1 :: st) σ :=
  z_callS (av := [a1, a2, a3, a4, a5]) hR d hn hC hcd hf hw hk hM kk
theorem z_mmax (hR : zR own cc nL fr lo mc ex ret po pt Z) {k pc n i : Nat} {lv : List (Option Value)} {st : List Value} {σ : zS} {x y : Int32} (d : decode cc pc = .ok (.invokestatic i, 3)) (hn : pc + 3 = n) (hC : Cond.methodLink own i Lib.Math.max.name ∈ zwd ∧ Cond.static Lib.Math.max.name ∈ zwd ∧ Cond.initialized "java/lang/Math" ∈ zwd ∧ Cond.code Lib.Math.max.name Lib.Math.max.code 2 (some .int) ∈ zwd) (hf : 1 ≤ fr ∧ 21 ≤ lo) (hw : (st.map fun v => v.category).sum ≤ 8) (hk : k ≤ mc) (kk : Z k n lv (.int (if x < y then y else x) :: st) σ) : Z k pc lv (.int y :: .int x :: st) σ := by
  obtain ⟨p, l, e, R, s, m, args, below, meth, c, D, ad, ca, A, hx, hb, hml, hown, hts, hE, hK, hD, hA, hret, hlk, hfr, hlo, hmc, htr, hex, hAc, rfl⟩ := hR
  intro ls H locs hl hP hS
  subst hn
  have hw2 : ((st.map (zv ad)).map fun v => v.category).sum ≤ 8 := by
    rw [List.map_map]
    have e9 : ((fun v : Value => v.category) ∘ zv ad) = fun v => v.category := funext fun v => zv_cat ad v
    rw [e9]
    exact hw
  exact va_mmax hx hb (hml.trans hl.1.symm) hown (hts _ hC.1) (hts _ hC.2.1) (hts _ hC.2.2.1) (hts _ hC.2.2.2) (by omega) (by omega) (by omega) (by omega) d (kk ls H locs hl hP hS)
theorem z_mmin (hR : zR own cc nL fr lo mc ex ret po pt Z) {k pc n i : Nat} {lv : List (Option Value)} {st : List Value} {σ : zS} {x y : Int32} (d : decode cc pc = .ok (.invokestatic i, 3)) (hn : pc + 3 = n) (hC : Cond.methodLink own i Lib.Math.min.name ∈ zwd ∧ Cond.static Lib.Math.min.name ∈ zwd ∧ Cond.initialized "java/lang/Math" ∈ zwd ∧ Cond.code Lib.Math.min.name Lib.Math.min.code 2 (some .int) ∈ zwd) (hf : 1 ≤ fr ∧ 21 ≤ lo) (hw : (st.map fun v => v.category).sum ≤ 8) (hk : k ≤ mc) (kk : Z k n lv (.int (if y < x then y else x) :: st) σ) : Z k pc lv (.int y :: .int x :: st) σ := by
  obtain ⟨p, l, e, R, s, m, args, below, meth, c, D, ad, ca, A, hx, hb, hml, hown, hts, hE, hK, hD, hA, hret, hlk, hfr, hlo, hmc, htr, hex, hAc, rfl⟩ := hR
  intro ls H locs hl hP hS
  subst hn
  have hw2 : ((st.map (zv ad)).map fun v => v.category).sum ≤ 8 := by
    rw [List.map_map]
    have e9 : ((fun v : Value => v.category) ∘ zv ad) = fun v => v.category := funext fun v => zv_cat ad v
    rw [e9]
    exact hw
  exact va_mmin hx hb (hml.trans hl.1.symm) hown (hts _ hC.1) (hts _ hC.2.1) (hts _ hC.2.2.1) (hts _ hC.2.2.2) (by omega) (by omega) (by omega) (by omega) d (kk ls H locs hl hP hS)
theorem z_gets (hR : zR own cc nL fr lo mc ex ret po pt Z) {k pc n i : Nat} {lv : List (Option Value)} {st : List Value} {σ : zS} (d : decode cc pc = .ok (.getstatic i, 3)) (hn : pc + 3 = n) (hC : zLk own i ("PathChecker", "GUESSES_WITH", "[I", true)) (kk : Z k n lv (.ref 999 :: st) σ) : Z k pc lv st σ := by
  obtain ⟨p, l, e, R, s, m, args, below, meth, c, D, ad, ca, A, hx, hb, hml, hown, hts, hE, hK, hD, hA, hret, hlk, hfr, hlo, hmc, htr, hex, hAc, rfl⟩ := hR
  intro ls H locs hl hP hS
  subst hn
  rcases hC with hC | ⟨host, hC⟩
  · exact va_gets hx hb hE.2.1 hS hown (hts _ hC) (fun _ h => h) d (kk ls H locs hl hP hS)
  · exact va_getsN hx hb hE.2.1 hS hown (va_Nw.use rfl (hE.1 _ hC)) (fun _ h => h) d (kk ls H locs hl hP hS)
theorem z_gald (hR : zR own cc nL fr lo mc ex ret po pt Z) {k pc n : Nat} {lv : List (Option Value)} {st : List Value} {σ : zS} {x : Int32} (j : Nat) (d : decode cc pc = .ok (.iaload, 1)) (hn : pc + 1 = n) (hx0 : x = nI j) (hj : j < 5) (kk : Z k n lv (.int (zgi j) :: st) σ) : Z k pc lv (.int x :: .ref 999 :: st) σ := by
  obtain ⟨p, l, e, R, s, m, args, below, meth, c, D, ad, ca, A, hx, hb, hml, hown, hts, hE, hK, hD, hA, hret, hlk, hfr, hlo, hmc, htr, hex, hAc, rfl⟩ := hR
  intro ls H locs hl hP hS
  subst hn
  subst hx0
  exact va_ti hx hb hE.2.2.1 hS (vp_in_nI hj (by decide)) (by rw [nI_clamp (by omega)]; rfl) d (kk ls H locs hl hP hS)
end ZW
end
section
/-! what the tables say of each field access and call -/
theorem zin_PC : ∀ w ∈ u_ws R_PC T_PC 11, w ∈ zwd := List.forall_mem_cons.mpr ⟨qw_312, List.forall_mem_cons.mpr ⟨qw_314, List.forall_mem_cons.mpr ⟨qw_316, List.forall_mem_cons.mpr ⟨qw_318, List.forall_mem_cons.mpr ⟨qw_320, List.forall_mem_cons.mpr ⟨qw_322, List.forall_mem_cons.mpr ⟨qw_324, List.forall_mem_cons.mpr ⟨qw_326, List.forall_mem_cons.mpr ⟨qw_328, List.forall_mem_cons.mpr ⟨qw_330, List.forall_mem_cons.mpr ⟨qw_332, fun _ h => absurd h List.not_mem_nil⟩⟩⟩⟩⟩⟩⟩⟩⟩⟩⟩
theorem zin_GR : ∀ w ∈ u_ws R_GR T_GR 8, w ∈ zwd := List.forall_mem_cons.mpr ⟨qw_205, List.forall_mem_cons.mpr ⟨qw_207, List.forall_mem_cons.mpr ⟨qw_209, List.forall_mem_cons.mpr ⟨qw_211, List.forall_mem_cons.mpr ⟨qw_213, List.forall_mem_cons.mpr ⟨qw_215, List.forall_mem_cons.mpr ⟨qw_217, List.forall_mem_cons.mpr ⟨qw_219, fun _ h => absurd h List.not_mem_nil⟩⟩⟩⟩⟩⟩⟩⟩
theorem zin_KN : ∀ w ∈ u_ws R_KN T_KN 12, w ∈ zwd := List.forall_mem_cons.mpr ⟨qw_237, List.forall_mem_cons.mpr ⟨qw_239, List.forall_mem_cons.mpr ⟨qw_241, List.forall_mem_cons.mpr ⟨qw_243, List.forall_mem_cons.mpr ⟨qw_245, List.forall_mem_cons.mpr ⟨qw_247, List.forall_mem_cons.mpr ⟨qw_249, List.forall_mem_cons.mpr ⟨qw_251, List.forall_mem_cons.mpr ⟨qw_253, List.forall_mem_cons.mpr ⟨qw_255, List.forall_mem_cons.mpr ⟨qw_257, List.forall_mem_cons.mpr ⟨qw_259, fun _ h => absurd h List.not_mem_nil⟩⟩⟩⟩⟩⟩⟩⟩⟩⟩⟩⟩
theorem zin_NE : ∀ w ∈ u_ws R_NE T_NE 4, w ∈ zwd := List.forall_mem_cons.mpr ⟨qw_268, List.forall_mem_cons.mpr ⟨qw_270, List.forall_mem_cons.mpr ⟨qw_272, List.forall_mem_cons.mpr ⟨qw_274, fun _ h => absurd h List.not_mem_nil⟩⟩⟩⟩
theorem zin_NF : ∀ w ∈ u_ws R_NF T_NF 10, w ∈ zwd := List.forall_mem_cons.mpr ⟨qw_147, List.forall_mem_cons.mpr ⟨qw_149, List.forall_mem_cons.mpr ⟨qw_151, List.forall_mem_cons.mpr ⟨qw_153, List.forall_mem_cons.mpr ⟨qw_155, List.forall_mem_cons.mpr ⟨qw_157, List.forall_mem_cons.mpr ⟨qw_159, List.forall_mem_cons.mpr ⟨qw_161, List.forall_mem_cons.mpr ⟨qw_163, List.forall_mem_cons.mpr ⟨qw_165, fun _ h => absurd h List.not_mem_nil⟩⟩⟩⟩⟩⟩⟩⟩⟩⟩
theorem zin_PA : ∀ w ∈ u_ws R_PA T_PA 3, w ∈ zwd := List.forall_mem_cons.mpr ⟨qw_87, List.forall_mem_cons.mpr ⟨qw_89, List.forall_mem_cons.mpr ⟨qw_91, fun _ h => absurd h List.not_mem_nil⟩⟩⟩
theorem zin_RE : ∀ w ∈ u_ws R_RE T_RE 11, w ∈ zwd := List.forall_mem_cons.mpr ⟨qw_49, List.forall_mem_cons.mpr ⟨qw_51, List.forall_mem_cons.mpr ⟨qw_53, List.forall_mem_cons.mpr ⟨qw_55, List.forall_mem_cons.mpr ⟨qw_57, List.forall_mem_cons.mpr ⟨qw_59, List.forall_mem_cons.mpr ⟨qw_61, List.forall_mem_cons.mpr ⟨qw_63, List.forall_mem_cons.mpr ⟨qw_65, List.forall_mem_cons.mpr ⟨qw_67, List.forall_mem_cons.mpr ⟨qw_69, fun _ h => absurd h List.not_mem_nil⟩⟩⟩⟩⟩⟩⟩⟩⟩⟩⟩
theorem zin_SE : ∀ w ∈ u_ws R_SE T_SE 6, w ∈ zwd := List.forall_mem_cons.mpr ⟨qw_288, List.forall_mem_cons.mpr ⟨qw_290, List.forall_mem_cons.mpr ⟨qw_292, List.forall_mem_cons.mpr ⟨qw_294, List.forall_mem_cons.mpr ⟨qw_296, List.forall_mem_cons.mpr ⟨qw_298, fun _ h => absurd h List.not_mem_nil⟩⟩⟩⟩⟩⟩
theorem zin_ST : ∀ w ∈ u_ws R_ST T_ST 2, w ∈ zwd := List.forall_mem_cons.mpr ⟨qw_181, List.forall_mem_cons.mpr ⟨qw_183, fun _ h => absurd h List.not_mem_nil⟩⟩
theorem zin_MO : ∀ w ∈ u_ws R_MO T_MO 41, w ∈ zwd := List.forall_mem_cons.mpr ⟨qw_833, List.forall_mem_cons.mpr ⟨qw_835, List.forall_mem_cons.mpr ⟨qw_837, List.forall_mem_cons.mpr ⟨qw_839, List.forall_mem_cons.mpr ⟨qw_841, List.forall_mem_cons.mpr ⟨qw_843, List.forall_mem_cons.mpr ⟨qw_845, List.forall_mem_cons.mpr ⟨qw_847, List.forall_mem_cons.mpr ⟨qw_849, List.forall_mem_cons.mpr ⟨qw_851, List.forall_mem_cons.mpr ⟨qw_853, List.forall_mem_cons.mpr ⟨qw_855, List.forall_mem_cons.mpr ⟨qw_857, List.forall_mem_cons.mpr ⟨qw_859, List.forall_mem_cons.mpr ⟨qw_861, List.forall_mem_cons.mpr ⟨qw_863, List.forall_mem_cons.mpr ⟨qw_865, List.forall_mem_cons.mpr ⟨qw_867, List.forall_mem_cons.mpr ⟨qw_869, List.forall_mem_cons.mpr ⟨qw_871, List.forall_mem_cons.mpr ⟨qw_873, List.forall_mem_cons.mpr ⟨qw_875, List.forall_mem_cons.mpr ⟨qw_877, List.forall_mem_cons.mpr ⟨qw_879, List.forall_mem_cons.mpr ⟨qw_881, List.forall_mem_cons.mpr ⟨qw_883, List.forall_mem_cons.mpr ⟨qw_885, List.forall_mem_cons.mpr ⟨qw_887, List.forall_mem_cons.mpr ⟨qw_889, List.forall_mem_cons.mpr ⟨qw_891, List.forall_mem_cons.mpr ⟨qw_893, List.forall_mem_cons.mpr ⟨qw_895, List.forall_mem_cons.mpr ⟨qw_897, List.forall_mem_cons.mpr ⟨qw_899, List.forall_mem_cons.mpr ⟨qw_901, List.forall_mem_cons.mpr ⟨qw_903, List.forall_mem_cons.mpr ⟨qw_905, List.forall_mem_cons.mpr ⟨qw_907, List.forall_mem_cons.mpr ⟨qw_909, List.forall_mem_cons.mpr ⟨qw_911, List.forall_mem_cons.mpr ⟨qw_913, fun _ h => absurd h List.not_mem_nil⟩⟩⟩⟩⟩⟩⟩⟩⟩⟩⟩⟩⟩⟩⟩⟩⟩⟩⟩⟩⟩⟩⟩⟩⟩⟩⟩⟩⟩⟩⟩⟩⟩⟩⟩⟩⟩⟩⟩⟩⟩
theorem zkPC_init : Cond.code yPC_init cPC_init 1 (none) ∈ zwd := qw_23
theorem zkPC_type : Cond.code yPC_type cPC_type 6 (some .boolean) ∈ zwd := qw_338
theorem zkPC_wipe : Cond.code yPC_wipe cPC_wipe 1 (none) ∈ zwd := qw_342
theorem zkPC_length : Cond.code yPC_length cPC_length 1 (some .int) ∈ zwd := qw_346
theorem zkPC_formula : Cond.code yPC_formula cPC_formula 1 (some .int) ∈ zwd := qw_390
theorem zkPC_normal : Cond.code yPC_normal cPC_normal 2 (some .int) ∈ zwd := qw_555
theorem zkPC_mark : Cond.code yPC_mark cPC_mark 3 (some .boolean) ∈ zwd := qw_350
theorem zkPC_link : Cond.code yPC_link cPC_link 4 (some .boolean) ∈ zwd := qw_357
theorem zkPC_state : Cond.code yPC_state cPC_state 3 (some .int) ∈ zwd := qw_365
theorem zkPC_endless : Cond.code yPC_endless cPC_endless 2 (some .boolean) ∈ zwd := qw_369
theorem zkPC_keeps : Cond.code yPC_keeps cPC_keeps 2 (some .boolean) ∈ zwd := qw_582
theorem zkPC_breaking : Cond.code yPC_breaking cPC_breaking 1 (some .int) ∈ zwd := qw_708
theorem zkPC_keeping : Cond.code yPC_keeping cPC_keeping 1 (some .int) ∈ zwd := qw_715
theorem zkPC_witness : Cond.code yPC_witness cPC_witness 3 (some .int) ∈ zwd := qw_722
theorem zkPC_go : Cond.code yPC_go cPC_go 2 (some .int) ∈ zwd := qw_377
theorem zkPC_clear : Cond.code yPC_clear cPC_clear 1 (none) ∈ zwd := qw_381
theorem zkPC_judge : Cond.code yPC_judge cPC_judge 3 (some .boolean) ∈ zwd := qw_779
theorem zkPC_isState : Cond.code yPC_isState cPC_isState 1 (some .boolean) ∈ zwd := qw_353
theorem zkPC_bringUpToDate : Cond.code yPC_bringUpToDate cPC_bringUpToDate 1 (none) ∈ zwd := qw_601
theorem zkGR_init : Cond.code yGR_init cGR_init 1 (none) ∈ zwd := qw_116
theorem zkGR_build : Cond.code yGR_build cGR_build 3 (none) ∈ zwd := qw_605
theorem zkGR_weighHere : Cond.code yGR_weighHere cGR_weighHere 5 (none) ∈ zwd := qw_609
theorem zkGR_promptGuesses : Cond.code yGR_promptGuesses cGR_promptGuesses 3 (some .int) ∈ zwd := qw_622
theorem zkGR_weighBefore : Cond.code yGR_weighBefore cGR_weighBefore 5 (none) ∈ zwd := qw_627
theorem zkGR_timedBefore : Cond.code yGR_timedBefore cGR_timedBefore 4 (some .int) ∈ zwd := qw_631
theorem zkGR_untimed : Cond.code yGR_untimed cGR_untimed 4 (some .int) ∈ zwd := qw_613
theorem zkGR_writeGuesses : Cond.code yGR_writeGuesses cGR_writeGuesses 6 (none) ∈ zwd := qw_635
theorem zkGR_guessBefore : Cond.code yGR_guessBefore cGR_guessBefore 4 (some .int) ∈ zwd := qw_660
theorem zkGR_guessesBefore : Cond.code yGR_guessesBefore cGR_guessesBefore 6 (some .int) ∈ zwd := qw_688
theorem zkGR_guessesAfter : Cond.code yGR_guessesAfter cGR_guessesAfter 8 (some .int) ∈ zwd := qw_747
theorem zkKN_init : Cond.code yKN_init cKN_init 1 (none) ∈ zwd := qw_110
theorem zkKN_find : Cond.code yKN_find cKN_find 4 (none) ∈ zwd := qw_639
theorem zkKN_startAnew : Cond.code yKN_startAnew cKN_startAnew 2 (none) ∈ zwd := qw_643
theorem zkKN_walkFrom : Cond.code yKN_walkFrom cKN_walkFrom 6 (none) ∈ zwd := qw_647
theorem zkKN_enter : Cond.code yKN_enter cKN_enter 2 (none) ∈ zwd := qw_651
theorem zkKN_tryStep : Cond.code yKN_tryStep cKN_tryStep 5 (none) ∈ zwd := qw_655
theorem zkKN_release : Cond.code yKN_release cKN_release 5 (none) ∈ zwd := qw_667
theorem zkKN_goesToItself : Cond.code yKN_goesToItself cKN_goesToItself 4 (some .boolean) ∈ zwd := qw_671
theorem zkKN_isPrompt : Cond.code yKN_isPrompt cKN_isPrompt 4 (some .boolean) ∈ zwd := qw_675
theorem zkNE_init : Cond.code yNE_init cNE_init 1 (none) ∈ zwd := qw_104
theorem zkNE_measure : Cond.code yNE_measure cNE_measure 3 (none) ∈ zwd := qw_679
theorem zkNE_growReaching : Cond.code yNE_growReaching cNE_growReaching 4 (some .boolean) ∈ zwd := qw_693
theorem zkNE_oneStepMore : Cond.code yNE_oneStepMore cNE_oneStepMore 6 (some .int) ∈ zwd := qw_683
theorem zkNE_within : Cond.code yNE_within cNE_within 3 (some .int) ∈ zwd := qw_730
theorem zkNE_statesWithPath : Cond.code yNE_statesWithPath cNE_statesWithPath 5 (some .int) ∈ zwd := qw_701
theorem zkNF_init : Cond.code yNF_init cNF_init 1 (none) ∈ zwd := qw_122
theorem zkNF_isMissing : Cond.code yNF_isMissing cNF_isMissing 1 (some .boolean) ∈ zwd := qw_559
theorem zkNF_take : Cond.code yNF_take cNF_take 2 (none) ∈ zwd := qw_520
theorem zkNF_write : Cond.code yNF_write cNF_write 7 (none) ∈ zwd := qw_524
theorem zkNF_keepForLater : Cond.code yNF_keepForLater cNF_keepForLater 3 (none) ∈ zwd := qw_528
theorem zkNF_writeSigns : Cond.code yNF_writeSigns cNF_writeSigns 3 (none) ∈ zwd := qw_532
theorem zkNF_add : Cond.code yNF_add cNF_add 2 (none) ∈ zwd := qw_536
theorem zkNF_opposite : Cond.code yNF_opposite cNF_opposite 1 (some .char) ∈ zwd := qw_539
theorem zkNF_connect : Cond.code yNF_connect cNF_connect 2 (none) ∈ zwd := qw_543
theorem zkNF_isBinary : Cond.code yNF_isBinary cNF_isBinary 1 (some .boolean) ∈ zwd := qw_546
theorem zkNF_leafHolds : Cond.code yNF_leafHolds cNF_leafHolds 2 (some .boolean) ∈ zwd := qw_616
theorem zkPA_init : Cond.code yPA_init cPA_init 2 (none) ∈ zwd := qw_78
theorem zkPA_hasPlace : Cond.code yPA_hasPlace cPA_hasPlace 2 (some .boolean) ∈ zwd := qw_772
theorem zkPA_isLinked : Cond.code yPA_isLinked cPA_isLinked 5 (some .boolean) ∈ zwd := qw_783
theorem zkPA_placesOf : Cond.code yPA_placesOf cPA_placesOf 8 (some .int) ∈ zwd := qw_751
theorem zkPA_placesOfUntil : Cond.code yPA_placesOfUntil cPA_placesOfUntil 6 (some .int) ∈ zwd := qw_759
theorem zkPA_placesOfRelease : Cond.code yPA_placesOfRelease cPA_placesOfRelease 6 (some .int) ∈ zwd := qw_763
theorem zkPA_placesBefore : Cond.code yPA_placesBefore cPA_placesBefore 3 (some .int) ∈ zwd := qw_755
theorem zkPA_placesOfLeaf : Cond.code yPA_placesOfLeaf cPA_placesOfLeaf 5 (some .int) ∈ zwd := qw_767
theorem zkRE_init : Cond.code yRE_init cRE_init 1 (none) ∈ zwd := qw_31
theorem zkRE_reads : Cond.code yRE_reads cRE_reads 5 (some .boolean) ∈ zwd := qw_394
theorem zkRE_startAnew : Cond.code yRE_startAnew cRE_startAnew 1 (none) ∈ zwd := qw_398
theorem zkRE_takeInUnit : Cond.code yRE_takeInUnit cRE_takeInUnit 2 (some .boolean) ∈ zwd := qw_402
theorem zkRE_takeBehindUnit : Cond.code yRE_takeBehindUnit cRE_takeBehindUnit 3 (some .boolean) ∈ zwd := qw_420
theorem zkRE_await : Cond.code yRE_await cRE_await 2 (none) ∈ zwd := qw_416
theorem zkRE_joinDownTo : Cond.code yRE_joinDownTo cRE_joinDownTo 2 (none) ∈ zwd := qw_424
theorem zkRE_join : Cond.code yRE_join cRE_join 3 (none) ∈ zwd := qw_428
theorem zkRE_newPart : Cond.code yRE_newPart cRE_newPart 5 (some .int) ∈ zwd := qw_409
theorem zkRE_isLeaf : Cond.code yRE_isLeaf cRE_isLeaf 1 (some .boolean) ∈ zwd := qw_405
theorem zkRE_isTimed : Cond.code yRE_isTimed cRE_isTimed 1 (some .boolean) ∈ zwd := qw_437
theorem zkRE_groupsToTheRight : Cond.code yRE_groupsToTheRight cRE_groupsToTheRight 1 (some .boolean) ∈ zwd := qw_434
theorem zkRE_rank : Cond.code yRE_rank cRE_rank 1 (some .int) ∈ zwd := qw_412
theorem zkSE_init : Cond.code ySE_init cSE_init 1 (none) ∈ zwd := qw_98
theorem zkSE_forget : Cond.code ySE_forget cSE_forget 1 (none) ∈ zwd := qw_697
theorem zkSE_lookFrom : Cond.code ySE_lookFrom cSE_lookFrom 3 (none) ∈ zwd := qw_726
theorem zkSE_extend : Cond.code ySE_extend cSE_extend 6 (none) ∈ zwd := qw_734
theorem zkSE_closeLoop : Cond.code ySE_closeLoop cSE_closeLoop 3 (none) ∈ zwd := qw_738
theorem zkSE_mayGoOnAt : Cond.code ySE_mayGoOnAt cSE_mayGoOnAt 5 (some .boolean) ∈ zwd := qw_742
theorem zkST_init : Cond.code yST_init cST_init 1 (none) ∈ zwd := qw_173
theorem zkST_joins : Cond.code yST_joins cST_joins 3 (some .boolean) ∈ zwd := qw_361
theorem zkST_statesWithPath : Cond.code yST_statesWithPath cST_statesWithPath 4 (some .int) ∈ zwd := qw_373
theorem zkMO_init : Cond.code yMO_init cMO_init 1 (none) ∈ zwd := qw_790
theorem zkMO_thrown : Cond.code yMO_thrown cMO_thrown 1 (some .int) ∈ zwd := qw_920
theorem zkMO_type : Cond.code yMO_type cMO_type 6 (some .boolean) ∈ zwd := qw_924
theorem zkMO_wipe : Cond.code yMO_wipe cMO_wipe 1 (none) ∈ zwd := qw_928
theorem zkMO_length : Cond.code yMO_length cMO_length 1 (some .int) ∈ zwd := qw_932
theorem zkMO_isAtom : Cond.code yMO_isAtom cMO_isAtom 1 (some .boolean) ∈ zwd := qw_943
theorem zkMO_isPrefix : Cond.code yMO_isPrefix cMO_isPrefix 1 (some .boolean) ∈ zwd := qw_950
theorem zkMO_isTimed : Cond.code yMO_isTimed cMO_isTimed 1 (some .boolean) ∈ zwd := qw_968
theorem zkMO_strength : Cond.code yMO_strength cMO_strength 1 (some .int) ∈ zwd := qw_957
theorem zkMO_node : Cond.code yMO_node cMO_node 4 (none) ∈ zwd := qw_947
theorem zkMO_reduce : Cond.code yMO_reduce cMO_reduce 2 (none) ∈ zwd := qw_961
theorem zkMO_reduceFrom : Cond.code yMO_reduceFrom cMO_reduceFrom 2 (none) ∈ zwd := qw_954
theorem zkMO_reads : Cond.code yMO_reads cMO_reads 6 (some .boolean) ∈ zwd := qw_940
theorem zkMO_countTimed : Cond.code yMO_countTimed cMO_countTimed 3 (some .int) ∈ zwd := qw_965
theorem zkMO_formula : Cond.code yMO_formula cMO_formula 2 (some .int) ∈ zwd := qw_936
theorem zkMO_emit : Cond.code yMO_emit cMO_emit 2 (none) ∈ zwd := qw_984
theorem zkMO_hold : Cond.code yMO_hold cMO_hold 3 (none) ∈ zwd := qw_980
theorem zkMO_write : Cond.code yMO_write cMO_write 5 (none) ∈ zwd := qw_976
theorem zkMO_normal : Cond.code yMO_normal cMO_normal 2 (some .int) ∈ zwd := qw_988
theorem zkMO_isState : Cond.code yMO_isState cMO_isState 1 (some .boolean) ∈ zwd := qw_995
theorem zkMO_forget : Cond.code yMO_forget cMO_forget 2 (none) ∈ zwd := qw_972
theorem zkMO_mark : Cond.code yMO_mark cMO_mark 3 (some .boolean) ∈ zwd := qw_992
theorem zkMO_link : Cond.code yMO_link cMO_link 4 (some .boolean) ∈ zwd := qw_999
theorem zkMO_state : Cond.code yMO_state cMO_state 3 (some .int) ∈ zwd := qw_1003
theorem zkMO_endless : Cond.code yMO_endless cMO_endless 7 (some .boolean) ∈ zwd := qw_1007
theorem zkMO_plain : Cond.code yMO_plain cMO_plain 6 (some .boolean) ∈ zwd := qw_1031
theorem zkMO_evaluate : Cond.code yMO_evaluate cMO_evaluate 4 (none) ∈ zwd := qw_1027
theorem zkMO_decider : Cond.code yMO_decider cMO_decider 2 (some .int) ∈ zwd := qw_1035
theorem zkMO_bitsBefore : Cond.code yMO_bitsBefore cMO_bitsBefore 11 (some .int) ∈ zwd := qw_1039
theorem zkMO_tables : Cond.code yMO_tables cMO_tables 10 (none) ∈ zwd := qw_1023
theorem zkMO_step : Cond.code yMO_step cMO_step 5 (none) ∈ zwd := qw_1047
theorem zkMO_cut : Cond.code yMO_cut cMO_cut 7 (some .boolean) ∈ zwd := qw_1043
theorem zkMO_study : Cond.code yMO_study cMO_study 6 (none) ∈ zwd := qw_1019
theorem zkMO_someone : Cond.code yMO_someone cMO_someone 7 (some .int) ∈ zwd := qw_1015
theorem zkMO_keeps : Cond.code yMO_keeps cMO_keeps 2 (some .boolean) ∈ zwd := qw_1011
theorem zkMO_breaking : Cond.code yMO_breaking cMO_breaking 1 (some .int) ∈ zwd := qw_1051
theorem zkMO_keeping : Cond.code yMO_keeping cMO_keeping 1 (some .int) ∈ zwd := qw_1055
theorem zkMO_holds : Cond.code yMO_holds cMO_holds 11 (some .boolean) ∈ zwd := qw_1071
theorem zkMO_advance : Cond.code yMO_advance cMO_advance 2 (some .boolean) ∈ zwd := qw_1075
theorem zkMO_linked : Cond.code yMO_linked cMO_linked 3 (some .boolean) ∈ zwd := qw_1067
theorem zkMO_search : Cond.code yMO_search cMO_search 5 (none) ∈ zwd := qw_1063
theorem zkMO_witness : Cond.code yMO_witness cMO_witness 3 (some .int) ∈ zwd := qw_1059
theorem zkMO_go : Cond.code yMO_go cMO_go 2 (some .int) ∈ zwd := qw_1079
theorem zkMO_clear : Cond.code yMO_clear cMO_clear 1 (none) ∈ zwd := qw_1083
theorem zkMO_judge : Cond.code yMO_judge cMO_judge 4 (some .boolean) ∈ zwd := qw_1087
theorem zkLAW_formula : Cond.codeWith yLAW_formula cLAW_formula 3 (some .int) [(0, 8, 11, 13), (0, 8, 14, 15)] ∈ zwd := (qw_of 442 (by decide +kernel) (by decide +kernel))
theorem zkLAW_normal : Cond.codeWith yLAW_normal cLAW_normal 4 (some .int) [(0, 9, 12, 21)] ∈ zwd := (qw_of 608 (by decide +kernel) (by decide +kernel))
theorem zkLAW_keeps : Cond.codeWith yLAW_keeps cLAW_keeps 4 (some .int) [(0, 16, 19, 21), (0, 16, 22, 27)] ∈ zwd := (qw_of 635 (by decide +kernel) (by decide +kernel))
theorem zkLAW_breaking : Cond.codeWith yLAW_breaking cLAW_breaking 3 (some .int) [(0, 8, 11, 21)] ∈ zwd := (qw_of 762 (by decide +kernel) (by decide +kernel))
theorem zkLAW_keeping : Cond.codeWith yLAW_keeping cLAW_keeping 3 (some .int) [(0, 8, 11, 21)] ∈ zwd := (qw_of 769 (by decide +kernel) (by decide +kernel))
theorem zkLAW_witness : Cond.codeWith yLAW_witness cLAW_witness 5 (some .int) [(0, 10, 13, 21)] ∈ zwd := (qw_of 776 (by decide +kernel) (by decide +kernel))
theorem zkLAW_judge : Cond.codeWith yLAW_judge cLAW_judge 5 (some .int) [(0, 17, 20, 21), (0, 17, 24, 27), (0, 17, 28, 15)] ∈ zwd := (qw_of 833 (by decide +kernel) (by decide +kernel))
theorem zgGR_12 : zG "PathChecker$Graph" 12 1 0 := ⟨R_GR, T_GR, 8, rfl, by decide, zin_GR, Or.inl qw_186⟩
theorem zgGR_21 : zG "PathChecker$Graph" 21 1 1 := ⟨R_GR, T_GR, 8, rfl, by decide, zin_GR, Or.inl qw_190⟩
theorem zgGR_25 : zG "PathChecker$Graph" 25 1 3 := ⟨R_GR, T_GR, 8, rfl, by decide, zin_GR, Or.inl qw_197⟩
theorem zgGR_29 : zG "PathChecker$Graph" 29 1 4 := ⟨R_GR, T_GR, 8, rfl, by decide, zin_GR, Or.inl qw_198⟩
theorem zgGR_32 : zG "PathChecker$Graph" 32 1 5 := ⟨R_GR, T_GR, 8, rfl, by decide, zin_GR, Or.inl qw_199⟩
theorem zgGR_35 : zG "PathChecker$Graph" 35 1 6 := ⟨R_GR, T_GR, 8, rfl, by decide, zin_GR, Or.inl qw_200⟩
theorem zgGR_38 : zG "PathChecker$Graph" 38 1 7 := ⟨R_GR, T_GR, 8, rfl, by decide, zin_GR, Or.inl qw_203⟩
theorem zgGR_45 : zG "PathChecker$Graph" 45 1 2 := ⟨R_GR, T_GR, 8, rfl, by decide, zin_GR, Or.inl qw_195⟩
theorem zpGR_45 : zPt "PathChecker$Graph" 45 1 2 .int := ⟨R_GR, T_GR, 8, ty_GR, rfl, by decide, zin_GR, Or.inl qw_195, tyk_GR, nm_GR, rfl, rfl⟩
theorem zgKN_12 : zG "PathChecker$Knots" 12 2 0 := ⟨R_KN, T_KN, 12, rfl, by decide, zin_KN, Or.inl qw_222⟩
theorem zgKN_18 : zG "PathChecker$Knots" 18 2 1 := ⟨R_KN, T_KN, 12, rfl, by decide, zin_KN, Or.inl qw_225⟩
theorem zgKN_22 : zG "PathChecker$Knots" 22 2 2 := ⟨R_KN, T_KN, 12, rfl, by decide, zin_KN, Or.inl qw_227⟩
theorem zgKN_25 : zG "PathChecker$Knots" 25 2 4 := ⟨R_KN, T_KN, 12, rfl, by decide, zin_KN, Or.inl qw_229⟩
theorem zgKN_28 : zG "PathChecker$Knots" 28 2 5 := ⟨R_KN, T_KN, 12, rfl, by decide, zin_KN, Or.inl qw_230⟩
theorem zgKN_31 : zG "PathChecker$Knots" 31 2 6 := ⟨R_KN, T_KN, 12, rfl, by decide, zin_KN, Or.inl qw_231⟩
theorem zgKN_34 : zG "PathChecker$Knots" 34 2 8 := ⟨R_KN, T_KN, 12, rfl, by decide, zin_KN, Or.inl qw_233⟩
theorem zgKN_37 : zG "PathChecker$Knots" 37 2 10 := ⟨R_KN, T_KN, 12, rfl, by decide, zin_KN, Or.inl qw_235⟩
theorem zgKN_41 : zG "PathChecker$Knots" 41 2 11 := ⟨R_KN, T_KN, 12, rfl, by decide, zin_KN, Or.inl qw_236⟩
theorem zgKN_54 : zG "PathChecker$Knots" 54 2 3 := ⟨R_KN, T_KN, 12, rfl, by decide, zin_KN, Or.inl qw_228⟩
theorem zpKN_54 : zPt "PathChecker$Knots" 54 2 3 .int := ⟨R_KN, T_KN, 12, ty_KN, rfl, by decide, zin_KN, Or.inl qw_228, tyk_KN, nm_KN, rfl, rfl⟩
theorem zgKN_57 : zG "PathChecker$Knots" 57 2 7 := ⟨R_KN, T_KN, 12, rfl, by decide, zin_KN, Or.inl qw_232⟩
theorem zpKN_57 : zPt "PathChecker$Knots" 57 2 7 .int := ⟨R_KN, T_KN, 12, ty_KN, rfl, by decide, zin_KN, Or.inl qw_232, tyk_KN, nm_KN, rfl, rfl⟩
theorem zgKN_60 : zG "PathChecker$Knots" 60 2 9 := ⟨R_KN, T_KN, 12, rfl, by decide, zin_KN, Or.inl qw_234⟩
theorem zpKN_60 : zPt "PathChecker$Knots" 60 2 9 .int := ⟨R_KN, T_KN, 12, ty_KN, rfl, by decide, zin_KN, Or.inl qw_234, tyk_KN, nm_KN, rfl, rfl⟩
theorem zgNE_12 : zG "PathChecker$Nearness" 12 3 0 := ⟨R_NE, T_NE, 4, rfl, by decide, zin_NE, Or.inl qw_262⟩
theorem zgNE_22 : zG "PathChecker$Nearness" 22 3 1 := ⟨R_NE, T_NE, 4, rfl, by decide, zin_NE, Or.inl qw_265⟩
theorem zgNE_23 : zG "PathChecker$Nearness" 23 3 2 := ⟨R_NE, T_NE, 4, rfl, by decide, zin_NE, Or.inl qw_266⟩
theorem zgNE_27 : zG "PathChecker$Nearness" 27 3 3 := ⟨R_NE, T_NE, 4, rfl, by decide, zin_NE, Or.inl qw_267⟩
theorem zgNF_15 : zG "PathChecker$NormalForm" 15 4 2 := ⟨R_NF, T_NF, 10, rfl, by decide, zin_NF, Or.inl qw_132⟩
theorem zgNF_19 : zG "PathChecker$NormalForm" 19 4 3 := ⟨R_NF, T_NF, 10, rfl, by decide, zin_NF, Or.inl qw_135⟩
theorem zgNF_22 : zG "PathChecker$NormalForm" 22 4 5 := ⟨R_NF, T_NF, 10, rfl, by decide, zin_NF, Or.inl qw_140⟩
theorem zgNF_25 : zG "PathChecker$NormalForm" 25 4 6 := ⟨R_NF, T_NF, 10, rfl, by decide, zin_NF, Or.inl qw_142⟩
theorem zgNF_28 : zG "PathChecker$NormalForm" 28 4 7 := ⟨R_NF, T_NF, 10, rfl, by decide, zin_NF, Or.inl qw_144⟩
theorem zgNF_31 : zG "PathChecker$NormalForm" 31 4 8 := ⟨R_NF, T_NF, 10, rfl, by decide, zin_NF, Or.inl qw_145⟩
theorem zgNF_35 : zG "PathChecker$NormalForm" 35 4 1 := ⟨R_NF, T_NF, 10, rfl, by decide, zin_NF, Or.inl qw_128⟩
theorem zpNF_35 : zPt "PathChecker$NormalForm" 35 4 1 .int := ⟨R_NF, T_NF, 10, ty_NF, rfl, by decide, zin_NF, Or.inl qw_128, tyk_NF, nm_NF, rfl, rfl⟩
theorem zgNF_46 : zG "PathChecker$NormalForm" 46 4 9 := ⟨R_NF, T_NF, 10, rfl, by decide, zin_NF, Or.inl qw_146⟩
theorem zpNF_46 : zPt "PathChecker$NormalForm" 46 4 9 .int := ⟨R_NF, T_NF, 10, ty_NF, rfl, by decide, zin_NF, Or.inl qw_146, tyk_NF, nm_NF, rfl, rfl⟩
theorem zgNF_75 : zG "PathChecker$NormalForm" 75 4 4 := ⟨R_NF, T_NF, 10, rfl, by decide, zin_NF, Or.inl qw_138⟩
theorem zpNF_75 : zPt "PathChecker$NormalForm" 75 4 4 .int := ⟨R_NF, T_NF, 10, ty_NF, rfl, by decide, zin_NF, Or.inl qw_138, tyk_NF, nm_NF, rfl, rfl⟩
theorem zgNF_9 : zG "PathChecker$NormalForm" 9 4 0 := ⟨R_NF, T_NF, 10, rfl, by decide, zin_NF, Or.inl qw_124⟩
theorem zgPA_15 : zG "PathChecker$Path" 15 5 0 := ⟨R_PA, T_PA, 3, rfl, by decide, zin_PA, Or.inl qw_80⟩
theorem zgPA_18 : zG "PathChecker$Path" 18 5 1 := ⟨R_PA, T_PA, 3, rfl, by decide, zin_PA, Or.inl qw_83⟩
theorem zpPA_18 : zPt "PathChecker$Path" 18 5 1 .int := ⟨R_PA, T_PA, 3, ty_PA, rfl, by decide, zin_PA, Or.inl qw_83, tyk_PA, nm_PA, rfl, rfl⟩
theorem zgPA_9 : zG "PathChecker$Path" 9 5 2 := ⟨R_PA, T_PA, 3, rfl, by decide, zin_PA, Or.inl qw_86⟩
theorem zgRE_15 : zG "PathChecker$Reader" 15 6 1 := ⟨R_RE, T_RE, 11, rfl, by decide, zin_RE, Or.inl qw_35⟩
theorem zgRE_19 : zG "PathChecker$Reader" 19 6 2 := ⟨R_RE, T_RE, 11, rfl, by decide, zin_RE, Or.inl qw_37⟩
theorem zgRE_22 : zG "PathChecker$Reader" 22 6 5 := ⟨R_RE, T_RE, 11, rfl, by decide, zin_RE, Or.inl qw_43⟩
theorem zgRE_25 : zG "PathChecker$Reader" 25 6 7 := ⟨R_RE, T_RE, 11, rfl, by decide, zin_RE, Or.inl qw_45⟩
theorem zgRE_31 : zG "PathChecker$Reader" 31 6 10 := ⟨R_RE, T_RE, 11, rfl, by decide, zin_RE, Or.inl qw_48⟩
theorem zpRE_31 : zPt "PathChecker$Reader" 31 6 10 .boolean := ⟨R_RE, T_RE, 11, ty_RE, rfl, by decide, zin_RE, Or.inl qw_48, tyk_RE, nm_RE, rfl, rfl⟩
theorem zgRE_45 : zG "PathChecker$Reader" 45 6 4 := ⟨R_RE, T_RE, 11, rfl, by decide, zin_RE, Or.inl qw_41⟩
theorem zpRE_45 : zPt "PathChecker$Reader" 45 6 4 .int := ⟨R_RE, T_RE, 11, ty_RE, rfl, by decide, zin_RE, Or.inl qw_41, tyk_RE, nm_RE, rfl, rfl⟩
theorem zgRE_49 : zG "PathChecker$Reader" 49 6 9 := ⟨R_RE, T_RE, 11, rfl, by decide, zin_RE, Or.inl qw_47⟩
theorem zpRE_49 : zPt "PathChecker$Reader" 49 6 9 .int := ⟨R_RE, T_RE, 11, ty_RE, rfl, by decide, zin_RE, Or.inl qw_47, tyk_RE, nm_RE, rfl, rfl⟩
theorem zgRE_56 : zG "PathChecker$Reader" 56 6 3 := ⟨R_RE, T_RE, 11, rfl, by decide, zin_RE, Or.inl qw_39⟩
theorem zpRE_56 : zPt "PathChecker$Reader" 56 6 3 .int := ⟨R_RE, T_RE, 11, ty_RE, rfl, by decide, zin_RE, Or.inl qw_39, tyk_RE, nm_RE, rfl, rfl⟩
theorem zgRE_59 : zG "PathChecker$Reader" 59 6 6 := ⟨R_RE, T_RE, 11, rfl, by decide, zin_RE, Or.inl qw_44⟩
theorem zpRE_59 : zPt "PathChecker$Reader" 59 6 6 .int := ⟨R_RE, T_RE, 11, ty_RE, rfl, by decide, zin_RE, Or.inl qw_44, tyk_RE, nm_RE, rfl, rfl⟩
theorem zgRE_62 : zG "PathChecker$Reader" 62 6 8 := ⟨R_RE, T_RE, 11, rfl, by decide, zin_RE, Or.inl qw_46⟩
theorem zpRE_62 : zPt "PathChecker$Reader" 62 6 8 .int := ⟨R_RE, T_RE, 11, ty_RE, rfl, by decide, zin_RE, Or.inl qw_46, tyk_RE, nm_RE, rfl, rfl⟩
theorem zgRE_9 : zG "PathChecker$Reader" 9 6 0 := ⟨R_RE, T_RE, 11, rfl, by decide, zin_RE, Or.inl qw_33⟩
theorem zgSE_12 : zG "PathChecker$Search" 12 7 0 := ⟨R_SE, T_SE, 6, rfl, by decide, zin_SE, Or.inl qw_279⟩
theorem zgSE_22 : zG "PathChecker$Search" 22 7 1 := ⟨R_SE, T_SE, 6, rfl, by decide, zin_SE, Or.inl qw_281⟩
theorem zgSE_28 : zG "PathChecker$Search" 28 7 2 := ⟨R_SE, T_SE, 6, rfl, by decide, zin_SE, Or.inl qw_282⟩
theorem zgSE_32 : zG "PathChecker$Search" 32 7 3 := ⟨R_SE, T_SE, 6, rfl, by decide, zin_SE, Or.inl qw_284⟩
theorem zgSE_36 : zG "PathChecker$Search" 36 7 4 := ⟨R_SE, T_SE, 6, rfl, by decide, zin_SE, Or.inl qw_285⟩
theorem zpSE_36 : zPt "PathChecker$Search" 36 7 4 .int := ⟨R_SE, T_SE, 6, ty_SE, rfl, by decide, zin_SE, Or.inl qw_285, tyk_SE, nm_SE, rfl, rfl⟩
theorem zgSE_40 : zG "PathChecker$Search" 40 7 5 := ⟨R_SE, T_SE, 6, rfl, by decide, zin_SE, Or.inl qw_286⟩
theorem zpSE_40 : zPt "PathChecker$Search" 40 7 5 .int := ⟨R_SE, T_SE, 6, ty_SE, rfl, by decide, zin_SE, Or.inl qw_286, tyk_SE, nm_SE, rfl, rfl⟩
theorem zgST_15 : zG "PathChecker$Structure" 15 8 1 := ⟨R_ST, T_ST, 2, rfl, by decide, zin_ST, Or.inl qw_179⟩
theorem zgST_9 : zG "PathChecker$Structure" 9 8 0 := ⟨R_ST, T_ST, 2, rfl, by decide, zin_ST, Or.inl qw_175⟩
theorem zgPC_16 : zG "PathChecker" 16 0 2 := ⟨R_PC, T_PC, 11, rfl, by decide, zin_PC, Or.inl qw_303⟩
theorem zgPC_25 : zG "PathChecker" 25 0 3 := ⟨R_PC, T_PC, 11, rfl, by decide, zin_PC, Or.inl qw_304⟩
theorem zgPC_32 : zG "PathChecker" 32 0 4 := ⟨R_PC, T_PC, 11, rfl, by decide, zin_PC, Or.inl qw_305⟩
theorem zgPC_40 : zG "PathChecker" 40 0 5 := ⟨R_PC, T_PC, 11, rfl, by decide, zin_PC, Or.inl qw_306⟩
theorem zgPC_47 : zG "PathChecker" 47 0 6 := ⟨R_PC, T_PC, 11, rfl, by decide, zin_PC, Or.inl qw_307⟩
theorem zgPC_54 : zG "PathChecker" 54 0 7 := ⟨R_PC, T_PC, 11, rfl, by decide, zin_PC, Or.inl qw_308⟩
theorem zgPC_61 : zG "PathChecker" 61 0 8 := ⟨R_PC, T_PC, 11, rfl, by decide, zin_PC, Or.inl qw_309⟩
theorem zgPC_66 : zG "PathChecker" 66 0 9 := ⟨R_PC, T_PC, 11, rfl, by decide, zin_PC, Or.inl qw_310⟩
theorem zgPC_67 : zG "PathChecker" 67 0 1 := ⟨R_PC, T_PC, 11, rfl, by decide, zin_PC, Or.inl qw_302⟩
theorem zpPC_67 : zPt "PathChecker" 67 0 1 .int := ⟨R_PC, T_PC, 11, ty_PC, rfl, by decide, zin_PC, Or.inl qw_302, tyk_PC, nm_PC, rfl, rfl⟩
theorem zgPC_9 : zG "PathChecker" 9 0 0 := ⟨R_PC, T_PC, 11, rfl, by decide, zin_PC, Or.inl qw_301⟩
theorem zgPC_90 : zG "PathChecker" 90 0 10 := ⟨R_PC, T_PC, 11, rfl, by decide, zin_PC, Or.inl qw_311⟩
theorem zpPC_90 : zPt "PathChecker" 90 0 10 .boolean := ⟨R_PC, T_PC, 11, ty_PC, rfl, by decide, zin_PC, Or.inl qw_311, tyk_PC, nm_PC, rfl, rfl⟩
theorem zgMO_104 : zG "PathCheckerModel" 104 9 10 := ⟨R_MO, T_MO, 41, rfl, by decide, zin_MO, Or.inl qw_802⟩
theorem zpMO_104 : zPt "PathCheckerModel" 104 9 10 .int := ⟨R_MO, T_MO, 41, ty_MO, rfl, by decide, zin_MO, Or.inl qw_802, tyk_MO, nm_MO, rfl, rfl⟩
theorem zgMO_107 : zG "PathCheckerModel" 107 9 14 := ⟨R_MO, T_MO, 41, rfl, by decide, zin_MO, Or.inl qw_806⟩
theorem zpMO_107 : zPt "PathCheckerModel" 107 9 14 .int := ⟨R_MO, T_MO, 41, ty_MO, rfl, by decide, zin_MO, Or.inl qw_806, tyk_MO, nm_MO, rfl, rfl⟩
theorem zgMO_110 : zG "PathCheckerModel" 110 9 16 := ⟨R_MO, T_MO, 41, rfl, by decide, zin_MO, Or.inl qw_808⟩
theorem zpMO_110 : zPt "PathCheckerModel" 110 9 16 .int := ⟨R_MO, T_MO, 41, ty_MO, rfl, by decide, zin_MO, Or.inl qw_808, tyk_MO, nm_MO, rfl, rfl⟩
theorem zgMO_124 : zG "PathCheckerModel" 124 9 18 := ⟨R_MO, T_MO, 41, rfl, by decide, zin_MO, Or.inl qw_810⟩
theorem zpMO_124 : zPt "PathCheckerModel" 124 9 18 .int := ⟨R_MO, T_MO, 41, ty_MO, rfl, by decide, zin_MO, Or.inl qw_810, tyk_MO, nm_MO, rfl, rfl⟩
theorem zgMO_13 : zG "PathCheckerModel" 13 9 5 := ⟨R_MO, T_MO, 41, rfl, by decide, zin_MO, Or.inl qw_797⟩
theorem zgMO_145 : zG "PathCheckerModel" 145 9 4 := ⟨R_MO, T_MO, 41, rfl, by decide, zin_MO, Or.inl qw_796⟩
theorem zpMO_145 : zPt "PathCheckerModel" 145 9 4 .int := ⟨R_MO, T_MO, 41, ty_MO, rfl, by decide, zin_MO, Or.inl qw_796, tyk_MO, nm_MO, rfl, rfl⟩
theorem zgMO_148 : zG "PathCheckerModel" 148 9 9 := ⟨R_MO, T_MO, 41, rfl, by decide, zin_MO, Or.inl qw_801⟩
theorem zpMO_148 : zPt "PathCheckerModel" 148 9 9 .int := ⟨R_MO, T_MO, 41, ty_MO, rfl, by decide, zin_MO, Or.inl qw_801, tyk_MO, nm_MO, rfl, rfl⟩
theorem zgMO_151 : zG "PathCheckerModel" 151 9 3 := ⟨R_MO, T_MO, 41, rfl, by decide, zin_MO, Or.inl qw_795⟩
theorem zpMO_151 : zPt "PathCheckerModel" 151 9 3 .boolean := ⟨R_MO, T_MO, 41, ty_MO, rfl, by decide, zin_MO, Or.inl qw_795, tyk_MO, nm_MO, rfl, rfl⟩
theorem zgMO_16 : zG "PathCheckerModel" 16 9 6 := ⟨R_MO, T_MO, 41, rfl, by decide, zin_MO, Or.inl qw_798⟩
theorem zgMO_161 : zG "PathCheckerModel" 161 9 19 := ⟨R_MO, T_MO, 41, rfl, by decide, zin_MO, Or.inl qw_811⟩
theorem zpMO_161 : zPt "PathCheckerModel" 161 9 19 .int := ⟨R_MO, T_MO, 41, ty_MO, rfl, by decide, zin_MO, Or.inl qw_811, tyk_MO, nm_MO, rfl, rfl⟩
theorem zgMO_171 : zG "PathCheckerModel" 171 9 25 := ⟨R_MO, T_MO, 41, rfl, by decide, zin_MO, Or.inl qw_817⟩
theorem zpMO_171 : zPt "PathCheckerModel" 171 9 25 .boolean := ⟨R_MO, T_MO, 41, ty_MO, rfl, by decide, zin_MO, Or.inl qw_817, tyk_MO, nm_MO, rfl, rfl⟩
theorem zgMO_19 : zG "PathCheckerModel" 19 9 7 := ⟨R_MO, T_MO, 41, rfl, by decide, zin_MO, Or.inl qw_799⟩
theorem zgMO_208 : zG "PathCheckerModel" 208 9 34 := ⟨R_MO, T_MO, 41, rfl, by decide, zin_MO, Or.inl qw_826⟩
theorem zpMO_208 : zPt "PathCheckerModel" 208 9 34 .int := ⟨R_MO, T_MO, 41, ty_MO, rfl, by decide, zin_MO, Or.inl qw_826, tyk_MO, nm_MO, rfl, rfl⟩
theorem zgMO_211 : zG "PathCheckerModel" 211 9 35 := ⟨R_MO, T_MO, 41, rfl, by decide, zin_MO, Or.inl qw_827⟩
theorem zpMO_211 : zPt "PathCheckerModel" 211 9 35 .int := ⟨R_MO, T_MO, 41, ty_MO, rfl, by decide, zin_MO, Or.inl qw_827, tyk_MO, nm_MO, rfl, rfl⟩
theorem zgMO_22 : zG "PathCheckerModel" 22 9 8 := ⟨R_MO, T_MO, 41, rfl, by decide, zin_MO, Or.inl qw_800⟩
theorem zgMO_226 : zG "PathCheckerModel" 226 9 23 := ⟨R_MO, T_MO, 41, rfl, by decide, zin_MO, Or.inl qw_815⟩
theorem zpMO_226 : zPt "PathCheckerModel" 226 9 23 .int := ⟨R_MO, T_MO, 41, ty_MO, rfl, by decide, zin_MO, Or.inl qw_815, tyk_MO, nm_MO, rfl, rfl⟩
theorem zgMO_25 : zG "PathCheckerModel" 25 9 11 := ⟨R_MO, T_MO, 41, rfl, by decide, zin_MO, Or.inl qw_803⟩
theorem zgMO_28 : zG "PathCheckerModel" 28 9 12 := ⟨R_MO, T_MO, 41, rfl, by decide, zin_MO, Or.inl qw_804⟩
theorem zgMO_31 : zG "PathCheckerModel" 31 9 13 := ⟨R_MO, T_MO, 41, rfl, by decide, zin_MO, Or.inl qw_805⟩
theorem zgMO_34 : zG "PathCheckerModel" 34 9 15 := ⟨R_MO, T_MO, 41, rfl, by decide, zin_MO, Or.inl qw_807⟩
theorem zgMO_37 : zG "PathCheckerModel" 37 9 17 := ⟨R_MO, T_MO, 41, rfl, by decide, zin_MO, Or.inl qw_809⟩
theorem zgMO_40 : zG "PathCheckerModel" 40 9 20 := ⟨R_MO, T_MO, 41, rfl, by decide, zin_MO, Or.inl qw_812⟩
theorem zgMO_43 : zG "PathCheckerModel" 43 9 21 := ⟨R_MO, T_MO, 41, rfl, by decide, zin_MO, Or.inl qw_813⟩
theorem zgMO_46 : zG "PathCheckerModel" 46 9 22 := ⟨R_MO, T_MO, 41, rfl, by decide, zin_MO, Or.inl qw_814⟩
theorem zgMO_50 : zG "PathCheckerModel" 50 9 24 := ⟨R_MO, T_MO, 41, rfl, by decide, zin_MO, Or.inl qw_816⟩
theorem zgMO_53 : zG "PathCheckerModel" 53 9 26 := ⟨R_MO, T_MO, 41, rfl, by decide, zin_MO, Or.inl qw_818⟩
theorem zgMO_56 : zG "PathCheckerModel" 56 9 27 := ⟨R_MO, T_MO, 41, rfl, by decide, zin_MO, Or.inl qw_819⟩
theorem zgMO_59 : zG "PathCheckerModel" 59 9 28 := ⟨R_MO, T_MO, 41, rfl, by decide, zin_MO, Or.inl qw_820⟩
theorem zgMO_62 : zG "PathCheckerModel" 62 9 29 := ⟨R_MO, T_MO, 41, rfl, by decide, zin_MO, Or.inl qw_821⟩
theorem zgMO_66 : zG "PathCheckerModel" 66 9 30 := ⟨R_MO, T_MO, 41, rfl, by decide, zin_MO, Or.inl qw_822⟩
theorem zgMO_69 : zG "PathCheckerModel" 69 9 31 := ⟨R_MO, T_MO, 41, rfl, by decide, zin_MO, Or.inl qw_823⟩
theorem zgMO_7 : zG "PathCheckerModel" 7 9 2 := ⟨R_MO, T_MO, 41, rfl, by decide, zin_MO, Or.inl qw_794⟩
theorem zgMO_72 : zG "PathCheckerModel" 72 9 32 := ⟨R_MO, T_MO, 41, rfl, by decide, zin_MO, Or.inl qw_824⟩
theorem zgMO_75 : zG "PathCheckerModel" 75 9 33 := ⟨R_MO, T_MO, 41, rfl, by decide, zin_MO, Or.inl qw_825⟩
theorem zgMO_78 : zG "PathCheckerModel" 78 9 36 := ⟨R_MO, T_MO, 41, rfl, by decide, zin_MO, Or.inl qw_828⟩
theorem zgMO_81 : zG "PathCheckerModel" 81 9 37 := ⟨R_MO, T_MO, 41, rfl, by decide, zin_MO, Or.inl qw_829⟩
theorem zgMO_84 : zG "PathCheckerModel" 84 9 38 := ⟨R_MO, T_MO, 41, rfl, by decide, zin_MO, Or.inl qw_830⟩
theorem zgMO_87 : zG "PathCheckerModel" 87 9 39 := ⟨R_MO, T_MO, 41, rfl, by decide, zin_MO, Or.inl qw_831⟩
theorem zgMO_90 : zG "PathCheckerModel" 90 9 40 := ⟨R_MO, T_MO, 41, rfl, by decide, zin_MO, Or.inl qw_832⟩
theorem zgMO_93 : zG "PathCheckerModel" 93 9 0 := ⟨R_MO, T_MO, 41, rfl, by decide, zin_MO, Or.inl qw_792⟩
theorem zpMO_93 : zPt "PathCheckerModel" 93 9 0 .int := ⟨R_MO, T_MO, 41, ty_MO, rfl, by decide, zin_MO, Or.inl qw_792, tyk_MO, nm_MO, rfl, rfl⟩
theorem zgMO_97 : zG "PathCheckerModel" 97 9 1 := ⟨R_MO, T_MO, 41, rfl, by decide, zin_MO, Or.inl qw_793⟩
theorem zpMO_97 : zPt "PathCheckerModel" 97 9 1 .int := ⟨R_MO, T_MO, 41, ty_MO, rfl, by decide, zin_MO, Or.inl qw_793, tyk_MO, nm_MO, rfl, rfl⟩
theorem zgGR_41 : zG "PathChecker$Graph" 41 4 4 := ⟨R_NF, T_NF, 10, rfl, by decide, zin_NF, Or.inr ⟨"PathChecker", zn_136⟩⟩
theorem zpGR_41 : zPt "PathChecker$Graph" 41 4 4 .int := ⟨R_NF, T_NF, 10, ty_NF, rfl, by decide, zin_NF, Or.inr ⟨"PathChecker", zn_136⟩, tyk_NF, nm_NF, rfl, rfl⟩
theorem zgGR_63 : zG "PathChecker$Graph" 63 8 0 := ⟨R_ST, T_ST, 2, rfl, by decide, zin_ST, Or.inr ⟨"PathChecker", zn_176⟩⟩
theorem zgGR_66 : zG "PathChecker$Graph" 66 4 1 := ⟨R_NF, T_NF, 10, rfl, by decide, zin_NF, Or.inr ⟨"PathChecker", zn_129⟩⟩
theorem zpGR_66 : zPt "PathChecker$Graph" 66 4 1 .int := ⟨R_NF, T_NF, 10, ty_NF, rfl, by decide, zin_NF, Or.inr ⟨"PathChecker", zn_129⟩, tyk_NF, nm_NF, rfl, rfl⟩
theorem zgGR_69 : zG "PathChecker$Graph" 69 4 6 := ⟨R_NF, T_NF, 10, rfl, by decide, zin_NF, Or.inr ⟨"PathChecker", zn_143⟩⟩
theorem zsGR_76 : zLk "PathChecker$Graph" 76 ("PathChecker", "GUESSES_WITH", "[I", true) := Or.inr ⟨"PathChecker", zn_617⟩
theorem zgGR_79 : zG "PathChecker$Graph" 79 4 5 := ⟨R_NF, T_NF, 10, rfl, by decide, zin_NF, Or.inr ⟨"PathChecker", zn_141⟩⟩
theorem zgGR_86 : zG "PathChecker$Graph" 86 4 0 := ⟨R_NF, T_NF, 10, rfl, by decide, zin_NF, Or.inr ⟨"PathChecker", zn_125⟩⟩
theorem zgGR_90 : zG "PathChecker$Graph" 90 4 2 := ⟨R_NF, T_NF, 10, rfl, by decide, zin_NF, Or.inr ⟨"PathChecker", zn_134⟩⟩
theorem zgKN_101 : zG "PathChecker$Knots" 101 1 0 := ⟨R_GR, T_GR, 8, rfl, by decide, zin_GR, Or.inr ⟨"PathChecker", zn_189⟩⟩
theorem zgKN_105 : zG "PathChecker$Knots" 105 4 4 := ⟨R_NF, T_NF, 10, rfl, by decide, zin_NF, Or.inr ⟨"PathChecker", zn_139⟩⟩
theorem zpKN_105 : zPt "PathChecker$Knots" 105 4 4 .int := ⟨R_NF, T_NF, 10, ty_NF, rfl, by decide, zin_NF, Or.inr ⟨"PathChecker", zn_139⟩, tyk_NF, nm_NF, rfl, rfl⟩
theorem zgKN_110 : zG "PathChecker$Knots" 110 1 7 := ⟨R_GR, T_GR, 8, rfl, by decide, zin_GR, Or.inr ⟨"PathChecker", zn_204⟩⟩
theorem zgKN_47 : zG "PathChecker$Knots" 47 1 2 := ⟨R_GR, T_GR, 8, rfl, by decide, zin_GR, Or.inr ⟨"PathChecker", zn_196⟩⟩
theorem zpKN_47 : zPt "PathChecker$Knots" 47 1 2 .int := ⟨R_GR, T_GR, 8, ty_GR, rfl, by decide, zin_GR, Or.inr ⟨"PathChecker", zn_196⟩, tyk_GR, nm_GR, rfl, rfl⟩
theorem zgKN_79 : zG "PathChecker$Knots" 79 1 1 := ⟨R_GR, T_GR, 8, rfl, by decide, zin_GR, Or.inr ⟨"PathChecker", zn_194⟩⟩
theorem zgNE_18 : zG "PathChecker$Nearness" 18 2 0 := ⟨R_KN, T_KN, 12, rfl, by decide, zin_KN, Or.inr ⟨"PathChecker", zn_223⟩⟩
theorem zgNE_30 : zG "PathChecker$Nearness" 30 2 1 := ⟨R_KN, T_KN, 12, rfl, by decide, zin_KN, Or.inr ⟨"PathChecker", zn_226⟩⟩
theorem zgNE_41 : zG "PathChecker$Nearness" 41 1 1 := ⟨R_GR, T_GR, 8, rfl, by decide, zin_GR, Or.inr ⟨"PathChecker", zn_192⟩⟩
theorem zgNE_57 : zG "PathChecker$Nearness" 57 1 6 := ⟨R_GR, T_GR, 8, rfl, by decide, zin_GR, Or.inr ⟨"PathChecker", zn_202⟩⟩
theorem zgNF_49 : zG "PathChecker$NormalForm" 49 6 3 := ⟨R_RE, T_RE, 11, rfl, by decide, zin_RE, Or.inr ⟨"PathChecker", zn_40⟩⟩
theorem zpNF_49 : zPt "PathChecker$NormalForm" 49 6 3 .int := ⟨R_RE, T_RE, 11, ty_RE, rfl, by decide, zin_RE, Or.inr ⟨"PathChecker", zn_40⟩, tyk_RE, nm_RE, rfl, rfl⟩
theorem zgNF_58 : zG "PathChecker$NormalForm" 58 6 0 := ⟨R_RE, T_RE, 11, rfl, by decide, zin_RE, Or.inr ⟨"PathChecker", zn_34⟩⟩
theorem zgNF_63 : zG "PathChecker$NormalForm" 63 6 2 := ⟨R_RE, T_RE, 11, rfl, by decide, zin_RE, Or.inr ⟨"PathChecker", zn_38⟩⟩
theorem zgNF_64 : zG "PathChecker$NormalForm" 64 6 1 := ⟨R_RE, T_RE, 11, rfl, by decide, zin_RE, Or.inr ⟨"PathChecker", zn_36⟩⟩
theorem zgPA_28 : zG "PathChecker$Path" 28 4 1 := ⟨R_NF, T_NF, 10, rfl, by decide, zin_NF, Or.inr ⟨"PathChecker", zn_130⟩⟩
theorem zpPA_28 : zPt "PathChecker$Path" 28 4 1 .int := ⟨R_NF, T_NF, 10, ty_NF, rfl, by decide, zin_NF, Or.inr ⟨"PathChecker", zn_130⟩, tyk_NF, nm_NF, rfl, rfl⟩
theorem zgPA_33 : zG "PathChecker$Path" 33 4 0 := ⟨R_NF, T_NF, 10, rfl, by decide, zin_NF, Or.inr ⟨"PathChecker", zn_126⟩⟩
theorem zgPA_37 : zG "PathChecker$Path" 37 4 2 := ⟨R_NF, T_NF, 10, rfl, by decide, zin_NF, Or.inr ⟨"PathChecker", zn_133⟩⟩
theorem zgPA_55 : zG "PathChecker$Path" 55 8 0 := ⟨R_ST, T_ST, 2, rfl, by decide, zin_ST, Or.inr ⟨"PathChecker", zn_178⟩⟩
theorem zgSE_18 : zG "PathChecker$Search" 18 3 1 := ⟨R_NE, T_NE, 4, rfl, by decide, zin_NE, Or.inr ⟨"PathChecker", zn_264⟩⟩
theorem zgSE_43 : zG "PathChecker$Search" 43 5 1 := ⟨R_PA, T_PA, 3, rfl, by decide, zin_PA, Or.inr ⟨"PathChecker", zn_84⟩⟩
theorem zpSE_43 : zPt "PathChecker$Search" 43 5 1 .int := ⟨R_PA, T_PA, 3, ty_PA, rfl, by decide, zin_PA, Or.inr ⟨"PathChecker", zn_84⟩, tyk_PA, nm_PA, rfl, rfl⟩
theorem zgSE_46 : zG "PathChecker$Search" 46 5 0 := ⟨R_PA, T_PA, 3, rfl, by decide, zin_PA, Or.inr ⟨"PathChecker", zn_81⟩⟩
theorem zgSE_53 : zG "PathChecker$Search" 53 1 6 := ⟨R_GR, T_GR, 8, rfl, by decide, zin_GR, Or.inr ⟨"PathChecker", zn_201⟩⟩
theorem zgSE_64 : zG "PathChecker$Search" 64 1 1 := ⟨R_GR, T_GR, 8, rfl, by decide, zin_GR, Or.inr ⟨"PathChecker", zn_193⟩⟩
theorem zgSE_81 : zG "PathChecker$Search" 81 1 0 := ⟨R_GR, T_GR, 8, rfl, by decide, zin_GR, Or.inr ⟨"PathChecker", zn_188⟩⟩
theorem zgPC_102 : zG "PathChecker" 102 4 1 := ⟨R_NF, T_NF, 10, rfl, by decide, zin_NF, Or.inr ⟨"PathChecker", zn_131⟩⟩
theorem zpPC_102 : zPt "PathChecker" 102 4 1 .int := ⟨R_NF, T_NF, 10, ty_NF, rfl, by decide, zin_NF, Or.inr ⟨"PathChecker", zn_131⟩, tyk_NF, nm_NF, rfl, rfl⟩
theorem zgPC_105 : zG "PathChecker" 105 4 0 := ⟨R_NF, T_NF, 10, rfl, by decide, zin_NF, Or.inr ⟨"PathChecker", zn_127⟩⟩
theorem zgPC_112 : zG "PathChecker" 112 8 0 := ⟨R_ST, T_ST, 2, rfl, by decide, zin_ST, Or.inr ⟨"PathChecker", zn_177⟩⟩
theorem zgPC_122 : zG "PathChecker" 122 8 1 := ⟨R_ST, T_ST, 2, rfl, by decide, zin_ST, Or.inr ⟨"PathChecker", zn_180⟩⟩
theorem zgPC_141 : zG "PathChecker" 141 7 5 := ⟨R_SE, T_SE, 6, rfl, by decide, zin_SE, Or.inr ⟨"PathChecker", zn_287⟩⟩
theorem zpPC_141 : zPt "PathChecker" 141 7 5 .int := ⟨R_SE, T_SE, 6, ty_SE, rfl, by decide, zin_SE, Or.inr ⟨"PathChecker", zn_287⟩, tyk_SE, nm_SE, rfl, rfl⟩
theorem zgPC_144 : zG "PathChecker" 144 7 2 := ⟨R_SE, T_SE, 6, rfl, by decide, zin_SE, Or.inr ⟨"PathChecker", zn_283⟩⟩
theorem zgPC_147 : zG "PathChecker" 147 5 1 := ⟨R_PA, T_PA, 3, rfl, by decide, zin_PA, Or.inr ⟨"PathChecker", zn_85⟩⟩
theorem zpPC_147 : zPt "PathChecker" 147 5 1 .int := ⟨R_PA, T_PA, 3, ty_PA, rfl, by decide, zin_PA, Or.inr ⟨"PathChecker", zn_85⟩, tyk_PA, nm_PA, rfl, rfl⟩
theorem zgPC_153 : zG "PathChecker" 153 5 0 := ⟨R_PA, T_PA, 3, rfl, by decide, zin_PA, Or.inr ⟨"PathChecker", zn_82⟩⟩
theorem zgPC_36 : zG "PathChecker" 36 7 0 := ⟨R_SE, T_SE, 6, rfl, by decide, zin_SE, Or.inr ⟨"PathChecker", zn_280⟩⟩
theorem zgPC_41 : zG "PathChecker" 41 3 0 := ⟨R_NE, T_NE, 4, rfl, by decide, zin_NE, Or.inr ⟨"PathChecker", zn_263⟩⟩
theorem zgPC_48 : zG "PathChecker" 48 2 0 := ⟨R_KN, T_KN, 12, rfl, by decide, zin_KN, Or.inr ⟨"PathChecker", zn_224⟩⟩
theorem zgPC_55 : zG "PathChecker" 55 1 0 := ⟨R_GR, T_GR, 8, rfl, by decide, zin_GR, Or.inr ⟨"PathChecker", zn_187⟩⟩
theorem zgPC_62 : zG "PathChecker" 62 1 1 := ⟨R_GR, T_GR, 8, rfl, by decide, zin_GR, Or.inr ⟨"PathChecker", zn_191⟩⟩
theorem zgPC_78 : zG "PathChecker" 78 6 4 := ⟨R_RE, T_RE, 11, rfl, by decide, zin_RE, Or.inr ⟨"PathChecker", zn_42⟩⟩
theorem zpPC_78 : zPt "PathChecker" 78 6 4 .int := ⟨R_RE, T_RE, 11, ty_RE, rfl, by decide, zin_RE, Or.inr ⟨"PathChecker", zn_42⟩, tyk_RE, nm_RE, rfl, rfl⟩
theorem zgPC_94 : zG "PathChecker" 94 4 4 := ⟨R_NF, T_NF, 10, rfl, by decide, zin_NF, Or.inr ⟨"PathChecker", zn_137⟩⟩
theorem zpPC_94 : zPt "PathChecker" 94 4 4 .int := ⟨R_NF, T_NF, 10, ty_NF, rfl, by decide, zin_NF, Or.inr ⟨"PathChecker", zn_137⟩, tyk_NF, nm_NF, rfl, rfl⟩
theorem zcGR_100 : zCV "PathChecker$Graph" 100 yGR_guessBefore 3 := ⟨⟨qw_7, by decide, by decide, by decide +kernel⟩, qw_658, qw_659, Or.inl qw_689⟩
theorem zcGR_48 : zCV "PathChecker$Graph" 48 yGR_weighHere 1 := ⟨⟨qw_7, by decide, by decide, by decide +kernel⟩, qw_608, qs_14, Or.inl qw_606⟩
theorem zcGR_52 : zCV "PathChecker$Graph" 52 yST_joins 2 := ⟨⟨qw_9, by decide, by decide, by decide +kernel⟩, qw_359, qw_360, Or.inl qw_623⟩
theorem zcGR_56 : zCV "PathChecker$Graph" 56 yGR_weighBefore 1 := ⟨⟨qw_7, by decide, by decide, by decide +kernel⟩, qw_626, qs_17, Or.inl qw_624⟩
theorem zcGR_59 : zCV "PathChecker$Graph" 59 yGR_writeGuesses 2 := ⟨⟨qw_7, by decide, by decide, by decide +kernel⟩, qw_634, qs_19, Or.inl qw_632⟩
theorem zcGR_72 : zCV "PathChecker$Graph" 72 yGR_untimed 3 := ⟨⟨qw_7, by decide, by decide, by decide +kernel⟩, qw_612, qs_15, Or.inl qw_610⟩
theorem zcGR_82 : zCV "PathChecker$Graph" 82 yGR_promptGuesses 2 := ⟨⟨qw_7, by decide, by decide, by decide +kernel⟩, qw_621, qs_16, Or.inl qw_619⟩
theorem zcGR_93 : zCV "PathChecker$Graph" 93 yGR_timedBefore 2 := ⟨⟨qw_7, by decide, by decide, by decide +kernel⟩, qw_630, qs_18, Or.inl qw_628⟩
theorem zcGR_96 : zCS "PathChecker$Graph" 96 yNF_leafHolds 2 := ⟨⟨qw_8, by decide, by decide, by decide +kernel⟩, qw_615, Or.inl qw_614⟩
theorem zcKN_44 : zCV "PathChecker$Knots" 44 yKN_startAnew 0 := ⟨⟨qw_6, by decide, by decide, by decide +kernel⟩, qw_642, qs_20, Or.inl qw_640⟩
theorem zcKN_50 : zCV "PathChecker$Knots" 50 yKN_walkFrom 1 := ⟨⟨qw_6, by decide, by decide, by decide +kernel⟩, qw_646, qs_21, Or.inl qw_644⟩
theorem zcKN_63 : zCV "PathChecker$Knots" 63 yKN_enter 1 := ⟨⟨qw_6, by decide, by decide, by decide +kernel⟩, qw_650, qs_22, Or.inl qw_648⟩
theorem zcKN_66 : zCV "PathChecker$Knots" 66 yKN_tryStep 2 := ⟨⟨qw_6, by decide, by decide, by decide +kernel⟩, qw_654, qs_23, Or.inl qw_652⟩
theorem kmKN_70 : Cond.methodLink "PathChecker$Knots" 70 Lib.Math.min.name ∈ zwd ∧ Cond.static Lib.Math.min.name ∈ zwd ∧ Cond.initialized "java/lang/Math" ∈ zwd ∧ Cond.code Lib.Math.min.name Lib.Math.min.code 2 (some .int) ∈ zwd := ⟨qw_661, qw_662, qw_11, qw_663⟩
theorem zcKN_76 : zCV "PathChecker$Knots" 76 yKN_release 1 := ⟨⟨qw_6, by decide, by decide, by decide +kernel⟩, qw_666, qs_24, Or.inl qw_664⟩
theorem zcKN_83 : zCV "PathChecker$Knots" 83 yST_joins 2 := ⟨⟨qw_9, by decide, by decide, by decide +kernel⟩, qw_359, qw_360, Or.inl qw_656⟩
theorem zcKN_89 : zCV "PathChecker$Knots" 89 yGR_guessBefore 3 := ⟨⟨qw_7, by decide, by decide, by decide +kernel⟩, qw_658, qw_659, Or.inl qw_657⟩
theorem zcKN_93 : zCV "PathChecker$Knots" 93 yKN_goesToItself 1 := ⟨⟨qw_6, by decide, by decide, by decide +kernel⟩, qw_670, qs_25, Or.inl qw_668⟩
theorem zcKN_97 : zCV "PathChecker$Knots" 97 yKN_isPrompt 0 := ⟨⟨qw_6, by decide, by decide, by decide +kernel⟩, qw_674, qs_26, Or.inl qw_672⟩
theorem zcNE_33 : zCV "PathChecker$Nearness" 33 yNE_oneStepMore 3 := ⟨⟨qw_5, by decide, by decide, by decide +kernel⟩, qw_682, qs_27, Or.inl qw_680⟩
theorem zcNE_37 : zCV "PathChecker$Nearness" 37 yNE_growReaching 0 := ⟨⟨qw_5, by decide, by decide, by decide +kernel⟩, qw_692, qs_28, Or.inl qw_690⟩
theorem zcNE_47 : zCV "PathChecker$Nearness" 47 yST_joins 2 := ⟨⟨qw_9, by decide, by decide, by decide +kernel⟩, qw_359, qw_360, Or.inl qw_684⟩
theorem zcNE_53 : zCV "PathChecker$Nearness" 53 yGR_guessesBefore 3 := ⟨⟨qw_7, by decide, by decide, by decide +kernel⟩, qw_686, qw_687, Or.inl qw_685⟩
theorem zcNF_39 : zCV "PathChecker$NormalForm" 39 yNF_write 1 := ⟨⟨qw_8, by decide, by decide, by decide +kernel⟩, qw_523, qs_8, Or.inl qw_521⟩
theorem zcNF_43 : zCV "PathChecker$NormalForm" 43 yNF_connect 0 := ⟨⟨qw_8, by decide, by decide, by decide +kernel⟩, qw_542, qs_12, Or.inl qw_540⟩
theorem zcNF_54 : zCV "PathChecker$NormalForm" 54 yNF_keepForLater 2 := ⟨⟨qw_8, by decide, by decide, by decide +kernel⟩, qw_527, qs_9, Or.inl qw_525⟩
theorem zcNF_59 : zCV "PathChecker$NormalForm" 59 yNF_writeSigns 2 := ⟨⟨qw_8, by decide, by decide, by decide +kernel⟩, qw_531, qs_10, Or.inl qw_529⟩
theorem zcNF_67 : zCV "PathChecker$NormalForm" 67 yNF_add 1 := ⟨⟨qw_8, by decide, by decide, by decide +kernel⟩, qw_535, qs_11, Or.inl qw_533⟩
theorem zcNF_71 : zCS "PathChecker$NormalForm" 71 yNF_opposite 1 := ⟨⟨qw_8, by decide, by decide, by decide +kernel⟩, qw_538, Or.inl qw_537⟩
theorem zcNF_78 : zCS "PathChecker$NormalForm" 78 yNF_isBinary 1 := ⟨⟨qw_8, by decide, by decide, by decide +kernel⟩, qw_545, Or.inl qw_544⟩
theorem zcPA_22 : zCV "PathChecker$Path" 22 yST_joins 2 := ⟨⟨qw_9, by decide, by decide, by decide +kernel⟩, qw_359, qw_360, Or.inl qw_784⟩
theorem zcPA_40 : zCV "PathChecker$Path" 40 yPA_placesBefore 2 := ⟨⟨qw_3, by decide, by decide, by decide +kernel⟩, qw_754, qs_32, Or.inl qw_752⟩
theorem zcPA_44 : zCV "PathChecker$Path" 44 yPA_placesOfUntil 3 := ⟨⟨qw_3, by decide, by decide, by decide +kernel⟩, qw_758, qs_33, Or.inl qw_756⟩
theorem zcPA_48 : zCV "PathChecker$Path" 48 yPA_placesOfRelease 3 := ⟨⟨qw_3, by decide, by decide, by decide +kernel⟩, qw_762, qs_34, Or.inl qw_760⟩
theorem zcPA_51 : zCV "PathChecker$Path" 51 yPA_placesOfLeaf 2 := ⟨⟨qw_3, by decide, by decide, by decide +kernel⟩, qw_766, qs_35, Or.inl qw_764⟩
theorem zcPA_58 : zCS "PathChecker$Path" 58 yNF_leafHolds 2 := ⟨⟨qw_8, by decide, by decide, by decide +kernel⟩, qw_615, Or.inl qw_768⟩
theorem zcRE_28 : zCV "PathChecker$Reader" 28 yRE_startAnew 0 := ⟨⟨qw_2, by decide, by decide, by decide +kernel⟩, qw_397, qs_0, Or.inl qw_395⟩
theorem zcRE_35 : zCV "PathChecker$Reader" 35 yRE_takeInUnit 1 := ⟨⟨qw_2, by decide, by decide, by decide +kernel⟩, qw_401, qs_1, Or.inl qw_399⟩
theorem zcRE_39 : zCV "PathChecker$Reader" 39 yRE_takeBehindUnit 1 := ⟨⟨qw_2, by decide, by decide, by decide +kernel⟩, qw_419, qs_4, Or.inl qw_417⟩
theorem zcRE_42 : zCS "PathChecker$Reader" 42 yRE_isTimed 1 := ⟨⟨qw_2, by decide, by decide, by decide +kernel⟩, qw_436, Or.inl qw_435⟩
theorem zcRE_52 : zCV "PathChecker$Reader" 52 yRE_joinDownTo 1 := ⟨⟨qw_2, by decide, by decide, by decide +kernel⟩, qw_423, qs_5, Or.inl qw_421⟩
theorem zcRE_65 : zCS "PathChecker$Reader" 65 yRE_isLeaf 1 := ⟨⟨qw_2, by decide, by decide, by decide +kernel⟩, qw_404, Or.inl qw_403⟩
theorem zcRE_68 : zCV "PathChecker$Reader" 68 yRE_newPart 3 := ⟨⟨qw_2, by decide, by decide, by decide +kernel⟩, qw_408, qs_2, Or.inl qw_406⟩
theorem zcRE_72 : zCS "PathChecker$Reader" 72 yRE_rank 1 := ⟨⟨qw_2, by decide, by decide, by decide +kernel⟩, qw_411, Or.inl qw_410⟩
theorem zcRE_76 : zCV "PathChecker$Reader" 76 yRE_await 1 := ⟨⟨qw_2, by decide, by decide, by decide +kernel⟩, qw_415, qs_3, Or.inl qw_413⟩
theorem kmRE_80 : Cond.methodLink "PathChecker$Reader" 80 Lib.Math.max.name ∈ zwd ∧ Cond.static Lib.Math.max.name ∈ zwd ∧ Cond.initialized "java/lang/Math" ∈ zwd ∧ Cond.code Lib.Math.max.name Lib.Math.max.code 2 (some .int) ∈ zwd := ⟨qw_429, qw_430, qw_11, qw_431⟩
theorem zcRE_86 : zCS "PathChecker$Reader" 86 yRE_groupsToTheRight 1 := ⟨⟨qw_2, by decide, by decide, by decide +kernel⟩, qw_433, Or.inl qw_432⟩
theorem zcRE_89 : zCV "PathChecker$Reader" 89 yRE_join 1 := ⟨⟨qw_2, by decide, by decide, by decide +kernel⟩, qw_427, qs_6, Or.inl qw_425⟩
theorem zcSE_49 : zCV "PathChecker$Search" 49 yNE_within 2 := ⟨⟨qw_5, by decide, by decide, by decide +kernel⟩, qw_728, qw_729, Or.inl qw_727⟩
theorem zcSE_58 : zCV "PathChecker$Search" 58 ySE_extend 1 := ⟨⟨qw_4, by decide, by decide, by decide +kernel⟩, qw_733, qs_29, Or.inl qw_731⟩
theorem zcSE_61 : zCV "PathChecker$Search" 61 ySE_closeLoop 1 := ⟨⟨qw_4, by decide, by decide, by decide +kernel⟩, qw_737, qs_30, Or.inl qw_735⟩
theorem zcSE_68 : zCV "PathChecker$Search" 68 yST_joins 2 := ⟨⟨qw_9, by decide, by decide, by decide +kernel⟩, qw_359, qw_360, Or.inl qw_743⟩
theorem zcSE_74 : zCV "PathChecker$Search" 74 yGR_guessesAfter 4 := ⟨⟨qw_7, by decide, by decide, by decide +kernel⟩, qw_745, qw_746, Or.inl qw_744⟩
theorem zcSE_78 : zCV "PathChecker$Search" 78 ySE_mayGoOnAt 2 := ⟨⟨qw_4, by decide, by decide, by decide +kernel⟩, qw_741, qs_31, Or.inl qw_739⟩
theorem zcSE_85 : zCV "PathChecker$Search" 85 yPA_placesOf 3 := ⟨⟨qw_3, by decide, by decide, by decide +kernel⟩, qw_749, qw_750, Or.inl qw_748⟩
theorem zcPC_108 : zCS "PathChecker" 108 yPC_isState 1 := ⟨⟨qw_1, by decide, by decide, by decide +kernel⟩, qw_352, Or.inl qw_351⟩
theorem zcPC_118 : zCV "PathChecker" 118 yST_joins 2 := ⟨⟨qw_9, by decide, by decide, by decide +kernel⟩, qw_359, qw_360, Or.inl qw_358⟩
theorem zcPC_125 : zCV "PathChecker" 125 yST_statesWithPath 0 := ⟨⟨qw_9, by decide, by decide, by decide +kernel⟩, qw_371, qw_372, Or.inl qw_370⟩
theorem zcPC_132 : zCV "PathChecker" 132 yPC_bringUpToDate 0 := ⟨⟨qw_1, by decide, by decide, by decide +kernel⟩, qw_600, qs_13, Or.inl qw_598⟩
theorem zcPC_135 : zCV "PathChecker" 135 yNE_statesWithPath 1 := ⟨⟨qw_5, by decide, by decide, by decide +kernel⟩, qw_699, qw_700, Or.inl qw_698⟩
theorem zcPC_138 : zCV "PathChecker" 138 ySE_lookFrom 1 := ⟨⟨qw_4, by decide, by decide, by decide +kernel⟩, qw_724, qw_725, Or.inl qw_723⟩
theorem zcPC_150 : zCV "PathChecker" 150 yPA_hasPlace 1 := ⟨⟨qw_3, by decide, by decide, by decide +kernel⟩, qw_770, qw_771, Or.inl qw_769⟩
theorem zcPC_156 : zCV "PathChecker" 156 yPA_isLinked 2 := ⟨⟨qw_3, by decide, by decide, by decide +kernel⟩, qw_781, qw_782, Or.inl qw_780⟩
theorem zcPC_160 : zCV "PathChecker" 160 yPA_placesOf 3 := ⟨⟨qw_3, by decide, by decide, by decide +kernel⟩, qw_749, qw_750, Or.inl qw_785⟩
theorem zcPC_164 : zCV "PathChecker" 164 yGR_build 0 := ⟨⟨qw_7, by decide, by decide, by decide +kernel⟩, qw_603, qw_604, Or.inl qw_602⟩
theorem zcPC_167 : zCV "PathChecker" 167 yKN_find 0 := ⟨⟨qw_6, by decide, by decide, by decide +kernel⟩, qw_637, qw_638, Or.inl qw_636⟩
theorem zcPC_170 : zCV "PathChecker" 170 yNE_measure 0 := ⟨⟨qw_5, by decide, by decide, by decide +kernel⟩, qw_677, qw_678, Or.inl qw_676⟩
theorem zcPC_173 : zCV "PathChecker" 173 ySE_forget 0 := ⟨⟨qw_4, by decide, by decide, by decide +kernel⟩, qw_695, qw_696, Or.inl qw_694⟩
theorem zcPC_71 : zCV "PathChecker" 71 yRE_reads 2 := ⟨⟨qw_2, by decide, by decide, by decide +kernel⟩, qw_392, qw_393, Or.inl qw_391⟩
theorem zcPC_84 : zCV "PathChecker" 84 yNF_take 1 := ⟨⟨qw_8, by decide, by decide, by decide +kernel⟩, qw_518, qw_519, Or.inl qw_517⟩
theorem zcPC_95 : zCV "PathChecker" 95 yNF_isMissing 0 := ⟨⟨qw_8, by decide, by decide, by decide +kernel⟩, qw_557, qw_558, Or.inl qw_556⟩
theorem zcLAW_100 : zCV "PathCheckerLaw" 100 yMO_keeping 0 := ⟨⟨qw_10, by decide, by decide, by decide +kernel⟩, qw_1053, qw_1054, Or.inl qw_1052⟩
theorem zcLAW_101 : zCS "PathCheckerLaw" 101 yLAW_witness 4 := ⟨⟨qw_0, by decide, by decide, by decide +kernel⟩, qw_717, Or.inl qw_716⟩
theorem zcLAW_104 : zCV "PathCheckerLaw" 104 yMO_witness 2 := ⟨⟨qw_10, by decide, by decide, by decide +kernel⟩, qw_1057, qw_1058, Or.inl qw_1056⟩
theorem zcLAW_105 : zCV "PathCheckerLaw" 105 yPC_go 1 := ⟨⟨qw_1, by decide, by decide, by decide +kernel⟩, qw_375, qw_376, Or.inl qw_374⟩
theorem zcLAW_108 : zCV "PathCheckerLaw" 108 yMO_go 1 := ⟨⟨qw_10, by decide, by decide, by decide +kernel⟩, qw_1077, qw_1078, Or.inl qw_1076⟩
theorem zcLAW_109 : zCV "PathCheckerLaw" 109 yPC_clear 0 := ⟨⟨qw_1, by decide, by decide, by decide +kernel⟩, qw_379, qw_380, Or.inl qw_378⟩
theorem zcLAW_112 : zCV "PathCheckerLaw" 112 yMO_clear 0 := ⟨⟨qw_10, by decide, by decide, by decide +kernel⟩, qw_1081, qw_1082, Or.inl qw_1080⟩
theorem zcLAW_113 : zCS "PathCheckerLaw" 113 yLAW_judge 4 := ⟨⟨qw_0, by decide, by decide, by decide +kernel⟩, qw_774, Or.inl qw_773⟩
theorem zcLAW_115 : zCV "PathCheckerLaw" 115 yMO_judge 2 := ⟨⟨qw_10, by decide, by decide, by decide +kernel⟩, qw_1085, qw_1086, Or.inl qw_1084⟩
theorem zcLAW_17 : zCV "PathCheckerLaw" 17 yPC_normal 1 := ⟨⟨qw_1, by decide, by decide, by decide +kernel⟩, qw_553, qw_554, Or.inl qw_552⟩
theorem zcLAW_23 : zCV "PathCheckerLaw" 23 yPC_keeps 1 := ⟨⟨qw_1, by decide, by decide, by decide +kernel⟩, qw_580, qw_581, Or.inl qw_579⟩
theorem zcLAW_29 : zCV "PathCheckerLaw" 29 yPC_breaking 0 := ⟨⟨qw_1, by decide, by decide, by decide +kernel⟩, qw_706, qw_707, Or.inl qw_705⟩
theorem zcLAW_32 : zCV "PathCheckerLaw" 32 yPC_keeping 0 := ⟨⟨qw_1, by decide, by decide, by decide +kernel⟩, qw_713, qw_714, Or.inl qw_712⟩
theorem zcLAW_35 : zCV "PathCheckerLaw" 35 yPC_witness 2 := ⟨⟨qw_1, by decide, by decide, by decide +kernel⟩, qw_720, qw_721, Or.inl qw_719⟩
theorem zcLAW_39 : zCV "PathCheckerLaw" 39 yPC_judge 2 := ⟨⟨qw_1, by decide, by decide, by decide +kernel⟩, qw_777, qw_778, Or.inl qw_776⟩
theorem zcLAW_49 : zCV "PathCheckerLaw" 49 yPC_type 1 := ⟨⟨qw_1, by decide, by decide, by decide +kernel⟩, qw_336, qw_337, Or.inl qw_335⟩
theorem zcLAW_53 : zCV "PathCheckerLaw" 53 yMO_type 1 := ⟨⟨qw_10, by decide, by decide, by decide +kernel⟩, qw_922, qw_923, Or.inl qw_921⟩
theorem zcLAW_54 : zCV "PathCheckerLaw" 54 yPC_wipe 0 := ⟨⟨qw_1, by decide, by decide, by decide +kernel⟩, qw_340, qw_341, Or.inl qw_339⟩
theorem zcLAW_57 : zCV "PathCheckerLaw" 57 yMO_wipe 0 := ⟨⟨qw_10, by decide, by decide, by decide +kernel⟩, qw_926, qw_927, Or.inl qw_925⟩
theorem zcLAW_58 : zCV "PathCheckerLaw" 58 yPC_length 0 := ⟨⟨qw_1, by decide, by decide, by decide +kernel⟩, qw_344, qw_345, Or.inl qw_343⟩
theorem zcLAW_61 : zCV "PathCheckerLaw" 61 yMO_length 0 := ⟨⟨qw_10, by decide, by decide, by decide +kernel⟩, qw_930, qw_931, Or.inl qw_929⟩
theorem zcLAW_62 : zCS "PathCheckerLaw" 62 yLAW_formula 2 := ⟨⟨qw_0, by decide, by decide, by decide +kernel⟩, qw_383, Or.inl qw_382⟩
theorem zcLAW_67 : zCV "PathCheckerLaw" 67 yMO_formula 0 := ⟨⟨qw_10, by decide, by decide, by decide +kernel⟩, qw_934, qw_935, Or.inl qw_933⟩
theorem zcLAW_68 : zCV "PathCheckerLaw" 68 yMO_thrown 0 := ⟨⟨qw_10, by decide, by decide, by decide +kernel⟩, qw_918, qw_919, Or.inl qw_917⟩
theorem zcLAW_7 : zCV "PathCheckerLaw" 7 yPC_formula 0 := ⟨⟨qw_1, by decide, by decide, by decide +kernel⟩, qw_388, qw_389, Or.inl qw_387⟩
theorem zcLAW_71 : zCS "PathCheckerLaw" 71 yLAW_normal 3 := ⟨⟨qw_0, by decide, by decide, by decide +kernel⟩, qw_549, Or.inl qw_548⟩
theorem zcLAW_74 : zCV "PathCheckerLaw" 74 yMO_normal 1 := ⟨⟨qw_10, by decide, by decide, by decide +kernel⟩, qw_986, qw_987, Or.inl qw_985⟩
theorem zcLAW_75 : zCV "PathCheckerLaw" 75 yPC_mark 2 := ⟨⟨qw_1, by decide, by decide, by decide +kernel⟩, qw_348, qw_349, Or.inl qw_347⟩
theorem zcLAW_78 : zCV "PathCheckerLaw" 78 yMO_mark 2 := ⟨⟨qw_10, by decide, by decide, by decide +kernel⟩, qw_990, qw_991, Or.inl qw_989⟩
theorem zcLAW_79 : zCV "PathCheckerLaw" 79 yPC_link 3 := ⟨⟨qw_1, by decide, by decide, by decide +kernel⟩, qw_355, qw_356, Or.inl qw_354⟩
theorem zcLAW_83 : zCV "PathCheckerLaw" 83 yMO_link 3 := ⟨⟨qw_10, by decide, by decide, by decide +kernel⟩, qw_997, qw_998, Or.inl qw_996⟩
theorem zcLAW_84 : zCV "PathCheckerLaw" 84 yPC_state 2 := ⟨⟨qw_1, by decide, by decide, by decide +kernel⟩, qw_363, qw_364, Or.inl qw_362⟩
theorem zcLAW_87 : zCV "PathCheckerLaw" 87 yMO_state 2 := ⟨⟨qw_10, by decide, by decide, by decide +kernel⟩, qw_1001, qw_1002, Or.inl qw_1000⟩
theorem zcLAW_88 : zCV "PathCheckerLaw" 88 yPC_endless 1 := ⟨⟨qw_1, by decide, by decide, by decide +kernel⟩, qw_367, qw_368, Or.inl qw_366⟩
theorem zcLAW_91 : zCV "PathCheckerLaw" 91 yMO_endless 1 := ⟨⟨qw_10, by decide, by decide, by decide +kernel⟩, qw_1005, qw_1006, Or.inl qw_1004⟩
theorem zcLAW_92 : zCS "PathCheckerLaw" 92 yLAW_keeps 3 := ⟨⟨qw_0, by decide, by decide, by decide +kernel⟩, qw_576, Or.inl qw_575⟩
theorem zcLAW_94 : zCV "PathCheckerLaw" 94 yMO_keeps 1 := ⟨⟨qw_10, by decide, by decide, by decide +kernel⟩, qw_1009, qw_1010, Or.inl qw_1008⟩
theorem zcLAW_95 : zCS "PathCheckerLaw" 95 yLAW_breaking 2 := ⟨⟨qw_0, by decide, by decide, by decide +kernel⟩, qw_703, Or.inl qw_702⟩
theorem zcLAW_97 : zCV "PathCheckerLaw" 97 yMO_breaking 0 := ⟨⟨qw_10, by decide, by decide, by decide +kernel⟩, qw_1049, qw_1050, Or.inl qw_1048⟩
theorem zcLAW_98 : zCS "PathCheckerLaw" 98 yLAW_keeping 2 := ⟨⟨qw_0, by decide, by decide, by decide +kernel⟩, qw_710, Or.inl qw_709⟩
theorem zcMO_100 : zCS "PathCheckerModel" 100 yMO_isPrefix 1 := ⟨⟨qw_10, by decide, by decide, by decide +kernel⟩, qw_949, Or.inl qw_948⟩
theorem zcMO_113 : zCV "PathCheckerModel" 113 yMO_node 3 := ⟨⟨qw_10, by decide, by decide, by decide +kernel⟩, qw_946, qs_37, Or.inl qw_944⟩
theorem zcMO_117 : zCS "PathCheckerModel" 117 yMO_strength 1 := ⟨⟨qw_10, by decide, by decide, by decide +kernel⟩, qw_956, Or.inl qw_955⟩
theorem zcMO_121 : zCV "PathCheckerModel" 121 yMO_reduce 0 := ⟨⟨qw_10, by decide, by decide, by decide +kernel⟩, qw_960, qs_39, Or.inl qw_958⟩
theorem zcMO_127 : zCS "PathCheckerModel" 127 yMO_isAtom 1 := ⟨⟨qw_10, by decide, by decide, by decide +kernel⟩, qw_942, Or.inl qw_941⟩
theorem zcMO_130 : zCV "PathCheckerModel" 130 yMO_reduceFrom 1 := ⟨⟨qw_10, by decide, by decide, by decide +kernel⟩, qw_953, qs_38, Or.inl qw_951⟩
theorem zcMO_134 : zCS "PathCheckerModel" 134 yMO_isTimed 1 := ⟨⟨qw_10, by decide, by decide, by decide +kernel⟩, qw_967, Or.inl qw_966⟩
theorem zcMO_137 : zCV "PathCheckerModel" 137 yMO_reads 0 := ⟨⟨qw_10, by decide, by decide, by decide +kernel⟩, qw_939, qs_36, Or.inl qw_937⟩
theorem zcMO_141 : zCV "PathCheckerModel" 141 yMO_countTimed 0 := ⟨⟨qw_10, by decide, by decide, by decide +kernel⟩, qw_964, qs_40, Or.inl qw_962⟩
theorem zcMO_155 : zCV "PathCheckerModel" 155 yMO_forget 0 := ⟨⟨qw_10, by decide, by decide, by decide +kernel⟩, qw_971, qs_41, Or.inl qw_969⟩
theorem zcMO_158 : zCV "PathCheckerModel" 158 yMO_write 0 := ⟨⟨qw_10, by decide, by decide, by decide +kernel⟩, qw_975, qs_42, Or.inl qw_973⟩
theorem zcMO_164 : zCV "PathCheckerModel" 164 yMO_hold 2 := ⟨⟨qw_10, by decide, by decide, by decide +kernel⟩, qw_979, qs_43, Or.inl qw_977⟩
theorem zcMO_168 : zCV "PathCheckerModel" 168 yMO_emit 1 := ⟨⟨qw_10, by decide, by decide, by decide +kernel⟩, qw_983, qs_44, Or.inl qw_981⟩
theorem zcMO_174 : zCS "PathCheckerModel" 174 yMO_isState 1 := ⟨⟨qw_10, by decide, by decide, by decide +kernel⟩, qw_994, Or.inl qw_993⟩
theorem zcMO_177 : zCV "PathCheckerModel" 177 yMO_plain 2 := ⟨⟨qw_10, by decide, by decide, by decide +kernel⟩, qw_1030, qs_49, Or.inl qw_1028⟩
theorem zcMO_181 : zCV "PathCheckerModel" 181 yMO_decider 1 := ⟨⟨qw_10, by decide, by decide, by decide +kernel⟩, qw_1034, qs_50, Or.inl qw_1032⟩
theorem zcMO_184 : zCV "PathCheckerModel" 184 yMO_evaluate 2 := ⟨⟨qw_10, by decide, by decide, by decide +kernel⟩, qw_1026, qs_48, Or.inl qw_1024⟩
theorem zcMO_188 : zCV "PathCheckerModel" 188 yMO_bitsBefore 3 := ⟨⟨qw_10, by decide, by decide, by decide +kernel⟩, qw_1038, qs_51, Or.inl qw_1036⟩
theorem zcMO_192 : zCV "PathCheckerModel" 192 yMO_step 0 := ⟨⟨qw_10, by decide, by decide, by decide +kernel⟩, qw_1046, qs_53, Or.inl qw_1044⟩
theorem zcMO_195 : zCV "PathCheckerModel" 195 yMO_tables 0 := ⟨⟨qw_10, by decide, by decide, by decide +kernel⟩, qw_1022, qs_47, Or.inl qw_1020⟩
theorem zcMO_198 : zCV "PathCheckerModel" 198 yMO_cut 1 := ⟨⟨qw_10, by decide, by decide, by decide +kernel⟩, qw_1042, qs_52, Or.inl qw_1040⟩
theorem zcMO_201 : zCV "PathCheckerModel" 201 yMO_study 0 := ⟨⟨qw_10, by decide, by decide, by decide +kernel⟩, qw_1018, qs_46, Or.inl qw_1016⟩
theorem zcMO_204 : zCV "PathCheckerModel" 204 yMO_someone 1 := ⟨⟨qw_10, by decide, by decide, by decide +kernel⟩, qw_1014, qs_45, Or.inl qw_1012⟩
theorem zcMO_214 : zCV "PathCheckerModel" 214 yMO_linked 0 := ⟨⟨qw_10, by decide, by decide, by decide +kernel⟩, qw_1066, qs_55, Or.inl qw_1064⟩
theorem zcMO_217 : zCV "PathCheckerModel" 217 yMO_holds 1 := ⟨⟨qw_10, by decide, by decide, by decide +kernel⟩, qw_1070, qs_56, Or.inl qw_1068⟩
theorem zcMO_220 : zCV "PathCheckerModel" 220 yMO_advance 0 := ⟨⟨qw_10, by decide, by decide, by decide +kernel⟩, qw_1074, qs_57, Or.inl qw_1072⟩
theorem zcMO_223 : zCV "PathCheckerModel" 223 yMO_search 1 := ⟨⟨qw_10, by decide, by decide, by decide +kernel⟩, qw_1062, qs_54, Or.inl qw_1060⟩
theorem zcNF_82 : zCS "PathChecker$NormalForm" 82 yRE_isTimed 1 := ⟨⟨qw_2, by decide, by decide, by decide +kernel⟩, qw_436, Or.inr ⟨"PathChecker", zn_547⟩⟩
theorem kLAW_47 : Cond.constantLong "PathCheckerLaw" 47 4294967295 ∈ zwd := qw_1088
theorem zlLAW_13 : Cond.classLink "PathCheckerLaw" 13 (zxc 0) ∈ zwd := (qw_of 443 (by decide +kernel) (by decide +kernel))
theorem zlLAW_15 : Cond.classLink "PathCheckerLaw" 15 (zxc 1) ∈ zwd := (qw_of 444 (by decide +kernel) (by decide +kernel))
theorem zlPC_75 : Cond.classLink "PathChecker" 75 (zxc 0) ∈ zwd := (qw_of 496 (by decide +kernel) (by decide +kernel))
theorem ztPC_75 : zTh "PathChecker" 75 77 0 := ⟨zlPC_75, (qw_of 497 (by decide +kernel) (by decide +kernel)), (qw_of 73 (by decide +kernel) (by decide +kernel)), zTh_of (by decide +kernel)⟩
theorem zlPC_81 : Cond.classLink "PathChecker" 81 (zxc 1) ∈ zwd := (qw_of 560 (by decide +kernel) (by decide +kernel))
theorem ztPC_81 : zTh "PathChecker" 81 83 1 := ⟨zlPC_81, (qw_of 561 (by decide +kernel) (by decide +kernel)), (qw_of 74 (by decide +kernel) (by decide +kernel)), zTh_of (by decide +kernel)⟩
theorem zlLAW_21 : Cond.classLink "PathCheckerLaw" 21 (zxc 2) ∈ zwd := (qw_of 609 (by decide +kernel) (by decide +kernel))
theorem zlPC_99 : Cond.classLink "PathChecker" 99 (zxc 2) ∈ zwd := (qw_of 618 (by decide +kernel) (by decide +kernel))
theorem ztPC_99 : zTh "PathChecker" 99 101 2 := ⟨zlPC_99, (qw_of 619 (by decide +kernel) (by decide +kernel)), (qw_of 75 (by decide +kernel) (by decide +kernel)), zTh_of (by decide +kernel)⟩
theorem zlLAW_27 : Cond.classLink "PathCheckerLaw" 27 (zxc 3) ∈ zwd := (qw_of 636 (by decide +kernel) (by decide +kernel))
theorem zlPC_129 : Cond.classLink "PathChecker" 129 (zxc 3) ∈ zwd := (qw_of 641 (by decide +kernel) (by decide +kernel))
theorem ztPC_129 : zTh "PathChecker" 129 131 3 := ⟨zlPC_129, (qw_of 642 (by decide +kernel) (by decide +kernel)), (qw_of 76 (by decide +kernel) (by decide +kernel)), zTh_of (by decide +kernel)⟩
end
section
theorem dLAW_formula_0 : decode cLAW_formula 0 = .ok (.aload_n 1, 1) := by decide +kernel
theorem dLAW_formula_1 : decode cLAW_formula 1 = .ok (.iconst 0, 1) := by decide +kernel
theorem dLAW_formula_2 : decode cLAW_formula 2 = .ok (.aload_n 0, 1) := by decide +kernel
theorem dLAW_formula_3 : decode cLAW_formula 3 = .ok (.invokevirtual 7, 3) := by decide +kernel
theorem dLAW_formula_6 : decode cLAW_formula 6 = .ok (.i2l, 1) := by decide +kernel
theorem dLAW_formula_7 : decode cLAW_formula 7 = .ok (.lastore, 1) := by decide +kernel
theorem dLAW_formula_8 : decode cLAW_formula 8 = .ok (.goto 9, 3) := by decide +kernel
theorem dLAW_formula_11 : decode cLAW_formula 11 = .ok (.astore_n 2, 1) := by decide +kernel
theorem dLAW_formula_12 : decode cLAW_formula 12 = .ok (.iconst 1, 1) := by decide +kernel
theorem dLAW_formula_13 : decode cLAW_formula 13 = .ok (.ireturn, 1) := by decide +kernel
theorem dLAW_formula_14 : decode cLAW_formula 14 = .ok (.astore_n 2, 1) := by decide +kernel
theorem dLAW_formula_15 : decode cLAW_formula 15 = .ok (.iconst 2, 1) := by decide +kernel
theorem dLAW_formula_16 : decode cLAW_formula 16 = .ok (.ireturn, 1) := by decide +kernel
theorem dLAW_formula_17 : decode cLAW_formula 17 = .ok (.iconst 0, 1) := by decide +kernel
theorem dLAW_formula_18 : decode cLAW_formula 18 = .ok (.ireturn, 1) := by decide +kernel
theorem dLAW_normal_0 : decode cLAW_normal 0 = .ok (.aload_n 2, 1) := by decide +kernel
theorem dLAW_normal_1 : decode cLAW_normal 1 = .ok (.iconst 0, 1) := by decide +kernel
theorem dLAW_normal_2 : decode cLAW_normal 2 = .ok (.aload_n 0, 1) := by decide +kernel
theorem dLAW_normal_3 : decode cLAW_normal 3 = .ok (.iload_n 1, 1) := by decide +kernel
theorem dLAW_normal_4 : decode cLAW_normal 4 = .ok (.invokevirtual 17, 3) := by decide +kernel
theorem dLAW_normal_7 : decode cLAW_normal 7 = .ok (.i2l, 1) := by decide +kernel
theorem dLAW_normal_8 : decode cLAW_normal 8 = .ok (.lastore, 1) := by decide +kernel
theorem dLAW_normal_9 : decode cLAW_normal 9 = .ok (.goto 6, 3) := by decide +kernel
theorem dLAW_normal_12 : decode cLAW_normal 12 = .ok (.astore_n 3, 1) := by decide +kernel
theorem dLAW_normal_13 : decode cLAW_normal 13 = .ok (.iconst 1, 1) := by decide +kernel
theorem dLAW_normal_14 : decode cLAW_normal 14 = .ok (.ireturn, 1) := by decide +kernel
theorem dLAW_normal_15 : decode cLAW_normal 15 = .ok (.iconst 0, 1) := by decide +kernel
theorem dLAW_normal_16 : decode cLAW_normal 16 = .ok (.ireturn, 1) := by decide +kernel
theorem dLAW_keeps_0 : decode cLAW_keeps 0 = .ok (.aload_n 2, 1) := by decide +kernel
theorem dLAW_keeps_1 : decode cLAW_keeps 1 = .ok (.iconst 0, 1) := by decide +kernel
theorem dLAW_keeps_2 : decode cLAW_keeps 2 = .ok (.aload_n 0, 1) := by decide +kernel
theorem dLAW_keeps_3 : decode cLAW_keeps 3 = .ok (.iload_n 1, 1) := by decide +kernel
theorem dLAW_keeps_4 : decode cLAW_keeps 4 = .ok (.invokevirtual 23, 3) := by decide +kernel
theorem dLAW_keeps_7 : decode cLAW_keeps 7 = .ok (.ifCond .eq 7, 3) := by decide +kernel
theorem dLAW_keeps_10 : decode cLAW_keeps 10 = .ok (.lconst 1, 1) := by decide +kernel
theorem dLAW_keeps_11 : decode cLAW_keeps 11 = .ok (.goto 4, 3) := by decide +kernel
theorem dLAW_keeps_14 : decode cLAW_keeps 14 = .ok (.lconst 0, 1) := by decide +kernel
theorem dLAW_keeps_15 : decode cLAW_keeps 15 = .ok (.lastore, 1) := by decide +kernel
theorem dLAW_keeps_16 : decode cLAW_keeps 16 = .ok (.goto 9, 3) := by decide +kernel
theorem dLAW_keeps_19 : decode cLAW_keeps 19 = .ok (.astore_n 3, 1) := by decide +kernel
theorem dLAW_keeps_20 : decode cLAW_keeps 20 = .ok (.iconst 1, 1) := by decide +kernel
theorem dLAW_keeps_21 : decode cLAW_keeps 21 = .ok (.ireturn, 1) := by decide +kernel
theorem dLAW_keeps_22 : decode cLAW_keeps 22 = .ok (.astore_n 3, 1) := by decide +kernel
theorem dLAW_keeps_23 : decode cLAW_keeps 23 = .ok (.iconst 2, 1) := by decide +kernel
theorem dLAW_keeps_24 : decode cLAW_keeps 24 = .ok (.ireturn, 1) := by decide +kernel
theorem dLAW_keeps_25 : decode cLAW_keeps 25 = .ok (.iconst 0, 1) := by decide +kernel
theorem dLAW_keeps_26 : decode cLAW_keeps 26 = .ok (.ireturn, 1) := by decide +kernel
theorem dLAW_breaking_0 : decode cLAW_breaking 0 = .ok (.aload_n 1, 1) := by decide +kernel
theorem dLAW_breaking_1 : decode cLAW_breaking 1 = .ok (.iconst 0, 1) := by decide +kernel
theorem dLAW_breaking_2 : decode cLAW_breaking 2 = .ok (.aload_n 0, 1) := by decide +kernel
theorem dLAW_breaking_3 : decode cLAW_breaking 3 = .ok (.invokevirtual 29, 3) := by decide +kernel
theorem dLAW_breaking_6 : decode cLAW_breaking 6 = .ok (.i2l, 1) := by decide +kernel
theorem dLAW_breaking_7 : decode cLAW_breaking 7 = .ok (.lastore, 1) := by decide +kernel
theorem dLAW_breaking_8 : decode cLAW_breaking 8 = .ok (.goto 6, 3) := by decide +kernel
theorem dLAW_breaking_11 : decode cLAW_breaking 11 = .ok (.astore_n 2, 1) := by decide +kernel
theorem dLAW_breaking_12 : decode cLAW_breaking 12 = .ok (.iconst 1, 1) := by decide +kernel
theorem dLAW_breaking_13 : decode cLAW_breaking 13 = .ok (.ireturn, 1) := by decide +kernel
theorem dLAW_breaking_14 : decode cLAW_breaking 14 = .ok (.iconst 0, 1) := by decide +kernel
theorem dLAW_breaking_15 : decode cLAW_breaking 15 = .ok (.ireturn, 1) := by decide +kernel
theorem dLAW_keeping_0 : decode cLAW_keeping 0 = .ok (.aload_n 1, 1) := by decide +kernel
theorem dLAW_keeping_1 : decode cLAW_keeping 1 = .ok (.iconst 0, 1) := by decide +kernel
theorem dLAW_keeping_2 : decode cLAW_keeping 2 = .ok (.aload_n 0, 1) := by decide +kernel
theorem dLAW_keeping_3 : decode cLAW_keeping 3 = .ok (.invokevirtual 32, 3) := by decide +kernel
theorem dLAW_keeping_6 : decode cLAW_keeping 6 = .ok (.i2l, 1) := by decide +kernel
theorem dLAW_keeping_7 : decode cLAW_keeping 7 = .ok (.lastore, 1) := by decide +kernel
theorem dLAW_keeping_8 : decode cLAW_keeping 8 = .ok (.goto 6, 3) := by decide +kernel
theorem dLAW_keeping_11 : decode cLAW_keeping 11 = .ok (.astore_n 2, 1) := by decide +kernel
theorem dLAW_keeping_12 : decode cLAW_keeping 12 = .ok (.iconst 1, 1) := by decide +kernel
theorem dLAW_keeping_13 : decode cLAW_keeping 13 = .ok (.ireturn, 1) := by decide +kernel
theorem dLAW_keeping_14 : decode cLAW_keeping 14 = .ok (.iconst 0, 1) := by decide +kernel
theorem dLAW_keeping_15 : decode cLAW_keeping 15 = .ok (.ireturn, 1) := by decide +kernel
theorem dLAW_witness_0 : decode cLAW_witness 0 = .ok (.aload_n 3, 1) := by decide +kernel
theorem dLAW_witness_1 : decode cLAW_witness 1 = .ok (.iconst 0, 1) := by decide +kernel
theorem dLAW_witness_2 : decode cLAW_witness 2 = .ok (.aload_n 0, 1) := by decide +kernel
theorem dLAW_witness_3 : decode cLAW_witness 3 = .ok (.iload_n 1, 1) := by decide +kernel
theorem dLAW_witness_4 : decode cLAW_witness 4 = .ok (.iload_n 2, 1) := by decide +kernel
theorem dLAW_witness_5 : decode cLAW_witness 5 = .ok (.invokevirtual 35, 3) := by decide +kernel
theorem dLAW_witness_8 : decode cLAW_witness 8 = .ok (.i2l, 1) := by decide +kernel
theorem dLAW_witness_9 : decode cLAW_witness 9 = .ok (.lastore, 1) := by decide +kernel
theorem dLAW_witness_10 : decode cLAW_witness 10 = .ok (.goto 7, 3) := by decide +kernel
theorem dLAW_witness_13 : decode cLAW_witness 13 = .ok (.astore 4, 2) := by decide +kernel
theorem dLAW_witness_15 : decode cLAW_witness 15 = .ok (.iconst 1, 1) := by decide +kernel
theorem dLAW_witness_16 : decode cLAW_witness 16 = .ok (.ireturn, 1) := by decide +kernel
theorem dLAW_witness_17 : decode cLAW_witness 17 = .ok (.iconst 0, 1) := by decide +kernel
theorem dLAW_witness_18 : decode cLAW_witness 18 = .ok (.ireturn, 1) := by decide +kernel
theorem dLAW_judge_0 : decode cLAW_judge 0 = .ok (.aload_n 3, 1) := by decide +kernel
theorem dLAW_judge_1 : decode cLAW_judge 1 = .ok (.iconst 0, 1) := by decide +kernel
theorem dLAW_judge_2 : decode cLAW_judge 2 = .ok (.aload_n 0, 1) := by decide +kernel
theorem dLAW_judge_3 : decode cLAW_judge 3 = .ok (.iload_n 1, 1) := by decide +kernel
theorem dLAW_judge_4 : decode cLAW_judge 4 = .ok (.iload_n 2, 1) := by decide +kernel
theorem dLAW_judge_5 : decode cLAW_judge 5 = .ok (.invokevirtual 39, 3) := by decide +kernel
theorem dLAW_judge_8 : decode cLAW_judge 8 = .ok (.ifCond .eq 7, 3) := by decide +kernel
theorem dLAW_judge_11 : decode cLAW_judge 11 = .ok (.lconst 1, 1) := by decide +kernel
theorem dLAW_judge_12 : decode cLAW_judge 12 = .ok (.goto 4, 3) := by decide +kernel
theorem dLAW_judge_15 : decode cLAW_judge 15 = .ok (.lconst 0, 1) := by decide +kernel
theorem dLAW_judge_16 : decode cLAW_judge 16 = .ok (.lastore, 1) := by decide +kernel
theorem dLAW_judge_17 : decode cLAW_judge 17 = .ok (.goto 15, 3) := by decide +kernel
theorem dLAW_judge_20 : decode cLAW_judge 20 = .ok (.astore 4, 2) := by decide +kernel
theorem dLAW_judge_22 : decode cLAW_judge 22 = .ok (.iconst 1, 1) := by decide +kernel
theorem dLAW_judge_23 : decode cLAW_judge 23 = .ok (.ireturn, 1) := by decide +kernel
theorem dLAW_judge_24 : decode cLAW_judge 24 = .ok (.astore 4, 2) := by decide +kernel
theorem dLAW_judge_26 : decode cLAW_judge 26 = .ok (.iconst 2, 1) := by decide +kernel
theorem dLAW_judge_27 : decode cLAW_judge 27 = .ok (.ireturn, 1) := by decide +kernel
theorem dLAW_judge_28 : decode cLAW_judge 28 = .ok (.astore 4, 2) := by decide +kernel
theorem dLAW_judge_30 : decode cLAW_judge 30 = .ok (.iconst 3, 1) := by decide +kernel
theorem dLAW_judge_31 : decode cLAW_judge 31 = .ok (.ireturn, 1) := by decide +kernel
theorem dLAW_judge_32 : decode cLAW_judge 32 = .ok (.iconst 0, 1) := by decide +kernel
theorem dLAW_judge_33 : decode cLAW_judge 33 = .ok (.ireturn, 1) := by decide +kernel
theorem dLAW_law_0 : decode cLAW_law 0 = .ok (.new 8, 3) := by decide +kernel
theorem dLAW_law_3 : decode cLAW_law 3 = .ok (.dup, 1) := by decide +kernel
theorem dLAW_law_4 : decode cLAW_law 4 = .ok (.invokespecial 43, 3) := by decide +kernel
theorem dLAW_law_7 : decode cLAW_law 7 = .ok (.astore_n 1, 1) := by decide +kernel
theorem dLAW_law_8 : decode cLAW_law 8 = .ok (.new 44, 3) := by decide +kernel
theorem dLAW_law_11 : decode cLAW_law 11 = .ok (.dup, 1) := by decide +kernel
theorem dLAW_law_12 : decode cLAW_law 12 = .ok (.invokespecial 46, 3) := by decide +kernel
theorem dLAW_law_15 : decode cLAW_law 15 = .ok (.astore_n 2, 1) := by decide +kernel
theorem dLAW_law_16 : decode cLAW_law 16 = .ok (.iconst 1, 1) := by decide +kernel
theorem dLAW_law_17 : decode cLAW_law 17 = .ok (.newarray .long, 2) := by decide +kernel
theorem dLAW_law_19 : decode cLAW_law 19 = .ok (.astore_n 3, 1) := by decide +kernel
theorem dLAW_law_20 : decode cLAW_law 20 = .ok (.iconst 0, 1) := by decide +kernel
theorem dLAW_law_21 : decode cLAW_law 21 = .ok (.istore 4, 2) := by decide +kernel
theorem dLAW_law_23 : decode cLAW_law 23 = .ok (.iload 4, 2) := by decide +kernel
theorem dLAW_law_25 : decode cLAW_law 25 = .ok (.aload_n 0, 1) := by decide +kernel
theorem dLAW_law_26 : decode cLAW_law 26 = .ok (.arraylength, 1) := by decide +kernel
theorem dLAW_law_27 : decode cLAW_law 27 = .ok (.iconst 4, 1) := by decide +kernel
theorem dLAW_law_28 : decode cLAW_law 28 = .ok (.isub, 1) := by decide +kernel
theorem dLAW_law_29 : decode cLAW_law 29 = .ok (.if_icmp .gt 768, 3) := by decide +kernel
theorem dLAW_law_32 : decode cLAW_law 32 = .ok (.aload_n 0, 1) := by decide +kernel
theorem dLAW_law_33 : decode cLAW_law 33 = .ok (.iload 4, 2) := by decide +kernel
theorem dLAW_law_35 : decode cLAW_law 35 = .ok (.iaload, 1) := by decide +kernel
theorem dLAW_law_36 : decode cLAW_law 36 = .ok (.bipush 15, 2) := by decide +kernel
theorem dLAW_law_38 : decode cLAW_law 38 = .ok (.iand, 1) := by decide +kernel
theorem dLAW_law_39 : decode cLAW_law 39 = .ok (.tableswitch 752 0 15 #[77, 134, 145, 158, 202, 258, 295, 360, 397, 422, 485, 529, 573, 641, 666, 677], 77) := by decide +kernel
theorem dLAW_law_116 : decode cLAW_law 116 = .ok (.aload_n 1, 1) := by decide +kernel
theorem dLAW_law_117 : decode cLAW_law 117 = .ok (.aload_n 0, 1) := by decide +kernel
theorem dLAW_law_118 : decode cLAW_law 118 = .ok (.iload 4, 2) := by decide +kernel
theorem dLAW_law_120 : decode cLAW_law 120 = .ok (.iconst 1, 1) := by decide +kernel
theorem dLAW_law_121 : decode cLAW_law 121 = .ok (.iadd, 1) := by decide +kernel
theorem dLAW_law_122 : decode cLAW_law 122 = .ok (.iaload, 1) := by decide +kernel
theorem dLAW_law_123 : decode cLAW_law 123 = .ok (.i2l, 1) := by decide +kernel
theorem dLAW_law_124 : decode cLAW_law 124 = .ok (.bipush 32, 2) := by decide +kernel
theorem dLAW_law_126 : decode cLAW_law 126 = .ok (.lshl, 1) := by decide +kernel
theorem dLAW_law_127 : decode cLAW_law 127 = .ok (.aload_n 0, 1) := by decide +kernel
theorem dLAW_law_128 : decode cLAW_law 128 = .ok (.iload 4, 2) := by decide +kernel
theorem dLAW_law_130 : decode cLAW_law 130 = .ok (.iconst 2, 1) := by decide +kernel
theorem dLAW_law_131 : decode cLAW_law 131 = .ok (.iadd, 1) := by decide +kernel
theorem dLAW_law_132 : decode cLAW_law 132 = .ok (.iaload, 1) := by decide +kernel
theorem dLAW_law_133 : decode cLAW_law 133 = .ok (.i2l, 1) := by decide +kernel
theorem dLAW_law_134 : decode cLAW_law 134 = .ok (.ldc2_w 47, 3) := by decide +kernel
theorem dLAW_law_137 : decode cLAW_law 137 = .ok (.land, 1) := by decide +kernel
theorem dLAW_law_138 : decode cLAW_law 138 = .ok (.lor, 1) := by decide +kernel
theorem dLAW_law_139 : decode cLAW_law 139 = .ok (.invokevirtual 49, 3) := by decide +kernel
theorem dLAW_law_142 : decode cLAW_law 142 = .ok (.aload_n 2, 1) := by decide +kernel
theorem dLAW_law_143 : decode cLAW_law 143 = .ok (.aload_n 0, 1) := by decide +kernel
theorem dLAW_law_144 : decode cLAW_law 144 = .ok (.iload 4, 2) := by decide +kernel
theorem dLAW_law_146 : decode cLAW_law 146 = .ok (.iconst 1, 1) := by decide +kernel
theorem dLAW_law_147 : decode cLAW_law 147 = .ok (.iadd, 1) := by decide +kernel
theorem dLAW_law_148 : decode cLAW_law 148 = .ok (.iaload, 1) := by decide +kernel
theorem dLAW_law_149 : decode cLAW_law 149 = .ok (.i2l, 1) := by decide +kernel
theorem dLAW_law_150 : decode cLAW_law 150 = .ok (.bipush 32, 2) := by decide +kernel
theorem dLAW_law_152 : decode cLAW_law 152 = .ok (.lshl, 1) := by decide +kernel
theorem dLAW_law_153 : decode cLAW_law 153 = .ok (.aload_n 0, 1) := by decide +kernel
theorem dLAW_law_154 : decode cLAW_law 154 = .ok (.iload 4, 2) := by decide +kernel
theorem dLAW_law_156 : decode cLAW_law 156 = .ok (.iconst 2, 1) := by decide +kernel
theorem dLAW_law_157 : decode cLAW_law 157 = .ok (.iadd, 1) := by decide +kernel
theorem dLAW_law_158 : decode cLAW_law 158 = .ok (.iaload, 1) := by decide +kernel
theorem dLAW_law_159 : decode cLAW_law 159 = .ok (.i2l, 1) := by decide +kernel
theorem dLAW_law_160 : decode cLAW_law 160 = .ok (.ldc2_w 47, 3) := by decide +kernel
theorem dLAW_law_163 : decode cLAW_law 163 = .ok (.land, 1) := by decide +kernel
theorem dLAW_law_164 : decode cLAW_law 164 = .ok (.lor, 1) := by decide +kernel
theorem dLAW_law_165 : decode cLAW_law 165 = .ok (.invokevirtual 53, 3) := by decide +kernel
theorem dLAW_law_168 : decode cLAW_law 168 = .ok (.if_icmp .eq 623, 3) := by decide +kernel
theorem dLAW_law_171 : decode cLAW_law 171 = .ok (.iconst 0, 1) := by decide +kernel
theorem dLAW_law_172 : decode cLAW_law 172 = .ok (.ireturn, 1) := by decide +kernel
theorem dLAW_law_173 : decode cLAW_law 173 = .ok (.aload_n 1, 1) := by decide +kernel
theorem dLAW_law_174 : decode cLAW_law 174 = .ok (.invokevirtual 54, 3) := by decide +kernel
theorem dLAW_law_177 : decode cLAW_law 177 = .ok (.aload_n 2, 1) := by decide +kernel
theorem dLAW_law_178 : decode cLAW_law 178 = .ok (.invokevirtual 57, 3) := by decide +kernel
theorem dLAW_law_181 : decode cLAW_law 181 = .ok (.goto 610, 3) := by decide +kernel
theorem dLAW_law_184 : decode cLAW_law 184 = .ok (.aload_n 1, 1) := by decide +kernel
theorem dLAW_law_185 : decode cLAW_law 185 = .ok (.invokevirtual 58, 3) := by decide +kernel
theorem dLAW_law_188 : decode cLAW_law 188 = .ok (.aload_n 2, 1) := by decide +kernel
theorem dLAW_law_189 : decode cLAW_law 189 = .ok (.invokevirtual 61, 3) := by decide +kernel
theorem dLAW_law_192 : decode cLAW_law 192 = .ok (.if_icmp .eq 599, 3) := by decide +kernel
theorem dLAW_law_195 : decode cLAW_law 195 = .ok (.iconst 0, 1) := by decide +kernel
theorem dLAW_law_196 : decode cLAW_law 196 = .ok (.ireturn, 1) := by decide +kernel
theorem dLAW_law_197 : decode cLAW_law 197 = .ok (.aload_n 1, 1) := by decide +kernel
theorem dLAW_law_198 : decode cLAW_law 198 = .ok (.aload_n 3, 1) := by decide +kernel
theorem dLAW_law_199 : decode cLAW_law 199 = .ok (.invokestatic 62, 3) := by decide +kernel
theorem dLAW_law_202 : decode cLAW_law 202 = .ok (.istore 5, 2) := by decide +kernel
theorem dLAW_law_204 : decode cLAW_law 204 = .ok (.aload_n 2, 1) := by decide +kernel
theorem dLAW_law_205 : decode cLAW_law 205 = .ok (.invokevirtual 67, 3) := by decide +kernel
theorem dLAW_law_208 : decode cLAW_law 208 = .ok (.istore 6, 2) := by decide +kernel
theorem dLAW_law_210 : decode cLAW_law 210 = .ok (.aload_n 2, 1) := by decide +kernel
theorem dLAW_law_211 : decode cLAW_law 211 = .ok (.invokevirtual 68, 3) := by decide +kernel
theorem dLAW_law_214 : decode cLAW_law 214 = .ok (.iload 5, 2) := by decide +kernel
theorem dLAW_law_216 : decode cLAW_law 216 = .ok (.if_icmp .eq 5, 3) := by decide +kernel
theorem dLAW_law_219 : decode cLAW_law 219 = .ok (.iconst 0, 1) := by decide +kernel
theorem dLAW_law_220 : decode cLAW_law 220 = .ok (.ireturn, 1) := by decide +kernel
theorem dLAW_law_221 : decode cLAW_law 221 = .ok (.iload 5, 2) := by decide +kernel
theorem dLAW_law_223 : decode cLAW_law 223 = .ok (.ifCond .ne 15, 3) := by decide +kernel
theorem dLAW_law_226 : decode cLAW_law 226 = .ok (.aload_n 3, 1) := by decide +kernel
theorem dLAW_law_227 : decode cLAW_law 227 = .ok (.iconst 0, 1) := by decide +kernel
theorem dLAW_law_228 : decode cLAW_law 228 = .ok (.laload, 1) := by decide +kernel
theorem dLAW_law_229 : decode cLAW_law 229 = .ok (.iload 6, 2) := by decide +kernel
theorem dLAW_law_231 : decode cLAW_law 231 = .ok (.i2l, 1) := by decide +kernel
theorem dLAW_law_232 : decode cLAW_law 232 = .ok (.lcmp, 1) := by decide +kernel
theorem dLAW_law_233 : decode cLAW_law 233 = .ok (.ifCond .eq 5, 3) := by decide +kernel
theorem dLAW_law_236 : decode cLAW_law 236 = .ok (.iconst 0, 1) := by decide +kernel
theorem dLAW_law_237 : decode cLAW_law 237 = .ok (.ireturn, 1) := by decide +kernel
theorem dLAW_law_238 : decode cLAW_law 238 = .ok (.goto 553, 3) := by decide +kernel
theorem dLAW_law_241 : decode cLAW_law 241 = .ok (.aload_n 1, 1) := by decide +kernel
theorem dLAW_law_242 : decode cLAW_law 242 = .ok (.aload_n 0, 1) := by decide +kernel
theorem dLAW_law_243 : decode cLAW_law 243 = .ok (.iload 4, 2) := by decide +kernel
theorem dLAW_law_245 : decode cLAW_law 245 = .ok (.iconst 1, 1) := by decide +kernel
theorem dLAW_law_246 : decode cLAW_law 246 = .ok (.iadd, 1) := by decide +kernel
theorem dLAW_law_247 : decode cLAW_law 247 = .ok (.iaload, 1) := by decide +kernel
theorem dLAW_law_248 : decode cLAW_law 248 = .ok (.aload_n 3, 1) := by decide +kernel
theorem dLAW_law_249 : decode cLAW_law 249 = .ok (.invokestatic 71, 3) := by decide +kernel
theorem dLAW_law_252 : decode cLAW_law 252 = .ok (.istore 5, 2) := by decide +kernel
theorem dLAW_law_254 : decode cLAW_law 254 = .ok (.aload_n 2, 1) := by decide +kernel
theorem dLAW_law_255 : decode cLAW_law 255 = .ok (.aload_n 0, 1) := by decide +kernel
theorem dLAW_law_256 : decode cLAW_law 256 = .ok (.iload 4, 2) := by decide +kernel
theorem dLAW_law_258 : decode cLAW_law 258 = .ok (.iconst 1, 1) := by decide +kernel
theorem dLAW_law_259 : decode cLAW_law 259 = .ok (.iadd, 1) := by decide +kernel
theorem dLAW_law_260 : decode cLAW_law 260 = .ok (.iaload, 1) := by decide +kernel
theorem dLAW_law_261 : decode cLAW_law 261 = .ok (.invokevirtual 74, 3) := by decide +kernel
theorem dLAW_law_264 : decode cLAW_law 264 = .ok (.istore 6, 2) := by decide +kernel
theorem dLAW_law_266 : decode cLAW_law 266 = .ok (.aload_n 2, 1) := by decide +kernel
theorem dLAW_law_267 : decode cLAW_law 267 = .ok (.invokevirtual 68, 3) := by decide +kernel
theorem dLAW_law_270 : decode cLAW_law 270 = .ok (.iload 5, 2) := by decide +kernel
theorem dLAW_law_272 : decode cLAW_law 272 = .ok (.if_icmp .eq 5, 3) := by decide +kernel
theorem dLAW_law_275 : decode cLAW_law 275 = .ok (.iconst 0, 1) := by decide +kernel
theorem dLAW_law_276 : decode cLAW_law 276 = .ok (.ireturn, 1) := by decide +kernel
theorem dLAW_law_277 : decode cLAW_law 277 = .ok (.iload 5, 2) := by decide +kernel
theorem dLAW_law_279 : decode cLAW_law 279 = .ok (.ifCond .ne 15, 3) := by decide +kernel
theorem dLAW_law_282 : decode cLAW_law 282 = .ok (.aload_n 3, 1) := by decide +kernel
theorem dLAW_law_283 : decode cLAW_law 283 = .ok (.iconst 0, 1) := by decide +kernel
theorem dLAW_law_284 : decode cLAW_law 284 = .ok (.laload, 1) := by decide +kernel
theorem dLAW_law_285 : decode cLAW_law 285 = .ok (.iload 6, 2) := by decide +kernel
theorem dLAW_law_287 : decode cLAW_law 287 = .ok (.i2l, 1) := by decide +kernel
theorem dLAW_law_288 : decode cLAW_law 288 = .ok (.lcmp, 1) := by decide +kernel
theorem dLAW_law_289 : decode cLAW_law 289 = .ok (.ifCond .eq 5, 3) := by decide +kernel
theorem dLAW_law_292 : decode cLAW_law 292 = .ok (.iconst 0, 1) := by decide +kernel
theorem dLAW_law_293 : decode cLAW_law 293 = .ok (.ireturn, 1) := by decide +kernel
theorem dLAW_law_294 : decode cLAW_law 294 = .ok (.goto 497, 3) := by decide +kernel
theorem dLAW_law_297 : decode cLAW_law 297 = .ok (.aload_n 1, 1) := by decide +kernel
theorem dLAW_law_298 : decode cLAW_law 298 = .ok (.aload_n 0, 1) := by decide +kernel
theorem dLAW_law_299 : decode cLAW_law 299 = .ok (.iload 4, 2) := by decide +kernel
theorem dLAW_law_301 : decode cLAW_law 301 = .ok (.iconst 1, 1) := by decide +kernel
theorem dLAW_law_302 : decode cLAW_law 302 = .ok (.iadd, 1) := by decide +kernel
theorem dLAW_law_303 : decode cLAW_law 303 = .ok (.iaload, 1) := by decide +kernel
theorem dLAW_law_304 : decode cLAW_law 304 = .ok (.aload_n 0, 1) := by decide +kernel
theorem dLAW_law_305 : decode cLAW_law 305 = .ok (.iload 4, 2) := by decide +kernel
theorem dLAW_law_307 : decode cLAW_law 307 = .ok (.iconst 2, 1) := by decide +kernel
theorem dLAW_law_308 : decode cLAW_law 308 = .ok (.iadd, 1) := by decide +kernel
theorem dLAW_law_309 : decode cLAW_law 309 = .ok (.iaload, 1) := by decide +kernel
theorem dLAW_law_310 : decode cLAW_law 310 = .ok (.invokevirtual 75, 3) := by decide +kernel
theorem dLAW_law_313 : decode cLAW_law 313 = .ok (.aload_n 2, 1) := by decide +kernel
theorem dLAW_law_314 : decode cLAW_law 314 = .ok (.aload_n 0, 1) := by decide +kernel
theorem dLAW_law_315 : decode cLAW_law 315 = .ok (.iload 4, 2) := by decide +kernel
theorem dLAW_law_317 : decode cLAW_law 317 = .ok (.iconst 1, 1) := by decide +kernel
theorem dLAW_law_318 : decode cLAW_law 318 = .ok (.iadd, 1) := by decide +kernel
theorem dLAW_law_319 : decode cLAW_law 319 = .ok (.iaload, 1) := by decide +kernel
theorem dLAW_law_320 : decode cLAW_law 320 = .ok (.aload_n 0, 1) := by decide +kernel
theorem dLAW_law_321 : decode cLAW_law 321 = .ok (.iload 4, 2) := by decide +kernel
theorem dLAW_law_323 : decode cLAW_law 323 = .ok (.iconst 2, 1) := by decide +kernel
theorem dLAW_law_324 : decode cLAW_law 324 = .ok (.iadd, 1) := by decide +kernel
theorem dLAW_law_325 : decode cLAW_law 325 = .ok (.iaload, 1) := by decide +kernel
theorem dLAW_law_326 : decode cLAW_law 326 = .ok (.invokevirtual 78, 3) := by decide +kernel
theorem dLAW_law_329 : decode cLAW_law 329 = .ok (.if_icmp .eq 462, 3) := by decide +kernel
theorem dLAW_law_332 : decode cLAW_law 332 = .ok (.iconst 0, 1) := by decide +kernel
theorem dLAW_law_333 : decode cLAW_law 333 = .ok (.ireturn, 1) := by decide +kernel
theorem dLAW_law_334 : decode cLAW_law 334 = .ok (.aload_n 1, 1) := by decide +kernel
theorem dLAW_law_335 : decode cLAW_law 335 = .ok (.aload_n 0, 1) := by decide +kernel
theorem dLAW_law_336 : decode cLAW_law 336 = .ok (.iload 4, 2) := by decide +kernel
theorem dLAW_law_338 : decode cLAW_law 338 = .ok (.iconst 1, 1) := by decide +kernel
theorem dLAW_law_339 : decode cLAW_law 339 = .ok (.iadd, 1) := by decide +kernel
theorem dLAW_law_340 : decode cLAW_law 340 = .ok (.iaload, 1) := by decide +kernel
theorem dLAW_law_341 : decode cLAW_law 341 = .ok (.aload_n 0, 1) := by decide +kernel
theorem dLAW_law_342 : decode cLAW_law 342 = .ok (.iload 4, 2) := by decide +kernel
theorem dLAW_law_344 : decode cLAW_law 344 = .ok (.iconst 2, 1) := by decide +kernel
theorem dLAW_law_345 : decode cLAW_law 345 = .ok (.iadd, 1) := by decide +kernel
theorem dLAW_law_346 : decode cLAW_law 346 = .ok (.iaload, 1) := by decide +kernel
theorem dLAW_law_347 : decode cLAW_law 347 = .ok (.aload_n 0, 1) := by decide +kernel
theorem dLAW_law_348 : decode cLAW_law 348 = .ok (.iload 4, 2) := by decide +kernel
theorem dLAW_law_350 : decode cLAW_law 350 = .ok (.iconst 3, 1) := by decide +kernel
theorem dLAW_law_351 : decode cLAW_law 351 = .ok (.iadd, 1) := by decide +kernel
theorem dLAW_law_352 : decode cLAW_law 352 = .ok (.iaload, 1) := by decide +kernel
theorem dLAW_law_353 : decode cLAW_law 353 = .ok (.ifCond .eq 7, 3) := by decide +kernel
theorem dLAW_law_356 : decode cLAW_law 356 = .ok (.iconst 1, 1) := by decide +kernel
theorem dLAW_law_357 : decode cLAW_law 357 = .ok (.goto 4, 3) := by decide +kernel
theorem dLAW_law_360 : decode cLAW_law 360 = .ok (.iconst 0, 1) := by decide +kernel
theorem dLAW_law_361 : decode cLAW_law 361 = .ok (.invokevirtual 79, 3) := by decide +kernel
theorem dLAW_law_364 : decode cLAW_law 364 = .ok (.aload_n 2, 1) := by decide +kernel
theorem dLAW_law_365 : decode cLAW_law 365 = .ok (.aload_n 0, 1) := by decide +kernel
theorem dLAW_law_366 : decode cLAW_law 366 = .ok (.iload 4, 2) := by decide +kernel
theorem dLAW_law_368 : decode cLAW_law 368 = .ok (.iconst 1, 1) := by decide +kernel
theorem dLAW_law_369 : decode cLAW_law 369 = .ok (.iadd, 1) := by decide +kernel
theorem dLAW_law_370 : decode cLAW_law 370 = .ok (.iaload, 1) := by decide +kernel
theorem dLAW_law_371 : decode cLAW_law 371 = .ok (.aload_n 0, 1) := by decide +kernel
theorem dLAW_law_372 : decode cLAW_law 372 = .ok (.iload 4, 2) := by decide +kernel
theorem dLAW_law_374 : decode cLAW_law 374 = .ok (.iconst 2, 1) := by decide +kernel
theorem dLAW_law_375 : decode cLAW_law 375 = .ok (.iadd, 1) := by decide +kernel
theorem dLAW_law_376 : decode cLAW_law 376 = .ok (.iaload, 1) := by decide +kernel
theorem dLAW_law_377 : decode cLAW_law 377 = .ok (.aload_n 0, 1) := by decide +kernel
theorem dLAW_law_378 : decode cLAW_law 378 = .ok (.iload 4, 2) := by decide +kernel
theorem dLAW_law_380 : decode cLAW_law 380 = .ok (.iconst 3, 1) := by decide +kernel
theorem dLAW_law_381 : decode cLAW_law 381 = .ok (.iadd, 1) := by decide +kernel
theorem dLAW_law_382 : decode cLAW_law 382 = .ok (.iaload, 1) := by decide +kernel
theorem dLAW_law_383 : decode cLAW_law 383 = .ok (.ifCond .eq 7, 3) := by decide +kernel
theorem dLAW_law_386 : decode cLAW_law 386 = .ok (.iconst 1, 1) := by decide +kernel
theorem dLAW_law_387 : decode cLAW_law 387 = .ok (.goto 4, 3) := by decide +kernel
theorem dLAW_law_390 : decode cLAW_law 390 = .ok (.iconst 0, 1) := by decide +kernel
theorem dLAW_law_391 : decode cLAW_law 391 = .ok (.invokevirtual 83, 3) := by decide +kernel
theorem dLAW_law_394 : decode cLAW_law 394 = .ok (.if_icmp .eq 397, 3) := by decide +kernel
theorem dLAW_law_397 : decode cLAW_law 397 = .ok (.iconst 0, 1) := by decide +kernel
theorem dLAW_law_398 : decode cLAW_law 398 = .ok (.ireturn, 1) := by decide +kernel
theorem dLAW_law_399 : decode cLAW_law 399 = .ok (.aload_n 1, 1) := by decide +kernel
theorem dLAW_law_400 : decode cLAW_law 400 = .ok (.aload_n 0, 1) := by decide +kernel
theorem dLAW_law_401 : decode cLAW_law 401 = .ok (.iload 4, 2) := by decide +kernel
theorem dLAW_law_403 : decode cLAW_law 403 = .ok (.iconst 1, 1) := by decide +kernel
theorem dLAW_law_404 : decode cLAW_law 404 = .ok (.iadd, 1) := by decide +kernel
theorem dLAW_law_405 : decode cLAW_law 405 = .ok (.iaload, 1) := by decide +kernel
theorem dLAW_law_406 : decode cLAW_law 406 = .ok (.aload_n 0, 1) := by decide +kernel
theorem dLAW_law_407 : decode cLAW_law 407 = .ok (.iload 4, 2) := by decide +kernel
theorem dLAW_law_409 : decode cLAW_law 409 = .ok (.iconst 2, 1) := by decide +kernel
theorem dLAW_law_410 : decode cLAW_law 410 = .ok (.iadd, 1) := by decide +kernel
theorem dLAW_law_411 : decode cLAW_law 411 = .ok (.iaload, 1) := by decide +kernel
theorem dLAW_law_412 : decode cLAW_law 412 = .ok (.invokevirtual 84, 3) := by decide +kernel
theorem dLAW_law_415 : decode cLAW_law 415 = .ok (.aload_n 2, 1) := by decide +kernel
theorem dLAW_law_416 : decode cLAW_law 416 = .ok (.aload_n 0, 1) := by decide +kernel
theorem dLAW_law_417 : decode cLAW_law 417 = .ok (.iload 4, 2) := by decide +kernel
theorem dLAW_law_419 : decode cLAW_law 419 = .ok (.iconst 1, 1) := by decide +kernel
theorem dLAW_law_420 : decode cLAW_law 420 = .ok (.iadd, 1) := by decide +kernel
theorem dLAW_law_421 : decode cLAW_law 421 = .ok (.iaload, 1) := by decide +kernel
theorem dLAW_law_422 : decode cLAW_law 422 = .ok (.aload_n 0, 1) := by decide +kernel
theorem dLAW_law_423 : decode cLAW_law 423 = .ok (.iload 4, 2) := by decide +kernel
theorem dLAW_law_425 : decode cLAW_law 425 = .ok (.iconst 2, 1) := by decide +kernel
theorem dLAW_law_426 : decode cLAW_law 426 = .ok (.iadd, 1) := by decide +kernel
theorem dLAW_law_427 : decode cLAW_law 427 = .ok (.iaload, 1) := by decide +kernel
theorem dLAW_law_428 : decode cLAW_law 428 = .ok (.invokevirtual 87, 3) := by decide +kernel
theorem dLAW_law_431 : decode cLAW_law 431 = .ok (.if_icmp .eq 360, 3) := by decide +kernel
theorem dLAW_law_434 : decode cLAW_law 434 = .ok (.iconst 0, 1) := by decide +kernel
theorem dLAW_law_435 : decode cLAW_law 435 = .ok (.ireturn, 1) := by decide +kernel
theorem dLAW_law_436 : decode cLAW_law 436 = .ok (.aload_n 1, 1) := by decide +kernel
theorem dLAW_law_437 : decode cLAW_law 437 = .ok (.aload_n 0, 1) := by decide +kernel
theorem dLAW_law_438 : decode cLAW_law 438 = .ok (.iload 4, 2) := by decide +kernel
theorem dLAW_law_440 : decode cLAW_law 440 = .ok (.iconst 1, 1) := by decide +kernel
theorem dLAW_law_441 : decode cLAW_law 441 = .ok (.iadd, 1) := by decide +kernel
theorem dLAW_law_442 : decode cLAW_law 442 = .ok (.iaload, 1) := by decide +kernel
theorem dLAW_law_443 : decode cLAW_law 443 = .ok (.invokevirtual 88, 3) := by decide +kernel
theorem dLAW_law_446 : decode cLAW_law 446 = .ok (.aload_n 2, 1) := by decide +kernel
theorem dLAW_law_447 : decode cLAW_law 447 = .ok (.aload_n 0, 1) := by decide +kernel
theorem dLAW_law_448 : decode cLAW_law 448 = .ok (.iload 4, 2) := by decide +kernel
theorem dLAW_law_450 : decode cLAW_law 450 = .ok (.iconst 1, 1) := by decide +kernel
theorem dLAW_law_451 : decode cLAW_law 451 = .ok (.iadd, 1) := by decide +kernel
theorem dLAW_law_452 : decode cLAW_law 452 = .ok (.iaload, 1) := by decide +kernel
theorem dLAW_law_453 : decode cLAW_law 453 = .ok (.invokevirtual 91, 3) := by decide +kernel
theorem dLAW_law_456 : decode cLAW_law 456 = .ok (.if_icmp .eq 335, 3) := by decide +kernel
theorem dLAW_law_459 : decode cLAW_law 459 = .ok (.iconst 0, 1) := by decide +kernel
theorem dLAW_law_460 : decode cLAW_law 460 = .ok (.ireturn, 1) := by decide +kernel
theorem dLAW_law_461 : decode cLAW_law 461 = .ok (.aload_n 1, 1) := by decide +kernel
theorem dLAW_law_462 : decode cLAW_law 462 = .ok (.aload_n 0, 1) := by decide +kernel
theorem dLAW_law_463 : decode cLAW_law 463 = .ok (.iload 4, 2) := by decide +kernel
theorem dLAW_law_465 : decode cLAW_law 465 = .ok (.iconst 1, 1) := by decide +kernel
theorem dLAW_law_466 : decode cLAW_law 466 = .ok (.iadd, 1) := by decide +kernel
theorem dLAW_law_467 : decode cLAW_law 467 = .ok (.iaload, 1) := by decide +kernel
theorem dLAW_law_468 : decode cLAW_law 468 = .ok (.aload_n 3, 1) := by decide +kernel
theorem dLAW_law_469 : decode cLAW_law 469 = .ok (.invokestatic 92, 3) := by decide +kernel
theorem dLAW_law_472 : decode cLAW_law 472 = .ok (.istore 5, 2) := by decide +kernel
theorem dLAW_law_474 : decode cLAW_law 474 = .ok (.aload_n 2, 1) := by decide +kernel
theorem dLAW_law_475 : decode cLAW_law 475 = .ok (.aload_n 0, 1) := by decide +kernel
theorem dLAW_law_476 : decode cLAW_law 476 = .ok (.iload 4, 2) := by decide +kernel
theorem dLAW_law_478 : decode cLAW_law 478 = .ok (.iconst 1, 1) := by decide +kernel
theorem dLAW_law_479 : decode cLAW_law 479 = .ok (.iadd, 1) := by decide +kernel
theorem dLAW_law_480 : decode cLAW_law 480 = .ok (.iaload, 1) := by decide +kernel
theorem dLAW_law_481 : decode cLAW_law 481 = .ok (.invokevirtual 94, 3) := by decide +kernel
theorem dLAW_law_484 : decode cLAW_law 484 = .ok (.istore 6, 2) := by decide +kernel
theorem dLAW_law_486 : decode cLAW_law 486 = .ok (.aload_n 2, 1) := by decide +kernel
theorem dLAW_law_487 : decode cLAW_law 487 = .ok (.invokevirtual 68, 3) := by decide +kernel
theorem dLAW_law_490 : decode cLAW_law 490 = .ok (.iload 5, 2) := by decide +kernel
theorem dLAW_law_492 : decode cLAW_law 492 = .ok (.if_icmp .eq 5, 3) := by decide +kernel
theorem dLAW_law_495 : decode cLAW_law 495 = .ok (.iconst 0, 1) := by decide +kernel
theorem dLAW_law_496 : decode cLAW_law 496 = .ok (.ireturn, 1) := by decide +kernel
theorem dLAW_law_497 : decode cLAW_law 497 = .ok (.iload 5, 2) := by decide +kernel
theorem dLAW_law_499 : decode cLAW_law 499 = .ok (.ifCond .ne 22, 3) := by decide +kernel
theorem dLAW_law_502 : decode cLAW_law 502 = .ok (.aload_n 3, 1) := by decide +kernel
theorem dLAW_law_503 : decode cLAW_law 503 = .ok (.iconst 0, 1) := by decide +kernel
theorem dLAW_law_504 : decode cLAW_law 504 = .ok (.laload, 1) := by decide +kernel
theorem dLAW_law_505 : decode cLAW_law 505 = .ok (.iload 6, 2) := by decide +kernel
theorem dLAW_law_507 : decode cLAW_law 507 = .ok (.ifCond .eq 7, 3) := by decide +kernel
theorem dLAW_law_510 : decode cLAW_law 510 = .ok (.lconst 1, 1) := by decide +kernel
theorem dLAW_law_511 : decode cLAW_law 511 = .ok (.goto 4, 3) := by decide +kernel
theorem dLAW_law_514 : decode cLAW_law 514 = .ok (.lconst 0, 1) := by decide +kernel
theorem dLAW_law_515 : decode cLAW_law 515 = .ok (.lcmp, 1) := by decide +kernel
theorem dLAW_law_516 : decode cLAW_law 516 = .ok (.ifCond .eq 5, 3) := by decide +kernel
theorem dLAW_law_519 : decode cLAW_law 519 = .ok (.iconst 0, 1) := by decide +kernel
theorem dLAW_law_520 : decode cLAW_law 520 = .ok (.ireturn, 1) := by decide +kernel
theorem dLAW_law_521 : decode cLAW_law 521 = .ok (.goto 270, 3) := by decide +kernel
theorem dLAW_law_524 : decode cLAW_law 524 = .ok (.aload_n 1, 1) := by decide +kernel
theorem dLAW_law_525 : decode cLAW_law 525 = .ok (.aload_n 3, 1) := by decide +kernel
theorem dLAW_law_526 : decode cLAW_law 526 = .ok (.invokestatic 95, 3) := by decide +kernel
theorem dLAW_law_529 : decode cLAW_law 529 = .ok (.istore 5, 2) := by decide +kernel
theorem dLAW_law_531 : decode cLAW_law 531 = .ok (.aload_n 2, 1) := by decide +kernel
theorem dLAW_law_532 : decode cLAW_law 532 = .ok (.invokevirtual 97, 3) := by decide +kernel
theorem dLAW_law_535 : decode cLAW_law 535 = .ok (.istore 6, 2) := by decide +kernel
theorem dLAW_law_537 : decode cLAW_law 537 = .ok (.aload_n 2, 1) := by decide +kernel
theorem dLAW_law_538 : decode cLAW_law 538 = .ok (.invokevirtual 68, 3) := by decide +kernel
theorem dLAW_law_541 : decode cLAW_law 541 = .ok (.iload 5, 2) := by decide +kernel
theorem dLAW_law_543 : decode cLAW_law 543 = .ok (.if_icmp .eq 5, 3) := by decide +kernel
theorem dLAW_law_546 : decode cLAW_law 546 = .ok (.iconst 0, 1) := by decide +kernel
theorem dLAW_law_547 : decode cLAW_law 547 = .ok (.ireturn, 1) := by decide +kernel
theorem dLAW_law_548 : decode cLAW_law 548 = .ok (.iload 5, 2) := by decide +kernel
theorem dLAW_law_550 : decode cLAW_law 550 = .ok (.ifCond .ne 15, 3) := by decide +kernel
theorem dLAW_law_553 : decode cLAW_law 553 = .ok (.aload_n 3, 1) := by decide +kernel
theorem dLAW_law_554 : decode cLAW_law 554 = .ok (.iconst 0, 1) := by decide +kernel
theorem dLAW_law_555 : decode cLAW_law 555 = .ok (.laload, 1) := by decide +kernel
theorem dLAW_law_556 : decode cLAW_law 556 = .ok (.iload 6, 2) := by decide +kernel
theorem dLAW_law_558 : decode cLAW_law 558 = .ok (.i2l, 1) := by decide +kernel
theorem dLAW_law_559 : decode cLAW_law 559 = .ok (.lcmp, 1) := by decide +kernel
theorem dLAW_law_560 : decode cLAW_law 560 = .ok (.ifCond .eq 5, 3) := by decide +kernel
theorem dLAW_law_563 : decode cLAW_law 563 = .ok (.iconst 0, 1) := by decide +kernel
theorem dLAW_law_564 : decode cLAW_law 564 = .ok (.ireturn, 1) := by decide +kernel
theorem dLAW_law_565 : decode cLAW_law 565 = .ok (.goto 226, 3) := by decide +kernel
theorem dLAW_law_568 : decode cLAW_law 568 = .ok (.aload_n 1, 1) := by decide +kernel
theorem dLAW_law_569 : decode cLAW_law 569 = .ok (.aload_n 3, 1) := by decide +kernel
theorem dLAW_law_570 : decode cLAW_law 570 = .ok (.invokestatic 98, 3) := by decide +kernel
theorem dLAW_law_573 : decode cLAW_law 573 = .ok (.istore 5, 2) := by decide +kernel
theorem dLAW_law_575 : decode cLAW_law 575 = .ok (.aload_n 2, 1) := by decide +kernel
theorem dLAW_law_576 : decode cLAW_law 576 = .ok (.invokevirtual 100, 3) := by decide +kernel
theorem dLAW_law_579 : decode cLAW_law 579 = .ok (.istore 6, 2) := by decide +kernel
theorem dLAW_law_581 : decode cLAW_law 581 = .ok (.aload_n 2, 1) := by decide +kernel
theorem dLAW_law_582 : decode cLAW_law 582 = .ok (.invokevirtual 68, 3) := by decide +kernel
theorem dLAW_law_585 : decode cLAW_law 585 = .ok (.iload 5, 2) := by decide +kernel
theorem dLAW_law_587 : decode cLAW_law 587 = .ok (.if_icmp .eq 5, 3) := by decide +kernel
theorem dLAW_law_590 : decode cLAW_law 590 = .ok (.iconst 0, 1) := by decide +kernel
theorem dLAW_law_591 : decode cLAW_law 591 = .ok (.ireturn, 1) := by decide +kernel
theorem dLAW_law_592 : decode cLAW_law 592 = .ok (.iload 5, 2) := by decide +kernel
theorem dLAW_law_594 : decode cLAW_law 594 = .ok (.ifCond .ne 15, 3) := by decide +kernel
theorem dLAW_law_597 : decode cLAW_law 597 = .ok (.aload_n 3, 1) := by decide +kernel
theorem dLAW_law_598 : decode cLAW_law 598 = .ok (.iconst 0, 1) := by decide +kernel
theorem dLAW_law_599 : decode cLAW_law 599 = .ok (.laload, 1) := by decide +kernel
theorem dLAW_law_600 : decode cLAW_law 600 = .ok (.iload 6, 2) := by decide +kernel
theorem dLAW_law_602 : decode cLAW_law 602 = .ok (.i2l, 1) := by decide +kernel
theorem dLAW_law_603 : decode cLAW_law 603 = .ok (.lcmp, 1) := by decide +kernel
theorem dLAW_law_604 : decode cLAW_law 604 = .ok (.ifCond .eq 5, 3) := by decide +kernel
theorem dLAW_law_607 : decode cLAW_law 607 = .ok (.iconst 0, 1) := by decide +kernel
theorem dLAW_law_608 : decode cLAW_law 608 = .ok (.ireturn, 1) := by decide +kernel
theorem dLAW_law_609 : decode cLAW_law 609 = .ok (.goto 182, 3) := by decide +kernel
theorem dLAW_law_612 : decode cLAW_law 612 = .ok (.aload_n 1, 1) := by decide +kernel
theorem dLAW_law_613 : decode cLAW_law 613 = .ok (.aload_n 0, 1) := by decide +kernel
theorem dLAW_law_614 : decode cLAW_law 614 = .ok (.iload 4, 2) := by decide +kernel
theorem dLAW_law_616 : decode cLAW_law 616 = .ok (.iconst 1, 1) := by decide +kernel
theorem dLAW_law_617 : decode cLAW_law 617 = .ok (.iadd, 1) := by decide +kernel
theorem dLAW_law_618 : decode cLAW_law 618 = .ok (.iaload, 1) := by decide +kernel
theorem dLAW_law_619 : decode cLAW_law 619 = .ok (.aload_n 0, 1) := by decide +kernel
theorem dLAW_law_620 : decode cLAW_law 620 = .ok (.iload 4, 2) := by decide +kernel
theorem dLAW_law_622 : decode cLAW_law 622 = .ok (.iconst 2, 1) := by decide +kernel
theorem dLAW_law_623 : decode cLAW_law 623 = .ok (.iadd, 1) := by decide +kernel
theorem dLAW_law_624 : decode cLAW_law 624 = .ok (.iaload, 1) := by decide +kernel
theorem dLAW_law_625 : decode cLAW_law 625 = .ok (.aload_n 3, 1) := by decide +kernel
theorem dLAW_law_626 : decode cLAW_law 626 = .ok (.invokestatic 101, 3) := by decide +kernel
theorem dLAW_law_629 : decode cLAW_law 629 = .ok (.istore 5, 2) := by decide +kernel
theorem dLAW_law_631 : decode cLAW_law 631 = .ok (.aload_n 2, 1) := by decide +kernel
theorem dLAW_law_632 : decode cLAW_law 632 = .ok (.aload_n 0, 1) := by decide +kernel
theorem dLAW_law_633 : decode cLAW_law 633 = .ok (.iload 4, 2) := by decide +kernel
theorem dLAW_law_635 : decode cLAW_law 635 = .ok (.iconst 1, 1) := by decide +kernel
theorem dLAW_law_636 : decode cLAW_law 636 = .ok (.iadd, 1) := by decide +kernel
theorem dLAW_law_637 : decode cLAW_law 637 = .ok (.iaload, 1) := by decide +kernel
theorem dLAW_law_638 : decode cLAW_law 638 = .ok (.aload_n 0, 1) := by decide +kernel
theorem dLAW_law_639 : decode cLAW_law 639 = .ok (.iload 4, 2) := by decide +kernel
theorem dLAW_law_641 : decode cLAW_law 641 = .ok (.iconst 2, 1) := by decide +kernel
theorem dLAW_law_642 : decode cLAW_law 642 = .ok (.iadd, 1) := by decide +kernel
theorem dLAW_law_643 : decode cLAW_law 643 = .ok (.iaload, 1) := by decide +kernel
theorem dLAW_law_644 : decode cLAW_law 644 = .ok (.invokevirtual 104, 3) := by decide +kernel
theorem dLAW_law_647 : decode cLAW_law 647 = .ok (.istore 6, 2) := by decide +kernel
theorem dLAW_law_649 : decode cLAW_law 649 = .ok (.aload_n 2, 1) := by decide +kernel
theorem dLAW_law_650 : decode cLAW_law 650 = .ok (.invokevirtual 68, 3) := by decide +kernel
theorem dLAW_law_653 : decode cLAW_law 653 = .ok (.iload 5, 2) := by decide +kernel
theorem dLAW_law_655 : decode cLAW_law 655 = .ok (.if_icmp .eq 5, 3) := by decide +kernel
theorem dLAW_law_658 : decode cLAW_law 658 = .ok (.iconst 0, 1) := by decide +kernel
theorem dLAW_law_659 : decode cLAW_law 659 = .ok (.ireturn, 1) := by decide +kernel
theorem dLAW_law_660 : decode cLAW_law 660 = .ok (.iload 5, 2) := by decide +kernel
theorem dLAW_law_662 : decode cLAW_law 662 = .ok (.ifCond .ne 15, 3) := by decide +kernel
theorem dLAW_law_665 : decode cLAW_law 665 = .ok (.aload_n 3, 1) := by decide +kernel
theorem dLAW_law_666 : decode cLAW_law 666 = .ok (.iconst 0, 1) := by decide +kernel
theorem dLAW_law_667 : decode cLAW_law 667 = .ok (.laload, 1) := by decide +kernel
theorem dLAW_law_668 : decode cLAW_law 668 = .ok (.iload 6, 2) := by decide +kernel
theorem dLAW_law_670 : decode cLAW_law 670 = .ok (.i2l, 1) := by decide +kernel
theorem dLAW_law_671 : decode cLAW_law 671 = .ok (.lcmp, 1) := by decide +kernel
theorem dLAW_law_672 : decode cLAW_law 672 = .ok (.ifCond .eq 5, 3) := by decide +kernel
theorem dLAW_law_675 : decode cLAW_law 675 = .ok (.iconst 0, 1) := by decide +kernel
theorem dLAW_law_676 : decode cLAW_law 676 = .ok (.ireturn, 1) := by decide +kernel
theorem dLAW_law_677 : decode cLAW_law 677 = .ok (.goto 114, 3) := by decide +kernel
theorem dLAW_law_680 : decode cLAW_law 680 = .ok (.aload_n 1, 1) := by decide +kernel
theorem dLAW_law_681 : decode cLAW_law 681 = .ok (.aload_n 0, 1) := by decide +kernel
theorem dLAW_law_682 : decode cLAW_law 682 = .ok (.iload 4, 2) := by decide +kernel
theorem dLAW_law_684 : decode cLAW_law 684 = .ok (.iconst 1, 1) := by decide +kernel
theorem dLAW_law_685 : decode cLAW_law 685 = .ok (.iadd, 1) := by decide +kernel
theorem dLAW_law_686 : decode cLAW_law 686 = .ok (.iaload, 1) := by decide +kernel
theorem dLAW_law_687 : decode cLAW_law 687 = .ok (.invokevirtual 105, 3) := by decide +kernel
theorem dLAW_law_690 : decode cLAW_law 690 = .ok (.aload_n 2, 1) := by decide +kernel
theorem dLAW_law_691 : decode cLAW_law 691 = .ok (.aload_n 0, 1) := by decide +kernel
theorem dLAW_law_692 : decode cLAW_law 692 = .ok (.iload 4, 2) := by decide +kernel
theorem dLAW_law_694 : decode cLAW_law 694 = .ok (.iconst 1, 1) := by decide +kernel
theorem dLAW_law_695 : decode cLAW_law 695 = .ok (.iadd, 1) := by decide +kernel
theorem dLAW_law_696 : decode cLAW_law 696 = .ok (.iaload, 1) := by decide +kernel
theorem dLAW_law_697 : decode cLAW_law 697 = .ok (.invokevirtual 108, 3) := by decide +kernel
theorem dLAW_law_700 : decode cLAW_law 700 = .ok (.if_icmp .eq 91, 3) := by decide +kernel
theorem dLAW_law_703 : decode cLAW_law 703 = .ok (.iconst 0, 1) := by decide +kernel
theorem dLAW_law_704 : decode cLAW_law 704 = .ok (.ireturn, 1) := by decide +kernel
theorem dLAW_law_705 : decode cLAW_law 705 = .ok (.aload_n 1, 1) := by decide +kernel
theorem dLAW_law_706 : decode cLAW_law 706 = .ok (.invokevirtual 109, 3) := by decide +kernel
theorem dLAW_law_709 : decode cLAW_law 709 = .ok (.aload_n 2, 1) := by decide +kernel
theorem dLAW_law_710 : decode cLAW_law 710 = .ok (.invokevirtual 112, 3) := by decide +kernel
theorem dLAW_law_713 : decode cLAW_law 713 = .ok (.goto 78, 3) := by decide +kernel
theorem dLAW_law_716 : decode cLAW_law 716 = .ok (.aload_n 1, 1) := by decide +kernel
theorem dLAW_law_717 : decode cLAW_law 717 = .ok (.aload_n 0, 1) := by decide +kernel
theorem dLAW_law_718 : decode cLAW_law 718 = .ok (.iload 4, 2) := by decide +kernel
theorem dLAW_law_720 : decode cLAW_law 720 = .ok (.iconst 1, 1) := by decide +kernel
theorem dLAW_law_721 : decode cLAW_law 721 = .ok (.iadd, 1) := by decide +kernel
theorem dLAW_law_722 : decode cLAW_law 722 = .ok (.iaload, 1) := by decide +kernel
theorem dLAW_law_723 : decode cLAW_law 723 = .ok (.aload_n 0, 1) := by decide +kernel
theorem dLAW_law_724 : decode cLAW_law 724 = .ok (.iload 4, 2) := by decide +kernel
theorem dLAW_law_726 : decode cLAW_law 726 = .ok (.iconst 2, 1) := by decide +kernel
theorem dLAW_law_727 : decode cLAW_law 727 = .ok (.iadd, 1) := by decide +kernel
theorem dLAW_law_728 : decode cLAW_law 728 = .ok (.iaload, 1) := by decide +kernel
theorem dLAW_law_729 : decode cLAW_law 729 = .ok (.aload_n 3, 1) := by decide +kernel
theorem dLAW_law_730 : decode cLAW_law 730 = .ok (.invokestatic 113, 3) := by decide +kernel
theorem dLAW_law_733 : decode cLAW_law 733 = .ok (.istore 5, 2) := by decide +kernel
theorem dLAW_law_735 : decode cLAW_law 735 = .ok (.aload_n 2, 1) := by decide +kernel
theorem dLAW_law_736 : decode cLAW_law 736 = .ok (.aload_n 0, 1) := by decide +kernel
theorem dLAW_law_737 : decode cLAW_law 737 = .ok (.iload 4, 2) := by decide +kernel
theorem dLAW_law_739 : decode cLAW_law 739 = .ok (.iconst 1, 1) := by decide +kernel
theorem dLAW_law_740 : decode cLAW_law 740 = .ok (.iadd, 1) := by decide +kernel
theorem dLAW_law_741 : decode cLAW_law 741 = .ok (.iaload, 1) := by decide +kernel
theorem dLAW_law_742 : decode cLAW_law 742 = .ok (.aload_n 0, 1) := by decide +kernel
theorem dLAW_law_743 : decode cLAW_law 743 = .ok (.iload 4, 2) := by decide +kernel
theorem dLAW_law_745 : decode cLAW_law 745 = .ok (.iconst 2, 1) := by decide +kernel
theorem dLAW_law_746 : decode cLAW_law 746 = .ok (.iadd, 1) := by decide +kernel
theorem dLAW_law_747 : decode cLAW_law 747 = .ok (.iaload, 1) := by decide +kernel
theorem dLAW_law_748 : decode cLAW_law 748 = .ok (.invokevirtual 115, 3) := by decide +kernel
theorem dLAW_law_751 : decode cLAW_law 751 = .ok (.istore 6, 2) := by decide +kernel
theorem dLAW_law_753 : decode cLAW_law 753 = .ok (.aload_n 2, 1) := by decide +kernel
theorem dLAW_law_754 : decode cLAW_law 754 = .ok (.invokevirtual 68, 3) := by decide +kernel
theorem dLAW_law_757 : decode cLAW_law 757 = .ok (.iload 5, 2) := by decide +kernel
theorem dLAW_law_759 : decode cLAW_law 759 = .ok (.if_icmp .eq 5, 3) := by decide +kernel
theorem dLAW_law_762 : decode cLAW_law 762 = .ok (.iconst 0, 1) := by decide +kernel
theorem dLAW_law_763 : decode cLAW_law 763 = .ok (.ireturn, 1) := by decide +kernel
theorem dLAW_law_764 : decode cLAW_law 764 = .ok (.iload 5, 2) := by decide +kernel
theorem dLAW_law_766 : decode cLAW_law 766 = .ok (.ifCond .ne 22, 3) := by decide +kernel
theorem dLAW_law_769 : decode cLAW_law 769 = .ok (.aload_n 3, 1) := by decide +kernel
theorem dLAW_law_770 : decode cLAW_law 770 = .ok (.iconst 0, 1) := by decide +kernel
theorem dLAW_law_771 : decode cLAW_law 771 = .ok (.laload, 1) := by decide +kernel
theorem dLAW_law_772 : decode cLAW_law 772 = .ok (.iload 6, 2) := by decide +kernel
theorem dLAW_law_774 : decode cLAW_law 774 = .ok (.ifCond .eq 7, 3) := by decide +kernel
theorem dLAW_law_777 : decode cLAW_law 777 = .ok (.lconst 1, 1) := by decide +kernel
theorem dLAW_law_778 : decode cLAW_law 778 = .ok (.goto 4, 3) := by decide +kernel
theorem dLAW_law_781 : decode cLAW_law 781 = .ok (.lconst 0, 1) := by decide +kernel
theorem dLAW_law_782 : decode cLAW_law 782 = .ok (.lcmp, 1) := by decide +kernel
theorem dLAW_law_783 : decode cLAW_law 783 = .ok (.ifCond .eq 5, 3) := by decide +kernel
theorem dLAW_law_786 : decode cLAW_law 786 = .ok (.iconst 0, 1) := by decide +kernel
theorem dLAW_law_787 : decode cLAW_law 787 = .ok (.ireturn, 1) := by decide +kernel
theorem dLAW_law_788 : decode cLAW_law 788 = .ok (.goto 3, 3) := by decide +kernel
theorem dLAW_law_791 : decode cLAW_law 791 = .ok (.iinc 4 4, 3) := by decide +kernel
theorem dLAW_law_794 : decode cLAW_law 794 = .ok (.goto (-771), 3) := by decide +kernel
theorem dLAW_law_797 : decode cLAW_law 797 = .ok (.iconst 1, 1) := by decide +kernel
theorem dLAW_law_798 : decode cLAW_law 798 = .ok (.ireturn, 1) := by decide +kernel
end
section
theorem dPC_init_0 : decode cPC_init 0 = .ok (.aload_n 0, 1) := by decide +kernel
theorem dPC_init_1 : decode cPC_init 1 = .ok (.invokespecial 3, 3) := by decide +kernel
theorem dPC_init_4 : decode cPC_init 4 = .ok (.aload_n 0, 1) := by decide +kernel
theorem dPC_init_5 : decode cPC_init 5 = .ok (.bipush 32, 2) := by decide +kernel
theorem dPC_init_7 : decode cPC_init 7 = .ok (.newarray .char, 2) := by decide +kernel
theorem dPC_init_9 : decode cPC_init 9 = .ok (.putfield 9, 3) := by decide +kernel
theorem dPC_init_12 : decode cPC_init 12 = .ok (.aload_n 0, 1) := by decide +kernel
theorem dPC_init_13 : decode cPC_init 13 = .ok (.new 13, 3) := by decide +kernel
theorem dPC_init_16 : decode cPC_init 16 = .ok (.dup, 1) := by decide +kernel
theorem dPC_init_17 : decode cPC_init 17 = .ok (.invokespecial 15, 3) := by decide +kernel
theorem dPC_init_20 : decode cPC_init 20 = .ok (.putfield 16, 3) := by decide +kernel
theorem dPC_init_23 : decode cPC_init 23 = .ok (.aload_n 0, 1) := by decide +kernel
theorem dPC_init_24 : decode cPC_init 24 = .ok (.new 20, 3) := by decide +kernel
theorem dPC_init_27 : decode cPC_init 27 = .ok (.dup, 1) := by decide +kernel
theorem dPC_init_28 : decode cPC_init 28 = .ok (.bipush 8, 2) := by decide +kernel
theorem dPC_init_30 : decode cPC_init 30 = .ok (.invokespecial 22, 3) := by decide +kernel
theorem dPC_init_33 : decode cPC_init 33 = .ok (.putfield 25, 3) := by decide +kernel
theorem dPC_init_36 : decode cPC_init 36 = .ok (.aload_n 0, 1) := by decide +kernel
theorem dPC_init_37 : decode cPC_init 37 = .ok (.new 29, 3) := by decide +kernel
theorem dPC_init_40 : decode cPC_init 40 = .ok (.dup, 1) := by decide +kernel
theorem dPC_init_41 : decode cPC_init 41 = .ok (.invokespecial 31, 3) := by decide +kernel
theorem dPC_init_44 : decode cPC_init 44 = .ok (.putfield 32, 3) := by decide +kernel
theorem dPC_init_47 : decode cPC_init 47 = .ok (.aload_n 0, 1) := by decide +kernel
theorem dPC_init_48 : decode cPC_init 48 = .ok (.aload_n 0, 1) := by decide +kernel
theorem dPC_init_49 : decode cPC_init 49 = .ok (.getfield 32, 3) := by decide +kernel
theorem dPC_init_52 : decode cPC_init 52 = .ok (.getfield 36, 3) := by decide +kernel
theorem dPC_init_55 : decode cPC_init 55 = .ok (.putfield 40, 3) := by decide +kernel
theorem dPC_init_58 : decode cPC_init 58 = .ok (.aload_n 0, 1) := by decide +kernel
theorem dPC_init_59 : decode cPC_init 59 = .ok (.aload_n 0, 1) := by decide +kernel
theorem dPC_init_60 : decode cPC_init 60 = .ok (.getfield 40, 3) := by decide +kernel
theorem dPC_init_63 : decode cPC_init 63 = .ok (.getfield 41, 3) := by decide +kernel
theorem dPC_init_66 : decode cPC_init 66 = .ok (.putfield 47, 3) := by decide +kernel
theorem dPC_init_69 : decode cPC_init 69 = .ok (.aload_n 0, 1) := by decide +kernel
theorem dPC_init_70 : decode cPC_init 70 = .ok (.aload_n 0, 1) := by decide +kernel
theorem dPC_init_71 : decode cPC_init 71 = .ok (.getfield 47, 3) := by decide +kernel
theorem dPC_init_74 : decode cPC_init 74 = .ok (.getfield 48, 3) := by decide +kernel
theorem dPC_init_77 : decode cPC_init 77 = .ok (.putfield 54, 3) := by decide +kernel
theorem dPC_init_80 : decode cPC_init 80 = .ok (.aload_n 0, 1) := by decide +kernel
theorem dPC_init_81 : decode cPC_init 81 = .ok (.aload_n 0, 1) := by decide +kernel
theorem dPC_init_82 : decode cPC_init 82 = .ok (.getfield 54, 3) := by decide +kernel
theorem dPC_init_85 : decode cPC_init 85 = .ok (.getfield 55, 3) := by decide +kernel
theorem dPC_init_88 : decode cPC_init 88 = .ok (.putfield 61, 3) := by decide +kernel
theorem dPC_init_91 : decode cPC_init 91 = .ok (.aload_n 0, 1) := by decide +kernel
theorem dPC_init_92 : decode cPC_init 92 = .ok (.aload_n 0, 1) := by decide +kernel
theorem dPC_init_93 : decode cPC_init 93 = .ok (.getfield 54, 3) := by decide +kernel
theorem dPC_init_96 : decode cPC_init 96 = .ok (.getfield 62, 3) := by decide +kernel
theorem dPC_init_99 : decode cPC_init 99 = .ok (.putfield 66, 3) := by decide +kernel
theorem dPC_init_102 : decode cPC_init 102 = .ok (.return_, 1) := by decide +kernel
theorem dPC_type_0 : decode cPC_type 0 = .ok (.aload_n 0, 1) := by decide +kernel
theorem dPC_type_1 : decode cPC_type 1 = .ok (.getfield 67, 3) := by decide +kernel
theorem dPC_type_4 : decode cPC_type 4 = .ok (.istore_n 3, 1) := by decide +kernel
theorem dPC_type_5 : decode cPC_type 5 = .ok (.bipush 56, 2) := by decide +kernel
theorem dPC_type_7 : decode cPC_type 7 = .ok (.istore 4, 2) := by decide +kernel
theorem dPC_type_9 : decode cPC_type 9 = .ok (.iload 4, 2) := by decide +kernel
theorem dPC_type_11 : decode cPC_type 11 = .ok (.ifCond .lt 62, 3) := by decide +kernel
theorem dPC_type_14 : decode cPC_type 14 = .ok (.lload_n 1, 1) := by decide +kernel
theorem dPC_type_15 : decode cPC_type 15 = .ok (.iload 4, 2) := by decide +kernel
theorem dPC_type_17 : decode cPC_type 17 = .ok (.lushr, 1) := by decide +kernel
theorem dPC_type_18 : decode cPC_type 18 = .ok (.l2i, 1) := by decide +kernel
theorem dPC_type_19 : decode cPC_type 19 = .ok (.sipush 255, 3) := by decide +kernel
theorem dPC_type_22 : decode cPC_type 22 = .ok (.iand, 1) := by decide +kernel
theorem dPC_type_23 : decode cPC_type 23 = .ok (.istore 5, 2) := by decide +kernel
theorem dPC_type_25 : decode cPC_type 25 = .ok (.iload 5, 2) := by decide +kernel
theorem dPC_type_27 : decode cPC_type 27 = .ok (.ifCond .ne 6, 3) := by decide +kernel
theorem dPC_type_30 : decode cPC_type 30 = .ok (.goto 37, 3) := by decide +kernel
theorem dPC_type_33 : decode cPC_type 33 = .ok (.iload 5, 2) := by decide +kernel
theorem dPC_type_35 : decode cPC_type 35 = .ok (.bipush 33, 2) := by decide +kernel
theorem dPC_type_37 : decode cPC_type 37 = .ok (.if_icmp .lt 16, 3) := by decide +kernel
theorem dPC_type_40 : decode cPC_type 40 = .ok (.iload 5, 2) := by decide +kernel
theorem dPC_type_42 : decode cPC_type 42 = .ok (.bipush 126, 2) := by decide +kernel
theorem dPC_type_44 : decode cPC_type 44 = .ok (.if_icmp .gt 9, 3) := by decide +kernel
theorem dPC_type_47 : decode cPC_type 47 = .ok (.iload_n 3, 1) := by decide +kernel
theorem dPC_type_48 : decode cPC_type 48 = .ok (.bipush 32, 2) := by decide +kernel
theorem dPC_type_50 : decode cPC_type 50 = .ok (.if_icmp .lt 5, 3) := by decide +kernel
theorem dPC_type_53 : decode cPC_type 53 = .ok (.iconst 0, 1) := by decide +kernel
theorem dPC_type_54 : decode cPC_type 54 = .ok (.ireturn, 1) := by decide +kernel
theorem dPC_type_55 : decode cPC_type 55 = .ok (.aload_n 0, 1) := by decide +kernel
theorem dPC_type_56 : decode cPC_type 56 = .ok (.getfield 9, 3) := by decide +kernel
theorem dPC_type_59 : decode cPC_type 59 = .ok (.iload_n 3, 1) := by decide +kernel
theorem dPC_type_60 : decode cPC_type 60 = .ok (.iload 5, 2) := by decide +kernel
theorem dPC_type_62 : decode cPC_type 62 = .ok (.i2c, 1) := by decide +kernel
theorem dPC_type_63 : decode cPC_type 63 = .ok (.castore, 1) := by decide +kernel
theorem dPC_type_64 : decode cPC_type 64 = .ok (.iinc 3 1, 3) := by decide +kernel
theorem dPC_type_67 : decode cPC_type 67 = .ok (.iinc 4 (-8), 3) := by decide +kernel
theorem dPC_type_70 : decode cPC_type 70 = .ok (.goto (-61), 3) := by decide +kernel
theorem dPC_type_73 : decode cPC_type 73 = .ok (.aload_n 0, 1) := by decide +kernel
theorem dPC_type_74 : decode cPC_type 74 = .ok (.iload_n 3, 1) := by decide +kernel
theorem dPC_type_75 : decode cPC_type 75 = .ok (.putfield 67, 3) := by decide +kernel
theorem dPC_type_78 : decode cPC_type 78 = .ok (.iconst 1, 1) := by decide +kernel
theorem dPC_type_79 : decode cPC_type 79 = .ok (.ireturn, 1) := by decide +kernel
theorem dPC_wipe_0 : decode cPC_wipe 0 = .ok (.aload_n 0, 1) := by decide +kernel
theorem dPC_wipe_1 : decode cPC_wipe 1 = .ok (.iconst 0, 1) := by decide +kernel
theorem dPC_wipe_2 : decode cPC_wipe 2 = .ok (.putfield 67, 3) := by decide +kernel
theorem dPC_wipe_5 : decode cPC_wipe 5 = .ok (.return_, 1) := by decide +kernel
theorem dPC_length_0 : decode cPC_length 0 = .ok (.aload_n 0, 1) := by decide +kernel
theorem dPC_length_1 : decode cPC_length 1 = .ok (.getfield 67, 3) := by decide +kernel
theorem dPC_length_4 : decode cPC_length 4 = .ok (.ireturn, 1) := by decide +kernel
theorem dPC_formula_0 : decode cPC_formula 0 = .ok (.aload_n 0, 1) := by decide +kernel
theorem dPC_formula_1 : decode cPC_formula 1 = .ok (.getfield 16, 3) := by decide +kernel
theorem dPC_formula_4 : decode cPC_formula 4 = .ok (.aload_n 0, 1) := by decide +kernel
theorem dPC_formula_5 : decode cPC_formula 5 = .ok (.getfield 9, 3) := by decide +kernel
theorem dPC_formula_8 : decode cPC_formula 8 = .ok (.aload_n 0, 1) := by decide +kernel
theorem dPC_formula_9 : decode cPC_formula 9 = .ok (.getfield 67, 3) := by decide +kernel
theorem dPC_formula_12 : decode cPC_formula 12 = .ok (.invokevirtual 71, 3) := by decide +kernel
theorem dPC_formula_15 : decode cPC_formula 15 = .ok (.ifCond .ne 11, 3) := by decide +kernel
theorem dPC_formula_18 : decode cPC_formula 18 = .ok (.new 75, 3) := by decide +kernel
theorem dPC_formula_21 : decode cPC_formula 21 = .ok (.dup, 1) := by decide +kernel
theorem dPC_formula_22 : decode cPC_formula 22 = .ok (.invokespecial 77, 3) := by decide +kernel
theorem dPC_formula_25 : decode cPC_formula 25 = .ok (.athrow, 1) := by decide +kernel
theorem dPC_formula_26 : decode cPC_formula 26 = .ok (.aload_n 0, 1) := by decide +kernel
theorem dPC_formula_27 : decode cPC_formula 27 = .ok (.getfield 16, 3) := by decide +kernel
theorem dPC_formula_30 : decode cPC_formula 30 = .ok (.getfield 78, 3) := by decide +kernel
theorem dPC_formula_33 : decode cPC_formula 33 = .ok (.iconst 5, 1) := by decide +kernel
theorem dPC_formula_34 : decode cPC_formula 34 = .ok (.if_icmp .le 11, 3) := by decide +kernel
theorem dPC_formula_37 : decode cPC_formula 37 = .ok (.new 81, 3) := by decide +kernel
theorem dPC_formula_40 : decode cPC_formula 40 = .ok (.dup, 1) := by decide +kernel
theorem dPC_formula_41 : decode cPC_formula 41 = .ok (.invokespecial 83, 3) := by decide +kernel
theorem dPC_formula_44 : decode cPC_formula 44 = .ok (.athrow, 1) := by decide +kernel
theorem dPC_formula_45 : decode cPC_formula 45 = .ok (.aload_n 0, 1) := by decide +kernel
theorem dPC_formula_46 : decode cPC_formula 46 = .ok (.getfield 61, 3) := by decide +kernel
theorem dPC_formula_49 : decode cPC_formula 49 = .ok (.aload_n 0, 1) := by decide +kernel
theorem dPC_formula_50 : decode cPC_formula 50 = .ok (.getfield 16, 3) := by decide +kernel
theorem dPC_formula_53 : decode cPC_formula 53 = .ok (.invokevirtual 84, 3) := by decide +kernel
theorem dPC_formula_56 : decode cPC_formula 56 = .ok (.aload_n 0, 1) := by decide +kernel
theorem dPC_formula_57 : decode cPC_formula 57 = .ok (.iconst 0, 1) := by decide +kernel
theorem dPC_formula_58 : decode cPC_formula 58 = .ok (.putfield 67, 3) := by decide +kernel
theorem dPC_formula_61 : decode cPC_formula 61 = .ok (.aload_n 0, 1) := by decide +kernel
theorem dPC_formula_62 : decode cPC_formula 62 = .ok (.iconst 0, 1) := by decide +kernel
theorem dPC_formula_63 : decode cPC_formula 63 = .ok (.putfield 90, 3) := by decide +kernel
theorem dPC_formula_66 : decode cPC_formula 66 = .ok (.aload_n 0, 1) := by decide +kernel
theorem dPC_formula_67 : decode cPC_formula 67 = .ok (.getfield 61, 3) := by decide +kernel
theorem dPC_formula_70 : decode cPC_formula 70 = .ok (.getfield 94, 3) := by decide +kernel
theorem dPC_formula_73 : decode cPC_formula 73 = .ok (.ireturn, 1) := by decide +kernel
theorem dPC_normal_0 : decode cPC_normal 0 = .ok (.aload_n 0, 1) := by decide +kernel
theorem dPC_normal_1 : decode cPC_normal 1 = .ok (.getfield 61, 3) := by decide +kernel
theorem dPC_normal_4 : decode cPC_normal 4 = .ok (.invokevirtual 95, 3) := by decide +kernel
theorem dPC_normal_7 : decode cPC_normal 7 = .ok (.ifCond .eq 11, 3) := by decide +kernel
theorem dPC_normal_10 : decode cPC_normal 10 = .ok (.new 99, 3) := by decide +kernel
theorem dPC_normal_13 : decode cPC_normal 13 = .ok (.dup, 1) := by decide +kernel
theorem dPC_normal_14 : decode cPC_normal 14 = .ok (.invokespecial 101, 3) := by decide +kernel
theorem dPC_normal_17 : decode cPC_normal 17 = .ok (.athrow, 1) := by decide +kernel
theorem dPC_normal_18 : decode cPC_normal 18 = .ok (.iload_n 1, 1) := by decide +kernel
theorem dPC_normal_19 : decode cPC_normal 19 = .ok (.iconst (-1), 1) := by decide +kernel
theorem dPC_normal_20 : decode cPC_normal 20 = .ok (.if_icmp .ne 11, 3) := by decide +kernel
theorem dPC_normal_23 : decode cPC_normal 23 = .ok (.aload_n 0, 1) := by decide +kernel
theorem dPC_normal_24 : decode cPC_normal 24 = .ok (.getfield 61, 3) := by decide +kernel
theorem dPC_normal_27 : decode cPC_normal 27 = .ok (.getfield 102, 3) := by decide +kernel
theorem dPC_normal_30 : decode cPC_normal 30 = .ok (.ireturn, 1) := by decide +kernel
theorem dPC_normal_31 : decode cPC_normal 31 = .ok (.iload_n 1, 1) := by decide +kernel
theorem dPC_normal_32 : decode cPC_normal 32 = .ok (.ifCond .lt 26, 3) := by decide +kernel
theorem dPC_normal_35 : decode cPC_normal 35 = .ok (.iload_n 1, 1) := by decide +kernel
theorem dPC_normal_36 : decode cPC_normal 36 = .ok (.aload_n 0, 1) := by decide +kernel
theorem dPC_normal_37 : decode cPC_normal 37 = .ok (.getfield 61, 3) := by decide +kernel
theorem dPC_normal_40 : decode cPC_normal 40 = .ok (.getfield 102, 3) := by decide +kernel
theorem dPC_normal_43 : decode cPC_normal 43 = .ok (.if_icmp .ge 15, 3) := by decide +kernel
theorem dPC_normal_46 : decode cPC_normal 46 = .ok (.aload_n 0, 1) := by decide +kernel
theorem dPC_normal_47 : decode cPC_normal 47 = .ok (.getfield 61, 3) := by decide +kernel
theorem dPC_normal_50 : decode cPC_normal 50 = .ok (.getfield 105, 3) := by decide +kernel
theorem dPC_normal_53 : decode cPC_normal 53 = .ok (.iload_n 1, 1) := by decide +kernel
theorem dPC_normal_54 : decode cPC_normal 54 = .ok (.caload, 1) := by decide +kernel
theorem dPC_normal_55 : decode cPC_normal 55 = .ok (.goto 4, 3) := by decide +kernel
theorem dPC_normal_58 : decode cPC_normal 58 = .ok (.iconst (-1), 1) := by decide +kernel
theorem dPC_normal_59 : decode cPC_normal 59 = .ok (.ireturn, 1) := by decide +kernel
theorem dPC_mark_0 : decode cPC_mark 0 = .ok (.iload_n 1, 1) := by decide +kernel
theorem dPC_mark_1 : decode cPC_mark 1 = .ok (.invokestatic 108, 3) := by decide +kernel
theorem dPC_mark_4 : decode cPC_mark 4 = .ok (.ifCond .eq 13, 3) := by decide +kernel
theorem dPC_mark_7 : decode cPC_mark 7 = .ok (.iload_n 2, 1) := by decide +kernel
theorem dPC_mark_8 : decode cPC_mark 8 = .ok (.ifCond .lt 9, 3) := by decide +kernel
theorem dPC_mark_11 : decode cPC_mark 11 = .ok (.iload_n 2, 1) := by decide +kernel
theorem dPC_mark_12 : decode cPC_mark 12 = .ok (.bipush 15, 2) := by decide +kernel
theorem dPC_mark_14 : decode cPC_mark 14 = .ok (.if_icmp .le 5, 3) := by decide +kernel
theorem dPC_mark_17 : decode cPC_mark 17 = .ok (.iconst 0, 1) := by decide +kernel
theorem dPC_mark_18 : decode cPC_mark 18 = .ok (.ireturn, 1) := by decide +kernel
theorem dPC_mark_19 : decode cPC_mark 19 = .ok (.aload_n 0, 1) := by decide +kernel
theorem dPC_mark_20 : decode cPC_mark 20 = .ok (.getfield 66, 3) := by decide +kernel
theorem dPC_mark_23 : decode cPC_mark 23 = .ok (.getfield 112, 3) := by decide +kernel
theorem dPC_mark_26 : decode cPC_mark 26 = .ok (.iload_n 1, 1) := by decide +kernel
theorem dPC_mark_27 : decode cPC_mark 27 = .ok (.iload_n 2, 1) := by decide +kernel
theorem dPC_mark_28 : decode cPC_mark 28 = .ok (.iastore, 1) := by decide +kernel
theorem dPC_mark_29 : decode cPC_mark 29 = .ok (.aload_n 0, 1) := by decide +kernel
theorem dPC_mark_30 : decode cPC_mark 30 = .ok (.iconst 0, 1) := by decide +kernel
theorem dPC_mark_31 : decode cPC_mark 31 = .ok (.putfield 90, 3) := by decide +kernel
theorem dPC_mark_34 : decode cPC_mark 34 = .ok (.iconst 1, 1) := by decide +kernel
theorem dPC_mark_35 : decode cPC_mark 35 = .ok (.ireturn, 1) := by decide +kernel
theorem dPC_link_0 : decode cPC_link 0 = .ok (.iload_n 1, 1) := by decide +kernel
theorem dPC_link_1 : decode cPC_link 1 = .ok (.invokestatic 108, 3) := by decide +kernel
theorem dPC_link_4 : decode cPC_link 4 = .ok (.ifCond .eq 23, 3) := by decide +kernel
theorem dPC_link_7 : decode cPC_link 7 = .ok (.iload_n 2, 1) := by decide +kernel
theorem dPC_link_8 : decode cPC_link 8 = .ok (.invokestatic 108, 3) := by decide +kernel
theorem dPC_link_11 : decode cPC_link 11 = .ok (.ifCond .eq 16, 3) := by decide +kernel
theorem dPC_link_14 : decode cPC_link 14 = .ok (.aload_n 0, 1) := by decide +kernel
theorem dPC_link_15 : decode cPC_link 15 = .ok (.getfield 66, 3) := by decide +kernel
theorem dPC_link_18 : decode cPC_link 18 = .ok (.iload_n 1, 1) := by decide +kernel
theorem dPC_link_19 : decode cPC_link 19 = .ok (.iload_n 2, 1) := by decide +kernel
theorem dPC_link_20 : decode cPC_link 20 = .ok (.invokevirtual 118, 3) := by decide +kernel
theorem dPC_link_23 : decode cPC_link 23 = .ok (.iload_n 3, 1) := by decide +kernel
theorem dPC_link_24 : decode cPC_link 24 = .ok (.if_icmp .ne 5, 3) := by decide +kernel
theorem dPC_link_27 : decode cPC_link 27 = .ok (.iconst 0, 1) := by decide +kernel
theorem dPC_link_28 : decode cPC_link 28 = .ok (.ireturn, 1) := by decide +kernel
theorem dPC_link_29 : decode cPC_link 29 = .ok (.aload_n 0, 1) := by decide +kernel
theorem dPC_link_30 : decode cPC_link 30 = .ok (.getfield 66, 3) := by decide +kernel
theorem dPC_link_33 : decode cPC_link 33 = .ok (.getfield 122, 3) := by decide +kernel
theorem dPC_link_36 : decode cPC_link 36 = .ok (.iload_n 1, 1) := by decide +kernel
theorem dPC_link_37 : decode cPC_link 37 = .ok (.dup2, 1) := by decide +kernel
theorem dPC_link_38 : decode cPC_link 38 = .ok (.iaload, 1) := by decide +kernel
theorem dPC_link_39 : decode cPC_link 39 = .ok (.iconst 1, 1) := by decide +kernel
theorem dPC_link_40 : decode cPC_link 40 = .ok (.iload_n 2, 1) := by decide +kernel
theorem dPC_link_41 : decode cPC_link 41 = .ok (.ishl, 1) := by decide +kernel
theorem dPC_link_42 : decode cPC_link 42 = .ok (.ixor, 1) := by decide +kernel
theorem dPC_link_43 : decode cPC_link 43 = .ok (.iastore, 1) := by decide +kernel
theorem dPC_link_44 : decode cPC_link 44 = .ok (.aload_n 0, 1) := by decide +kernel
theorem dPC_link_45 : decode cPC_link 45 = .ok (.iconst 0, 1) := by decide +kernel
theorem dPC_link_46 : decode cPC_link 46 = .ok (.putfield 90, 3) := by decide +kernel
theorem dPC_link_49 : decode cPC_link 49 = .ok (.iconst 1, 1) := by decide +kernel
theorem dPC_link_50 : decode cPC_link 50 = .ok (.ireturn, 1) := by decide +kernel
theorem dPC_state_0 : decode cPC_state 0 = .ok (.iload_n 1, 1) := by decide +kernel
theorem dPC_state_1 : decode cPC_state 1 = .ok (.invokestatic 108, 3) := by decide +kernel
theorem dPC_state_4 : decode cPC_state 4 = .ok (.ifCond .ne 5, 3) := by decide +kernel
theorem dPC_state_7 : decode cPC_state 7 = .ok (.iconst (-1), 1) := by decide +kernel
theorem dPC_state_8 : decode cPC_state 8 = .ok (.ireturn, 1) := by decide +kernel
theorem dPC_state_9 : decode cPC_state 9 = .ok (.iload_n 2, 1) := by decide +kernel
theorem dPC_state_10 : decode cPC_state 10 = .ok (.iconst (-1), 1) := by decide +kernel
theorem dPC_state_11 : decode cPC_state 11 = .ok (.if_icmp .ne 13, 3) := by decide +kernel
theorem dPC_state_14 : decode cPC_state 14 = .ok (.aload_n 0, 1) := by decide +kernel
theorem dPC_state_15 : decode cPC_state 15 = .ok (.getfield 66, 3) := by decide +kernel
theorem dPC_state_18 : decode cPC_state 18 = .ok (.getfield 112, 3) := by decide +kernel
theorem dPC_state_21 : decode cPC_state 21 = .ok (.iload_n 1, 1) := by decide +kernel
theorem dPC_state_22 : decode cPC_state 22 = .ok (.iaload, 1) := by decide +kernel
theorem dPC_state_23 : decode cPC_state 23 = .ok (.ireturn, 1) := by decide +kernel
theorem dPC_state_24 : decode cPC_state 24 = .ok (.iload_n 2, 1) := by decide +kernel
theorem dPC_state_25 : decode cPC_state 25 = .ok (.invokestatic 108, 3) := by decide +kernel
theorem dPC_state_28 : decode cPC_state 28 = .ok (.ifCond .ne 5, 3) := by decide +kernel
theorem dPC_state_31 : decode cPC_state 31 = .ok (.iconst (-1), 1) := by decide +kernel
theorem dPC_state_32 : decode cPC_state 32 = .ok (.ireturn, 1) := by decide +kernel
theorem dPC_state_33 : decode cPC_state 33 = .ok (.aload_n 0, 1) := by decide +kernel
theorem dPC_state_34 : decode cPC_state 34 = .ok (.getfield 66, 3) := by decide +kernel
theorem dPC_state_37 : decode cPC_state 37 = .ok (.iload_n 1, 1) := by decide +kernel
theorem dPC_state_38 : decode cPC_state 38 = .ok (.iload_n 2, 1) := by decide +kernel
theorem dPC_state_39 : decode cPC_state 39 = .ok (.invokevirtual 118, 3) := by decide +kernel
theorem dPC_state_42 : decode cPC_state 42 = .ok (.ifCond .eq 7, 3) := by decide +kernel
theorem dPC_state_45 : decode cPC_state 45 = .ok (.iconst 1, 1) := by decide +kernel
theorem dPC_state_46 : decode cPC_state 46 = .ok (.goto 4, 3) := by decide +kernel
theorem dPC_state_49 : decode cPC_state 49 = .ok (.iconst 0, 1) := by decide +kernel
theorem dPC_state_50 : decode cPC_state 50 = .ok (.ireturn, 1) := by decide +kernel
theorem dPC_endless_0 : decode cPC_endless 0 = .ok (.iload_n 1, 1) := by decide +kernel
theorem dPC_endless_1 : decode cPC_endless 1 = .ok (.invokestatic 108, 3) := by decide +kernel
theorem dPC_endless_4 : decode cPC_endless 4 = .ok (.ifCond .eq 22, 3) := by decide +kernel
theorem dPC_endless_7 : decode cPC_endless 7 = .ok (.aload_n 0, 1) := by decide +kernel
theorem dPC_endless_8 : decode cPC_endless 8 = .ok (.getfield 66, 3) := by decide +kernel
theorem dPC_endless_11 : decode cPC_endless 11 = .ok (.invokevirtual 125, 3) := by decide +kernel
theorem dPC_endless_14 : decode cPC_endless 14 = .ok (.iload_n 1, 1) := by decide +kernel
theorem dPC_endless_15 : decode cPC_endless 15 = .ok (.iushr, 1) := by decide +kernel
theorem dPC_endless_16 : decode cPC_endless 16 = .ok (.iconst 1, 1) := by decide +kernel
theorem dPC_endless_17 : decode cPC_endless 17 = .ok (.iand, 1) := by decide +kernel
theorem dPC_endless_18 : decode cPC_endless 18 = .ok (.iconst 1, 1) := by decide +kernel
theorem dPC_endless_19 : decode cPC_endless 19 = .ok (.if_icmp .ne 7, 3) := by decide +kernel
theorem dPC_endless_22 : decode cPC_endless 22 = .ok (.iconst 1, 1) := by decide +kernel
theorem dPC_endless_23 : decode cPC_endless 23 = .ok (.goto 4, 3) := by decide +kernel
theorem dPC_endless_26 : decode cPC_endless 26 = .ok (.iconst 0, 1) := by decide +kernel
theorem dPC_endless_27 : decode cPC_endless 27 = .ok (.ireturn, 1) := by decide +kernel
theorem dPC_keeps_0 : decode cPC_keeps 0 = .ok (.aload_n 0, 1) := by decide +kernel
theorem dPC_keeps_1 : decode cPC_keeps 1 = .ok (.getfield 61, 3) := by decide +kernel
theorem dPC_keeps_4 : decode cPC_keeps 4 = .ok (.invokevirtual 95, 3) := by decide +kernel
theorem dPC_keeps_7 : decode cPC_keeps 7 = .ok (.ifCond .eq 11, 3) := by decide +kernel
theorem dPC_keeps_10 : decode cPC_keeps 10 = .ok (.new 99, 3) := by decide +kernel
theorem dPC_keeps_13 : decode cPC_keeps 13 = .ok (.dup, 1) := by decide +kernel
theorem dPC_keeps_14 : decode cPC_keeps 14 = .ok (.invokespecial 101, 3) := by decide +kernel
theorem dPC_keeps_17 : decode cPC_keeps 17 = .ok (.athrow, 1) := by decide +kernel
theorem dPC_keeps_18 : decode cPC_keeps 18 = .ok (.iload_n 1, 1) := by decide +kernel
theorem dPC_keeps_19 : decode cPC_keeps 19 = .ok (.invokestatic 108, 3) := by decide +kernel
theorem dPC_keeps_22 : decode cPC_keeps 22 = .ok (.ifCond .ne 11, 3) := by decide +kernel
theorem dPC_keeps_25 : decode cPC_keeps 25 = .ok (.new 129, 3) := by decide +kernel
theorem dPC_keeps_28 : decode cPC_keeps 28 = .ok (.dup, 1) := by decide +kernel
theorem dPC_keeps_29 : decode cPC_keeps 29 = .ok (.invokespecial 131, 3) := by decide +kernel
theorem dPC_keeps_32 : decode cPC_keeps 32 = .ok (.athrow, 1) := by decide +kernel
theorem dPC_keeps_33 : decode cPC_keeps 33 = .ok (.aload_n 0, 1) := by decide +kernel
theorem dPC_keeps_34 : decode cPC_keeps 34 = .ok (.invokevirtual 132, 3) := by decide +kernel
theorem dPC_keeps_37 : decode cPC_keeps 37 = .ok (.aload_n 0, 1) := by decide +kernel
theorem dPC_keeps_38 : decode cPC_keeps 38 = .ok (.getfield 40, 3) := by decide +kernel
theorem dPC_keeps_41 : decode cPC_keeps 41 = .ok (.iconst 0, 1) := by decide +kernel
theorem dPC_keeps_42 : decode cPC_keeps 42 = .ok (.invokevirtual 135, 3) := by decide +kernel
theorem dPC_keeps_45 : decode cPC_keeps 45 = .ok (.iload_n 1, 1) := by decide +kernel
theorem dPC_keeps_46 : decode cPC_keeps 46 = .ok (.iushr, 1) := by decide +kernel
theorem dPC_keeps_47 : decode cPC_keeps 47 = .ok (.iconst 1, 1) := by decide +kernel
theorem dPC_keeps_48 : decode cPC_keeps 48 = .ok (.iand, 1) := by decide +kernel
theorem dPC_keeps_49 : decode cPC_keeps 49 = .ok (.ifCond .ne 7, 3) := by decide +kernel
theorem dPC_keeps_52 : decode cPC_keeps 52 = .ok (.iconst 1, 1) := by decide +kernel
theorem dPC_keeps_53 : decode cPC_keeps 53 = .ok (.goto 4, 3) := by decide +kernel
theorem dPC_keeps_56 : decode cPC_keeps 56 = .ok (.iconst 0, 1) := by decide +kernel
theorem dPC_keeps_57 : decode cPC_keeps 57 = .ok (.ireturn, 1) := by decide +kernel
theorem dPC_breaking_0 : decode cPC_breaking 0 = .ok (.aload_n 0, 1) := by decide +kernel
theorem dPC_breaking_1 : decode cPC_breaking 1 = .ok (.getfield 61, 3) := by decide +kernel
theorem dPC_breaking_4 : decode cPC_breaking 4 = .ok (.invokevirtual 95, 3) := by decide +kernel
theorem dPC_breaking_7 : decode cPC_breaking 7 = .ok (.ifCond .eq 11, 3) := by decide +kernel
theorem dPC_breaking_10 : decode cPC_breaking 10 = .ok (.new 99, 3) := by decide +kernel
theorem dPC_breaking_13 : decode cPC_breaking 13 = .ok (.dup, 1) := by decide +kernel
theorem dPC_breaking_14 : decode cPC_breaking 14 = .ok (.invokespecial 101, 3) := by decide +kernel
theorem dPC_breaking_17 : decode cPC_breaking 17 = .ok (.athrow, 1) := by decide +kernel
theorem dPC_breaking_18 : decode cPC_breaking 18 = .ok (.aload_n 0, 1) := by decide +kernel
theorem dPC_breaking_19 : decode cPC_breaking 19 = .ok (.invokevirtual 132, 3) := by decide +kernel
theorem dPC_breaking_22 : decode cPC_breaking 22 = .ok (.aload_n 0, 1) := by decide +kernel
theorem dPC_breaking_23 : decode cPC_breaking 23 = .ok (.getfield 40, 3) := by decide +kernel
theorem dPC_breaking_26 : decode cPC_breaking 26 = .ok (.iconst 0, 1) := by decide +kernel
theorem dPC_breaking_27 : decode cPC_breaking 27 = .ok (.invokevirtual 135, 3) := by decide +kernel
theorem dPC_breaking_30 : decode cPC_breaking 30 = .ok (.ireturn, 1) := by decide +kernel
theorem dPC_keeping_0 : decode cPC_keeping 0 = .ok (.aload_n 0, 1) := by decide +kernel
theorem dPC_keeping_1 : decode cPC_keeping 1 = .ok (.getfield 61, 3) := by decide +kernel
theorem dPC_keeping_4 : decode cPC_keeping 4 = .ok (.invokevirtual 95, 3) := by decide +kernel
theorem dPC_keeping_7 : decode cPC_keeping 7 = .ok (.ifCond .eq 11, 3) := by decide +kernel
theorem dPC_keeping_10 : decode cPC_keeping 10 = .ok (.new 99, 3) := by decide +kernel
theorem dPC_keeping_13 : decode cPC_keeping 13 = .ok (.dup, 1) := by decide +kernel
theorem dPC_keeping_14 : decode cPC_keeping 14 = .ok (.invokespecial 101, 3) := by decide +kernel
theorem dPC_keeping_17 : decode cPC_keeping 17 = .ok (.athrow, 1) := by decide +kernel
theorem dPC_keeping_18 : decode cPC_keeping 18 = .ok (.aload_n 0, 1) := by decide +kernel
theorem dPC_keeping_19 : decode cPC_keeping 19 = .ok (.invokevirtual 132, 3) := by decide +kernel
theorem dPC_keeping_22 : decode cPC_keeping 22 = .ok (.aload_n 0, 1) := by decide +kernel
theorem dPC_keeping_23 : decode cPC_keeping 23 = .ok (.getfield 40, 3) := by decide +kernel
theorem dPC_keeping_26 : decode cPC_keeping 26 = .ok (.iconst 1, 1) := by decide +kernel
theorem dPC_keeping_27 : decode cPC_keeping 27 = .ok (.invokevirtual 135, 3) := by decide +kernel
theorem dPC_keeping_30 : decode cPC_keeping 30 = .ok (.ireturn, 1) := by decide +kernel
theorem dPC_witness_0 : decode cPC_witness 0 = .ok (.aload_n 0, 1) := by decide +kernel
theorem dPC_witness_1 : decode cPC_witness 1 = .ok (.getfield 61, 3) := by decide +kernel
theorem dPC_witness_4 : decode cPC_witness 4 = .ok (.invokevirtual 95, 3) := by decide +kernel
theorem dPC_witness_7 : decode cPC_witness 7 = .ok (.ifCond .eq 11, 3) := by decide +kernel
theorem dPC_witness_10 : decode cPC_witness 10 = .ok (.new 99, 3) := by decide +kernel
theorem dPC_witness_13 : decode cPC_witness 13 = .ok (.dup, 1) := by decide +kernel
theorem dPC_witness_14 : decode cPC_witness 14 = .ok (.invokespecial 101, 3) := by decide +kernel
theorem dPC_witness_17 : decode cPC_witness 17 = .ok (.athrow, 1) := by decide +kernel
theorem dPC_witness_18 : decode cPC_witness 18 = .ok (.iload_n 1, 1) := by decide +kernel
theorem dPC_witness_19 : decode cPC_witness 19 = .ok (.invokestatic 108, 3) := by decide +kernel
theorem dPC_witness_22 : decode cPC_witness 22 = .ok (.ifCond .ne 5, 3) := by decide +kernel
theorem dPC_witness_25 : decode cPC_witness 25 = .ok (.iconst (-1), 1) := by decide +kernel
theorem dPC_witness_26 : decode cPC_witness 26 = .ok (.ireturn, 1) := by decide +kernel
theorem dPC_witness_27 : decode cPC_witness 27 = .ok (.aload_n 0, 1) := by decide +kernel
theorem dPC_witness_28 : decode cPC_witness 28 = .ok (.invokevirtual 132, 3) := by decide +kernel
theorem dPC_witness_31 : decode cPC_witness 31 = .ok (.aload_n 0, 1) := by decide +kernel
theorem dPC_witness_32 : decode cPC_witness 32 = .ok (.getfield 32, 3) := by decide +kernel
theorem dPC_witness_35 : decode cPC_witness 35 = .ok (.iload_n 1, 1) := by decide +kernel
theorem dPC_witness_36 : decode cPC_witness 36 = .ok (.invokevirtual 138, 3) := by decide +kernel
theorem dPC_witness_39 : decode cPC_witness 39 = .ok (.aload_n 0, 1) := by decide +kernel
theorem dPC_witness_40 : decode cPC_witness 40 = .ok (.getfield 32, 3) := by decide +kernel
theorem dPC_witness_43 : decode cPC_witness 43 = .ok (.getfield 141, 3) := by decide +kernel
theorem dPC_witness_46 : decode cPC_witness 46 = .ok (.iconst (-1), 1) := by decide +kernel
theorem dPC_witness_47 : decode cPC_witness 47 = .ok (.if_icmp .ne 5, 3) := by decide +kernel
theorem dPC_witness_50 : decode cPC_witness 50 = .ok (.iconst (-1), 1) := by decide +kernel
theorem dPC_witness_51 : decode cPC_witness 51 = .ok (.ireturn, 1) := by decide +kernel
theorem dPC_witness_52 : decode cPC_witness 52 = .ok (.iload_n 2, 1) := by decide +kernel
theorem dPC_witness_53 : decode cPC_witness 53 = .ok (.iconst (-1), 1) := by decide +kernel
theorem dPC_witness_54 : decode cPC_witness 54 = .ok (.if_icmp .ne 14, 3) := by decide +kernel
theorem dPC_witness_57 : decode cPC_witness 57 = .ok (.aload_n 0, 1) := by decide +kernel
theorem dPC_witness_58 : decode cPC_witness 58 = .ok (.getfield 32, 3) := by decide +kernel
theorem dPC_witness_61 : decode cPC_witness 61 = .ok (.getfield 144, 3) := by decide +kernel
theorem dPC_witness_64 : decode cPC_witness 64 = .ok (.getfield 147, 3) := by decide +kernel
theorem dPC_witness_67 : decode cPC_witness 67 = .ok (.ireturn, 1) := by decide +kernel
theorem dPC_witness_68 : decode cPC_witness 68 = .ok (.iload_n 2, 1) := by decide +kernel
theorem dPC_witness_69 : decode cPC_witness 69 = .ok (.bipush (-2), 2) := by decide +kernel
theorem dPC_witness_71 : decode cPC_witness 71 = .ok (.if_icmp .ne 11, 3) := by decide +kernel
theorem dPC_witness_74 : decode cPC_witness 74 = .ok (.aload_n 0, 1) := by decide +kernel
theorem dPC_witness_75 : decode cPC_witness 75 = .ok (.getfield 32, 3) := by decide +kernel
theorem dPC_witness_78 : decode cPC_witness 78 = .ok (.getfield 141, 3) := by decide +kernel
theorem dPC_witness_81 : decode cPC_witness 81 = .ok (.ireturn, 1) := by decide +kernel
theorem dPC_witness_82 : decode cPC_witness 82 = .ok (.aload_n 0, 1) := by decide +kernel
theorem dPC_witness_83 : decode cPC_witness 83 = .ok (.getfield 32, 3) := by decide +kernel
theorem dPC_witness_86 : decode cPC_witness 86 = .ok (.getfield 144, 3) := by decide +kernel
theorem dPC_witness_89 : decode cPC_witness 89 = .ok (.iload_n 2, 1) := by decide +kernel
theorem dPC_witness_90 : decode cPC_witness 90 = .ok (.invokevirtual 150, 3) := by decide +kernel
theorem dPC_witness_93 : decode cPC_witness 93 = .ok (.ifCond .eq 18, 3) := by decide +kernel
theorem dPC_witness_96 : decode cPC_witness 96 = .ok (.aload_n 0, 1) := by decide +kernel
theorem dPC_witness_97 : decode cPC_witness 97 = .ok (.getfield 32, 3) := by decide +kernel
theorem dPC_witness_100 : decode cPC_witness 100 = .ok (.getfield 144, 3) := by decide +kernel
theorem dPC_witness_103 : decode cPC_witness 103 = .ok (.getfield 153, 3) := by decide +kernel
theorem dPC_witness_106 : decode cPC_witness 106 = .ok (.iload_n 2, 1) := by decide +kernel
theorem dPC_witness_107 : decode cPC_witness 107 = .ok (.iaload, 1) := by decide +kernel
theorem dPC_witness_108 : decode cPC_witness 108 = .ok (.goto 4, 3) := by decide +kernel
theorem dPC_witness_111 : decode cPC_witness 111 = .ok (.iconst (-1), 1) := by decide +kernel
theorem dPC_witness_112 : decode cPC_witness 112 = .ok (.ireturn, 1) := by decide +kernel
theorem dPC_go_0 : decode cPC_go 0 = .ok (.iload_n 1, 1) := by decide +kernel
theorem dPC_go_1 : decode cPC_go 1 = .ok (.invokestatic 108, 3) := by decide +kernel
theorem dPC_go_4 : decode cPC_go 4 = .ok (.ifCond .eq 15, 3) := by decide +kernel
theorem dPC_go_7 : decode cPC_go 7 = .ok (.aload_n 0, 1) := by decide +kernel
theorem dPC_go_8 : decode cPC_go 8 = .ok (.getfield 25, 3) := by decide +kernel
theorem dPC_go_11 : decode cPC_go 11 = .ok (.getfield 147, 3) := by decide +kernel
theorem dPC_go_14 : decode cPC_go 14 = .ok (.bipush 8, 2) := by decide +kernel
theorem dPC_go_16 : decode cPC_go 16 = .ok (.if_icmp .lt 5, 3) := by decide +kernel
theorem dPC_go_19 : decode cPC_go 19 = .ok (.iconst (-1), 1) := by decide +kernel
theorem dPC_go_20 : decode cPC_go 20 = .ok (.ireturn, 1) := by decide +kernel
theorem dPC_go_21 : decode cPC_go 21 = .ok (.aload_n 0, 1) := by decide +kernel
theorem dPC_go_22 : decode cPC_go 22 = .ok (.getfield 25, 3) := by decide +kernel
theorem dPC_go_25 : decode cPC_go 25 = .ok (.getfield 153, 3) := by decide +kernel
theorem dPC_go_28 : decode cPC_go 28 = .ok (.aload_n 0, 1) := by decide +kernel
theorem dPC_go_29 : decode cPC_go 29 = .ok (.getfield 25, 3) := by decide +kernel
theorem dPC_go_32 : decode cPC_go 32 = .ok (.getfield 147, 3) := by decide +kernel
theorem dPC_go_35 : decode cPC_go 35 = .ok (.iload_n 1, 1) := by decide +kernel
theorem dPC_go_36 : decode cPC_go 36 = .ok (.iastore, 1) := by decide +kernel
theorem dPC_go_37 : decode cPC_go 37 = .ok (.aload_n 0, 1) := by decide +kernel
theorem dPC_go_38 : decode cPC_go 38 = .ok (.getfield 25, 3) := by decide +kernel
theorem dPC_go_41 : decode cPC_go 41 = .ok (.dup, 1) := by decide +kernel
theorem dPC_go_42 : decode cPC_go 42 = .ok (.getfield 147, 3) := by decide +kernel
theorem dPC_go_45 : decode cPC_go 45 = .ok (.iconst 1, 1) := by decide +kernel
theorem dPC_go_46 : decode cPC_go 46 = .ok (.iadd, 1) := by decide +kernel
theorem dPC_go_47 : decode cPC_go 47 = .ok (.putfield 147, 3) := by decide +kernel
theorem dPC_go_50 : decode cPC_go 50 = .ok (.aload_n 0, 1) := by decide +kernel
theorem dPC_go_51 : decode cPC_go 51 = .ok (.getfield 25, 3) := by decide +kernel
theorem dPC_go_54 : decode cPC_go 54 = .ok (.getfield 147, 3) := by decide +kernel
theorem dPC_go_57 : decode cPC_go 57 = .ok (.ireturn, 1) := by decide +kernel
theorem dPC_clear_0 : decode cPC_clear 0 = .ok (.aload_n 0, 1) := by decide +kernel
theorem dPC_clear_1 : decode cPC_clear 1 = .ok (.getfield 25, 3) := by decide +kernel
theorem dPC_clear_4 : decode cPC_clear 4 = .ok (.iconst 0, 1) := by decide +kernel
theorem dPC_clear_5 : decode cPC_clear 5 = .ok (.putfield 147, 3) := by decide +kernel
theorem dPC_clear_8 : decode cPC_clear 8 = .ok (.return_, 1) := by decide +kernel
theorem dPC_judge_0 : decode cPC_judge 0 = .ok (.aload_n 0, 1) := by decide +kernel
theorem dPC_judge_1 : decode cPC_judge 1 = .ok (.getfield 61, 3) := by decide +kernel
theorem dPC_judge_4 : decode cPC_judge 4 = .ok (.invokevirtual 95, 3) := by decide +kernel
theorem dPC_judge_7 : decode cPC_judge 7 = .ok (.ifCond .ne 13, 3) := by decide +kernel
theorem dPC_judge_10 : decode cPC_judge 10 = .ok (.aload_n 0, 1) := by decide +kernel
theorem dPC_judge_11 : decode cPC_judge 11 = .ok (.getfield 25, 3) := by decide +kernel
theorem dPC_judge_14 : decode cPC_judge 14 = .ok (.getfield 147, 3) := by decide +kernel
theorem dPC_judge_17 : decode cPC_judge 17 = .ok (.ifCond .ne 11, 3) := by decide +kernel
theorem dPC_judge_20 : decode cPC_judge 20 = .ok (.new 99, 3) := by decide +kernel
theorem dPC_judge_23 : decode cPC_judge 23 = .ok (.dup, 1) := by decide +kernel
theorem dPC_judge_24 : decode cPC_judge 24 = .ok (.invokespecial 101, 3) := by decide +kernel
theorem dPC_judge_27 : decode cPC_judge 27 = .ok (.athrow, 1) := by decide +kernel
theorem dPC_judge_28 : decode cPC_judge 28 = .ok (.aload_n 0, 1) := by decide +kernel
theorem dPC_judge_29 : decode cPC_judge 29 = .ok (.getfield 25, 3) := by decide +kernel
theorem dPC_judge_32 : decode cPC_judge 32 = .ok (.iload_n 2, 1) := by decide +kernel
theorem dPC_judge_33 : decode cPC_judge 33 = .ok (.invokevirtual 150, 3) := by decide +kernel
theorem dPC_judge_36 : decode cPC_judge 36 = .ok (.ifCond .eq 14, 3) := by decide +kernel
theorem dPC_judge_39 : decode cPC_judge 39 = .ok (.aload_n 0, 1) := by decide +kernel
theorem dPC_judge_40 : decode cPC_judge 40 = .ok (.getfield 25, 3) := by decide +kernel
theorem dPC_judge_43 : decode cPC_judge 43 = .ok (.iload_n 1, 1) := by decide +kernel
theorem dPC_judge_44 : decode cPC_judge 44 = .ok (.invokevirtual 150, 3) := by decide +kernel
theorem dPC_judge_47 : decode cPC_judge 47 = .ok (.ifCond .ne 11, 3) := by decide +kernel
theorem dPC_judge_50 : decode cPC_judge 50 = .ok (.new 129, 3) := by decide +kernel
theorem dPC_judge_53 : decode cPC_judge 53 = .ok (.dup, 1) := by decide +kernel
theorem dPC_judge_54 : decode cPC_judge 54 = .ok (.invokespecial 131, 3) := by decide +kernel
theorem dPC_judge_57 : decode cPC_judge 57 = .ok (.athrow, 1) := by decide +kernel
theorem dPC_judge_58 : decode cPC_judge 58 = .ok (.aload_n 0, 1) := by decide +kernel
theorem dPC_judge_59 : decode cPC_judge 59 = .ok (.getfield 25, 3) := by decide +kernel
theorem dPC_judge_62 : decode cPC_judge 62 = .ok (.aload_n 0, 1) := by decide +kernel
theorem dPC_judge_63 : decode cPC_judge 63 = .ok (.getfield 66, 3) := by decide +kernel
theorem dPC_judge_66 : decode cPC_judge 66 = .ok (.iload_n 1, 1) := by decide +kernel
theorem dPC_judge_67 : decode cPC_judge 67 = .ok (.invokevirtual 156, 3) := by decide +kernel
theorem dPC_judge_70 : decode cPC_judge 70 = .ok (.ifCond .ne 11, 3) := by decide +kernel
theorem dPC_judge_73 : decode cPC_judge 73 = .ok (.new 81, 3) := by decide +kernel
theorem dPC_judge_76 : decode cPC_judge 76 = .ok (.dup, 1) := by decide +kernel
theorem dPC_judge_77 : decode cPC_judge 77 = .ok (.invokespecial 83, 3) := by decide +kernel
theorem dPC_judge_80 : decode cPC_judge 80 = .ok (.athrow, 1) := by decide +kernel
theorem dPC_judge_81 : decode cPC_judge 81 = .ok (.aload_n 0, 1) := by decide +kernel
theorem dPC_judge_82 : decode cPC_judge 82 = .ok (.getfield 25, 3) := by decide +kernel
theorem dPC_judge_85 : decode cPC_judge 85 = .ok (.aload_n 0, 1) := by decide +kernel
theorem dPC_judge_86 : decode cPC_judge 86 = .ok (.getfield 61, 3) := by decide +kernel
theorem dPC_judge_89 : decode cPC_judge 89 = .ok (.aload_n 0, 1) := by decide +kernel
theorem dPC_judge_90 : decode cPC_judge 90 = .ok (.getfield 66, 3) := by decide +kernel
theorem dPC_judge_93 : decode cPC_judge 93 = .ok (.iload_n 1, 1) := by decide +kernel
theorem dPC_judge_94 : decode cPC_judge 94 = .ok (.invokevirtual 160, 3) := by decide +kernel
theorem dPC_judge_97 : decode cPC_judge 97 = .ok (.iload_n 2, 1) := by decide +kernel
theorem dPC_judge_98 : decode cPC_judge 98 = .ok (.iushr, 1) := by decide +kernel
theorem dPC_judge_99 : decode cPC_judge 99 = .ok (.iconst 1, 1) := by decide +kernel
theorem dPC_judge_100 : decode cPC_judge 100 = .ok (.iand, 1) := by decide +kernel
theorem dPC_judge_101 : decode cPC_judge 101 = .ok (.iconst 1, 1) := by decide +kernel
theorem dPC_judge_102 : decode cPC_judge 102 = .ok (.if_icmp .ne 7, 3) := by decide +kernel
theorem dPC_judge_105 : decode cPC_judge 105 = .ok (.iconst 1, 1) := by decide +kernel
theorem dPC_judge_106 : decode cPC_judge 106 = .ok (.goto 4, 3) := by decide +kernel
theorem dPC_judge_109 : decode cPC_judge 109 = .ok (.iconst 0, 1) := by decide +kernel
theorem dPC_judge_110 : decode cPC_judge 110 = .ok (.ireturn, 1) := by decide +kernel
theorem dPC_isState_0 : decode cPC_isState 0 = .ok (.iload_n 0, 1) := by decide +kernel
theorem dPC_isState_1 : decode cPC_isState 1 = .ok (.ifCond .lt 13, 3) := by decide +kernel
theorem dPC_isState_4 : decode cPC_isState 4 = .ok (.iload_n 0, 1) := by decide +kernel
theorem dPC_isState_5 : decode cPC_isState 5 = .ok (.bipush 6, 2) := by decide +kernel
theorem dPC_isState_7 : decode cPC_isState 7 = .ok (.if_icmp .ge 7, 3) := by decide +kernel
theorem dPC_isState_10 : decode cPC_isState 10 = .ok (.iconst 1, 1) := by decide +kernel
theorem dPC_isState_11 : decode cPC_isState 11 = .ok (.goto 4, 3) := by decide +kernel
theorem dPC_isState_14 : decode cPC_isState 14 = .ok (.iconst 0, 1) := by decide +kernel
theorem dPC_isState_15 : decode cPC_isState 15 = .ok (.ireturn, 1) := by decide +kernel
theorem dPC_bringUpToDate_0 : decode cPC_bringUpToDate 0 = .ok (.aload_n 0, 1) := by decide +kernel
theorem dPC_bringUpToDate_1 : decode cPC_bringUpToDate 1 = .ok (.getfield 90, 3) := by decide +kernel
theorem dPC_bringUpToDate_4 : decode cPC_bringUpToDate 4 = .ok (.ifCond .ne 36, 3) := by decide +kernel
theorem dPC_bringUpToDate_7 : decode cPC_bringUpToDate 7 = .ok (.aload_n 0, 1) := by decide +kernel
theorem dPC_bringUpToDate_8 : decode cPC_bringUpToDate 8 = .ok (.getfield 54, 3) := by decide +kernel
theorem dPC_bringUpToDate_11 : decode cPC_bringUpToDate 11 = .ok (.invokevirtual 164, 3) := by decide +kernel
theorem dPC_bringUpToDate_14 : decode cPC_bringUpToDate 14 = .ok (.aload_n 0, 1) := by decide +kernel
theorem dPC_bringUpToDate_15 : decode cPC_bringUpToDate 15 = .ok (.getfield 47, 3) := by decide +kernel
theorem dPC_bringUpToDate_18 : decode cPC_bringUpToDate 18 = .ok (.invokevirtual 167, 3) := by decide +kernel
theorem dPC_bringUpToDate_21 : decode cPC_bringUpToDate 21 = .ok (.aload_n 0, 1) := by decide +kernel
theorem dPC_bringUpToDate_22 : decode cPC_bringUpToDate 22 = .ok (.getfield 40, 3) := by decide +kernel
theorem dPC_bringUpToDate_25 : decode cPC_bringUpToDate 25 = .ok (.invokevirtual 170, 3) := by decide +kernel
theorem dPC_bringUpToDate_28 : decode cPC_bringUpToDate 28 = .ok (.aload_n 0, 1) := by decide +kernel
theorem dPC_bringUpToDate_29 : decode cPC_bringUpToDate 29 = .ok (.getfield 32, 3) := by decide +kernel
theorem dPC_bringUpToDate_32 : decode cPC_bringUpToDate 32 = .ok (.invokevirtual 173, 3) := by decide +kernel
theorem dPC_bringUpToDate_35 : decode cPC_bringUpToDate 35 = .ok (.aload_n 0, 1) := by decide +kernel
theorem dPC_bringUpToDate_36 : decode cPC_bringUpToDate 36 = .ok (.iconst 1, 1) := by decide +kernel
theorem dPC_bringUpToDate_37 : decode cPC_bringUpToDate 37 = .ok (.putfield 90, 3) := by decide +kernel
theorem dPC_bringUpToDate_40 : decode cPC_bringUpToDate 40 = .ok (.return_, 1) := by decide +kernel
end
section
theorem dST_init_0 : decode cST_init 0 = .ok (.aload_n 0, 1) := by decide +kernel
theorem dST_init_1 : decode cST_init 1 = .ok (.invokespecial 3, 3) := by decide +kernel
theorem dST_init_4 : decode cST_init 4 = .ok (.aload_n 0, 1) := by decide +kernel
theorem dST_init_5 : decode cST_init 5 = .ok (.bipush 6, 2) := by decide +kernel
theorem dST_init_7 : decode cST_init 7 = .ok (.newarray .int, 2) := by decide +kernel
theorem dST_init_9 : decode cST_init 9 = .ok (.putfield 9, 3) := by decide +kernel
theorem dST_init_12 : decode cST_init 12 = .ok (.aload_n 0, 1) := by decide +kernel
theorem dST_init_13 : decode cST_init 13 = .ok (.bipush 6, 2) := by decide +kernel
theorem dST_init_15 : decode cST_init 15 = .ok (.newarray .int, 2) := by decide +kernel
theorem dST_init_17 : decode cST_init 17 = .ok (.putfield 15, 3) := by decide +kernel
theorem dST_init_20 : decode cST_init 20 = .ok (.return_, 1) := by decide +kernel
theorem dST_joins_0 : decode cST_joins 0 = .ok (.aload_n 0, 1) := by decide +kernel
theorem dST_joins_1 : decode cST_joins 1 = .ok (.getfield 15, 3) := by decide +kernel
theorem dST_joins_4 : decode cST_joins 4 = .ok (.iload_n 1, 1) := by decide +kernel
theorem dST_joins_5 : decode cST_joins 5 = .ok (.iaload, 1) := by decide +kernel
theorem dST_joins_6 : decode cST_joins 6 = .ok (.iload_n 2, 1) := by decide +kernel
theorem dST_joins_7 : decode cST_joins 7 = .ok (.iushr, 1) := by decide +kernel
theorem dST_joins_8 : decode cST_joins 8 = .ok (.iconst 1, 1) := by decide +kernel
theorem dST_joins_9 : decode cST_joins 9 = .ok (.iand, 1) := by decide +kernel
theorem dST_joins_10 : decode cST_joins 10 = .ok (.iconst 1, 1) := by decide +kernel
theorem dST_joins_11 : decode cST_joins 11 = .ok (.if_icmp .ne 7, 3) := by decide +kernel
theorem dST_joins_14 : decode cST_joins 14 = .ok (.iconst 1, 1) := by decide +kernel
theorem dST_joins_15 : decode cST_joins 15 = .ok (.goto 4, 3) := by decide +kernel
theorem dST_joins_18 : decode cST_joins 18 = .ok (.iconst 0, 1) := by decide +kernel
theorem dST_joins_19 : decode cST_joins 19 = .ok (.ireturn, 1) := by decide +kernel
theorem dST_statesWithPath_0 : decode cST_statesWithPath 0 = .ok (.bipush 63, 2) := by decide +kernel
theorem dST_statesWithPath_2 : decode cST_statesWithPath 2 = .ok (.istore_n 1, 1) := by decide +kernel
theorem dST_statesWithPath_3 : decode cST_statesWithPath 3 = .ok (.iconst 0, 1) := by decide +kernel
theorem dST_statesWithPath_4 : decode cST_statesWithPath 4 = .ok (.istore_n 2, 1) := by decide +kernel
theorem dST_statesWithPath_5 : decode cST_statesWithPath 5 = .ok (.iload_n 2, 1) := by decide +kernel
theorem dST_statesWithPath_6 : decode cST_statesWithPath 6 = .ok (.bipush 6, 2) := by decide +kernel
theorem dST_statesWithPath_8 : decode cST_statesWithPath 8 = .ok (.if_icmp .ge 42, 3) := by decide +kernel
theorem dST_statesWithPath_11 : decode cST_statesWithPath 11 = .ok (.iconst 0, 1) := by decide +kernel
theorem dST_statesWithPath_12 : decode cST_statesWithPath 12 = .ok (.istore_n 3, 1) := by decide +kernel
theorem dST_statesWithPath_13 : decode cST_statesWithPath 13 = .ok (.iload_n 3, 1) := by decide +kernel
theorem dST_statesWithPath_14 : decode cST_statesWithPath 14 = .ok (.bipush 6, 2) := by decide +kernel
theorem dST_statesWithPath_16 : decode cST_statesWithPath 16 = .ok (.if_icmp .ge 28, 3) := by decide +kernel
theorem dST_statesWithPath_19 : decode cST_statesWithPath 19 = .ok (.aload_n 0, 1) := by decide +kernel
theorem dST_statesWithPath_20 : decode cST_statesWithPath 20 = .ok (.getfield 15, 3) := by decide +kernel
theorem dST_statesWithPath_23 : decode cST_statesWithPath 23 = .ok (.iload_n 3, 1) := by decide +kernel
theorem dST_statesWithPath_24 : decode cST_statesWithPath 24 = .ok (.iaload, 1) := by decide +kernel
theorem dST_statesWithPath_25 : decode cST_statesWithPath 25 = .ok (.iload_n 1, 1) := by decide +kernel
theorem dST_statesWithPath_26 : decode cST_statesWithPath 26 = .ok (.iand, 1) := by decide +kernel
theorem dST_statesWithPath_27 : decode cST_statesWithPath 27 = .ok (.ifCond .ne 11, 3) := by decide +kernel
theorem dST_statesWithPath_30 : decode cST_statesWithPath 30 = .ok (.iload_n 1, 1) := by decide +kernel
theorem dST_statesWithPath_31 : decode cST_statesWithPath 31 = .ok (.iconst 1, 1) := by decide +kernel
theorem dST_statesWithPath_32 : decode cST_statesWithPath 32 = .ok (.iload_n 3, 1) := by decide +kernel
theorem dST_statesWithPath_33 : decode cST_statesWithPath 33 = .ok (.ishl, 1) := by decide +kernel
theorem dST_statesWithPath_34 : decode cST_statesWithPath 34 = .ok (.iconst (-1), 1) := by decide +kernel
theorem dST_statesWithPath_35 : decode cST_statesWithPath 35 = .ok (.ixor, 1) := by decide +kernel
theorem dST_statesWithPath_36 : decode cST_statesWithPath 36 = .ok (.iand, 1) := by decide +kernel
theorem dST_statesWithPath_37 : decode cST_statesWithPath 37 = .ok (.istore_n 1, 1) := by decide +kernel
theorem dST_statesWithPath_38 : decode cST_statesWithPath 38 = .ok (.iinc 3 1, 3) := by decide +kernel
theorem dST_statesWithPath_41 : decode cST_statesWithPath 41 = .ok (.goto (-28), 3) := by decide +kernel
theorem dST_statesWithPath_44 : decode cST_statesWithPath 44 = .ok (.iinc 2 1, 3) := by decide +kernel
theorem dST_statesWithPath_47 : decode cST_statesWithPath 47 = .ok (.goto (-42), 3) := by decide +kernel
theorem dST_statesWithPath_50 : decode cST_statesWithPath 50 = .ok (.iload_n 1, 1) := by decide +kernel
theorem dST_statesWithPath_51 : decode cST_statesWithPath 51 = .ok (.ireturn, 1) := by decide +kernel
end
section
/-! SETS OF NODES THAT ALL REACH ONE ANOTHER, by a walk with a stack: pure part. A node v has the steps sc v 0 .. sc v 5. -/
def ko_E (sc : Nat → Nat → Option Nat) (a b : Nat) : Prop := ∃ i, i < 6 ∧ sc a i = some b
def ko_N (sc : Nat → Nat → Option Nat) : Nat → Nat → Nat → Prop
  | 0, a, b => a = b
  | n + 1, a, b => ∃ c, ko_E sc a c ∧ ko_N sc n c b
def ko_R (sc : Nat → Nat → Option Nat) (a b : Nat) : Prop := ∃ n, ko_N sc n a b
/-- one step or more -/
def ko_P (sc : Nat → Nat → Option Nat) (a b : Nat) : Prop := ∃ c, ko_E sc a c ∧ ko_R sc c b
theorem ko_R.rf {sc : Nat → Nat → Option Nat} (a : Nat) : ko_R sc a a := ⟨0, rfl⟩
theorem ko_N.tr {sc : Nat → Nat → Option Nat} : ∀ (n : Nat) {m a b c : Nat}, ko_N sc n a b → ko_N sc m b c → ko_N sc (n + m) a c
  | 0, m, a, b, c, h, h2 => by
    have e : a = b := h
    subst e
    rw [Nat.zero_add]
    exact h2
  | n + 1, m, a, b, c, h, h2 => by
    obtain ⟨d, h1, h3⟩ := h
    rw [show n + 1 + m = n + m + 1 by omega]
    exact ⟨d, h1, ko_N.tr n h3 h2⟩
theorem ko_R.tr {sc : Nat → Nat → Option Nat} {a b c : Nat} (h : ko_R sc a b) (h2 : ko_R sc b c) : ko_R sc a c := by
  obtain ⟨n, h⟩ := h
  obtain ⟨m, h2⟩ := h2
  exact ⟨n + m, ko_N.tr n h h2⟩
theorem ko_E.r {sc : Nat → Nat → Option Nat} {a b : Nat} (h : ko_E sc a b) : ko_R sc a b := ⟨1, b, h, rfl⟩
theorem ko_R.snoc {sc : Nat → Nat → Option Nat} {a b c : Nat} (h : ko_R sc a b) (h2 : ko_E sc b c) : ko_R sc a c := h.tr h2.r
theorem ko_R.cons {sc : Nat → Nat → Option Nat} {a b c : Nat} (h : ko_E sc a b) (h2 : ko_R sc b c) : ko_R sc a c := h.r.tr h2
theorem ko_P.r {sc : Nat → Nat → Option Nat} {a b : Nat} (h : ko_P sc a b) : ko_R sc a b := by
  obtain ⟨c, h1, h2⟩ := h
  exact ko_R.cons h1 h2
theorem ko_R.cases {sc : Nat → Nat → Option Nat} {a b : Nat} (h : ko_R sc a b) : a = b ∨ ko_P sc a b := by
  obtain ⟨n, h⟩ := h
  cases n with
  | zero => exact Or.inl h
  | succ n =>
    obtain ⟨c, h1, h2⟩ := h
    exact Or.inr ⟨c, h1, n, h2⟩
/-- a set that no step leaves is not left -/
theorem ko_R.closed {sc : Nat → Nat → Option Nat} {S : Nat → Prop} (hS : ∀ a b, S a → ko_E sc a b → S b) {a b : Nat} (h : ko_R sc a b) (ha : S a) : S b := by
  obtain ⟨n, h⟩ := h
  induction n generalizing a with
  | zero =>
    have e : a = b := h
    exact e ▸ ha
  | succ n ih =>
    obtain ⟨c, h1, h2⟩ := h
    exact ih (hS a c ha h1) h2
/-- the walk's state: numbers (0: not entered), how many steps were tried, lows, how many are numbered, the nodes held and those on the walk, the last entered first -/
def ko_I (sc : Nat → Nat → Option Nat) (num low td : Nat → Nat) (cnt : Nat) (held walk : List Nat) : Prop :=
  (∀ v, num v ≤ cnt) ∧ (∀ u v, num u = num v → num u ≠ 0 → u = v) ∧ (∀ v ∈ held, num v ≠ 0) ∧ held.Pairwise (fun a b => num b < num a) ∧
  (∀ v ∈ walk, v ∈ held) ∧ walk.Pairwise (fun a b => num b < num a) ∧
  (∀ w ∈ walk, ∀ x ∈ held, num w ≤ num x → ko_R sc w x) ∧ (∀ x ∈ held, ∃ y ∈ walk, num y ≤ num x ∧ ko_R sc x y) ∧
  (∀ v, num v ≠ 0 → ∀ i, i < td v → ∀ w, sc v i = some w → num w ≠ 0) ∧ (∀ v, num v ≠ 0 → v ∉ walk → 6 ≤ td v) ∧
  (∀ v, num v ≠ 0 → v ∉ held → ∀ w, ko_E sc v w → num w ≠ 0 ∧ w ∉ held) ∧
  (∀ w ∈ walk, low w ≤ num w ∧ ∃ z ∈ held, num z = low w ∧ ko_R sc w z) ∧
  (∀ w ∈ walk, ∀ x ∈ held, num w ≤ num x → (∀ w2 ∈ walk, num w < num w2 → num x < num w2) → ∀ i, i < td x → ∀ v, sc x i = some v → v ∈ held → low w ≤ num v)
def ko_U (f : Nat → Nat) (k x : Nat) : Nat → Nat := fun j => if j = k then x else f j
theorem ko_U_s (f : Nat → Nat) (k x : Nat) : ko_U f k x k = x := by simp [ko_U]
theorem ko_U_n (f : Nat → Nat) {k j : Nat} (x : Nat) (h : j ≠ k) : ko_U f k x j = f j := by simp [ko_U, h]
theorem ko_I_0 (sc : Nat → Nat → Option Nat) (low td : Nat → Nat) : ko_I sc (fun _ => 0) low td 0 [] [] := by
  refine ⟨fun _ => Nat.le_refl _, fun u v _ h => absurd rfl h, fun v h => (by cases h), List.Pairwise.nil, fun v h => (by cases h), List.Pairwise.nil, fun w h => (by cases h), fun x h => (by cases h), fun v h => absurd rfl h, fun v h => absurd rfl h, fun v h => absurd rfl h, fun w h => (by cases h), fun w h => (by cases h)⟩
/-- a step was tried and led nowhere new: no step, or to a node that is not held any more -/
theorem ko_I_skip {sc : Nat → Nat → Option Nat} {num low td : Nat → Nat} {cnt : Nat} {held walk : List Nat} {w : Nat} (h : ko_I sc num low td cnt held (w :: walk)) (ht : ∀ v, sc w (td w) = some v → num v ≠ 0 ∧ v ∉ held) :
    ko_I sc num low (ko_U td w (td w + 1)) cnt held (w :: walk) := by
  obtain ⟨i1, i2, i3, i4, i5, i6, i7, i8, i9, i10, i11, i12, i13⟩ := h
  refine ⟨i1, i2, i3, i4, i5, i6, i7, i8, ?_, ?_, i11, i12, ?_⟩
  · intro v hv i hi u hu
    by_cases e : v = w
    · subst e
      rw [ko_U_s] at hi
      by_cases e2 : i = td v
      · subst e2
        exact (ht u hu).1
      · exact i9 v hv i (by omega) u hu
    · rw [ko_U_n td _ e] at hi
      exact i9 v hv i hi u hu
  · intro v hv hw
    by_cases e : v = w
    · subst e
      exact absurd List.mem_cons_self hw
    · rw [ko_U_n td _ e]
      exact i10 v hv hw
  · intro u hu x hx h1 h2 i hi v hv hvh
    by_cases e : x = w
    · subst e
      rw [ko_U_s] at hi
      by_cases e2 : i = td x
      · subst e2
        exact absurd hvh (ht v hv).2
      · exact i13 u hu x hx h1 h2 i (by omega) v hv hvh
    · rw [ko_U_n td _ e] at hi
      exact i13 u hu x hx h1 h2 i hi v hv hvh
/-- a step was tried that leads to a node that is held -/
theorem ko_I_held {sc : Nat → Nat → Option Nat} {num low td : Nat → Nat} {cnt : Nat} {held walk : List Nat} {w v : Nat} (h : ko_I sc num low td cnt held (w :: walk)) (h6 : td w < 6) (hs : sc w (td w) = some v) (hv : v ∈ held) :
    ko_I sc num (ko_U low w (min (low w) (num v))) (ko_U td w (td w + 1)) cnt held (w :: walk) := by
  obtain ⟨i1, i2, i3, i4, i5, i6, i7, i8, i9, i10, i11, i12, i13⟩ := h
  have top : ∀ u ∈ walk, num u < num w := (List.pairwise_cons.mp i6).1
  have hle : ∀ u, ko_U low w (min (low w) (num v)) u ≤ low u := by
    intro u
    by_cases e : u = w
    · subst e
      rw [ko_U_s]
      exact Nat.min_le_left _ _
    · rw [ko_U_n low _ e]
      exact Nat.le_refl _
  refine ⟨i1, i2, i3, i4, i5, i6, i7, i8, ?_, ?_, i11, ?_, ?_⟩
  · intro u hu i hi x hx
    by_cases e : u = w
    · subst e
      rw [ko_U_s] at hi
      by_cases e2 : i = td u
      · subst e2
        cases hs.symm.trans hx
        exact i3 v hv
      · exact i9 u hu i (by omega) x hx
    · rw [ko_U_n td _ e] at hi
      exact i9 u hu i hi x hx
  · intro u hu hw
    by_cases e : u = w
    · subst e
      exact absurd List.mem_cons_self hw
    · rw [ko_U_n td _ e]
      exact i10 u hu hw
  · intro u hu
    obtain ⟨a1, z, z1, z2, z3⟩ := i12 u hu
    refine ⟨Nat.le_trans (hle u) a1, ?_⟩
    by_cases e : u = w
    · subst e
      rw [ko_U_s]
      by_cases e2 : low u ≤ num v
      · exact ⟨z, z1, by rw [Nat.min_eq_left e2]; exact z2, z3⟩
      · exact ⟨v, hv, by rw [Nat.min_eq_right (by omega)], (show ko_E sc u v from ⟨td u, h6, hs⟩).r⟩
    · rw [ko_U_n low _ e]
      exact ⟨z, z1, z2, z3⟩
  · intro u hu x hx h1 h2 i hi y hy hyh
    by_cases e : x = w
    · subst e
      rw [ko_U_s] at hi
      by_cases e2 : i = td x
      · subst e2
        cases hs.symm.trans hy
        by_cases e3 : u = x
        · subst e3
          rw [ko_U_s]
          exact Nat.min_le_right _ _
        · exfalso
          rcases List.mem_cons.mp hu with h | h
          · exact e3 h
          · exact Nat.lt_irrefl _ (h2 x List.mem_cons_self (top u h))
      · exact Nat.le_trans (hle u) (i13 u hu x hx h1 h2 i (by omega) y hy hyh)
    · rw [ko_U_n td _ e] at hi
      exact Nat.le_trans (hle u) (i13 u hu x hx h1 h2 i hi y hy hyh)
/-- a new node is entered: the first of a walk, or by a step of the walk's last -/
theorem ko_I_enter0 {sc : Nat → Nat → Option Nat} {num low td : Nat → Nat} {cnt v : Nat} (h : ko_I sc num low td cnt [] []) (hv : num v = 0) :
    ko_I sc (ko_U num v (cnt + 1)) (ko_U low v (cnt + 1)) (ko_U td v 0) (cnt + 1) [v] [v] := by
  obtain ⟨i1, i2, i3, i4, i5, i6, i7, i8, i9, i10, i11, i12, i13⟩ := h
  have nv : ∀ u, u ≠ v → ko_U num v (cnt + 1) u = num u := fun u hu => ko_U_n num _ hu
  have one : ∀ u ∈ [v], u = v := fun u hu => by simpa using hu
  refine ⟨fun u => ?_, fun u x hux hu => ?_, fun u hu => ?_, List.pairwise_singleton _ _, fun u hu => hu, List.pairwise_singleton _ _, fun u hu x hx _ => ?_, fun x hx => ?_, fun u hu i hi x hx => ?_, fun u hu hw => ?_, fun u hu hw x hx => ?_, fun u hu => ?_, fun u hu x hx _ _ i hi y hy hyh => ?_⟩
  · by_cases e : u = v
    · rw [e, ko_U_s]; exact Nat.le_refl _
    · rw [nv u e]; exact Nat.le_trans (i1 u) (Nat.le_succ _)
  · by_cases e : u = v
    · by_cases e2 : x = v
      · rw [e, e2]
      · rw [e, ko_U_s, nv x e2] at hux
        have := i1 x
        omega
    · by_cases e2 : x = v
      · rw [e2, ko_U_s, nv u e] at hux
        have := i1 u
        omega
      · rw [nv u e, nv x e2] at hux
        rw [nv u e] at hu
        exact i2 u x hux hu
  · rw [one u hu, ko_U_s]
    omega
  · rw [one u hu, one x hx]
    exact ko_R.rf v
  · exact ⟨v, List.mem_cons_self, by rw [one x hx]; exact Nat.le_refl _, by rw [one x hx]; exact ko_R.rf v⟩
  · by_cases e : u = v
    · rw [e, ko_U_s] at hi
      omega
    · rw [nv u e] at hu
      rw [ko_U_n td _ e] at hi
      have h1 := i9 u hu i hi x hx
      by_cases e2 : x = v
      · rw [e2, ko_U_s]; omega
      · rw [nv x e2]; exact h1
  · by_cases e : u = v
    · rw [e] at hw
      exact absurd List.mem_cons_self hw
    · rw [nv u e] at hu
      rw [ko_U_n td _ e]
      exact i10 u hu (fun q => by cases q)
  · by_cases e : u = v
    · rw [e] at hw
      exact absurd List.mem_cons_self hw
    · rw [nv u e] at hu
      have h1 := i11 u hu (fun q => by cases q) x hx
      have e2 : x ≠ v := fun q => by
        rw [q] at h1
        exact h1.1 hv
      exact ⟨by rw [nv x e2]; exact h1.1, fun q => e2 (one x q)⟩
  · rw [one u hu, ko_U_s, ko_U_s]
    exact ⟨Nat.le_refl _, v, List.mem_cons_self, ko_U_s _ _ _, ko_R.rf v⟩
  · rw [one x hx, ko_U_s] at hi
    omega
theorem ko_I_enter {sc : Nat → Nat → Option Nat} {num low td : Nat → Nat} {cnt : Nat} {held walk : List Nat} {w v : Nat} (h : ko_I sc num low td cnt held (w :: walk)) (h6 : td w < 6) (hs : sc w (td w) = some v) (hv : num v = 0) :
    ko_I sc (ko_U num v (cnt + 1)) (ko_U low v (cnt + 1)) (ko_U (ko_U td w (td w + 1)) v 0) (cnt + 1) (v :: held) (v :: w :: walk) := by
  obtain ⟨i1, i2, i3, i4, i5, i6, i7, i8, i9, i10, i11, i12, i13⟩ := h
  have nv : ∀ u, u ≠ v → ko_U num v (cnt + 1) u = num u := fun u hu => ko_U_n num _ hu
  have top : ∀ u ∈ walk, num u < num w := (List.pairwise_cons.mp i6).1
  have hwh : w ∈ held := i5 w List.mem_cons_self
  have nh : ∀ x ∈ held, x ≠ v := fun x hx q => by
    rw [q] at hx
    exact i3 v hx hv
  have nw : ∀ x ∈ w :: walk, x ≠ v := fun x hx => nh x (i5 x hx)
  have hwv : w ≠ v := nh w hwh
  have edge : ko_E sc w v := ⟨td w, h6, hs⟩
  have tdn : ∀ u, u ≠ v → u ≠ w → ko_U (ko_U td w (td w + 1)) v 0 u = td u := fun u h1 h2 => by rw [ko_U_n _ _ h1, ko_U_n _ _ h2]
  have tdw : ko_U (ko_U td w (td w + 1)) v 0 w = td w + 1 := by rw [ko_U_n _ _ hwv, ko_U_s]
  have tdv : ko_U (ko_U td w (td w + 1)) v 0 v = 0 := ko_U_s _ _ _
  refine ⟨fun u => ?_, fun u x hux hu => ?_, fun u hu => ?_, ?_, fun u hu => ?_, ?_, fun u hu x hx hle => ?_, fun x hx => ?_, fun u hu i hi x hx => ?_, fun u hu hw => ?_, fun u hu hw x hx => ?_, fun u hu => ?_, fun u hu x hx hle hseg i hi y hy hyh => ?_⟩
  · by_cases e : u = v
    · rw [e, ko_U_s]; exact Nat.le_refl _
    · rw [nv u e]; exact Nat.le_trans (i1 u) (Nat.le_succ _)
  · by_cases e : u = v
    · by_cases e2 : x = v
      · rw [e, e2]
      · rw [e, ko_U_s, nv x e2] at hux
        have := i1 x
        omega
    · by_cases e2 : x = v
      · rw [e2, ko_U_s, nv u e] at hux
        have := i1 u
        omega
      · rw [nv u e, nv x e2] at hux
        rw [nv u e] at hu
        exact i2 u x hux hu
  · rcases List.mem_cons.mp hu with rfl | h
    · rw [ko_U_s]; omega
    · rw [nv u (nh u h)]; exact i3 u h
  · refine List.pairwise_cons.mpr ⟨fun x hx => ?_, ?_⟩
    · rw [ko_U_s, nv x (nh x hx)]
      have := i1 x
      omega
    · refine i4.imp_of_mem (fun {a b} ha hb hab => ?_)
      rw [nv a (nh a ha), nv b (nh b hb)]
      exact hab
  · rcases List.mem_cons.mp hu with rfl | h
    · exact List.mem_cons_self
    · exact List.mem_cons_of_mem _ (i5 u h)
  · refine List.pairwise_cons.mpr ⟨fun x hx => ?_, ?_⟩
    · rw [ko_U_s, nv x (nw x hx)]
      have := i1 x
      omega
    · refine i6.imp_of_mem (fun {a b} ha hb hab => ?_)
      rw [nv a (nw a ha), nv b (nw b hb)]
      exact hab
  · rcases List.mem_cons.mp hx with rfl | h
    · rcases List.mem_cons.mp hu with rfl | h2
      · exact ko_R.rf _
      · refine (i7 u h2 w hwh ?_).snoc edge
        rcases List.mem_cons.mp h2 with rfl | h3
        · exact Nat.le_refl _
        · exact Nat.le_of_lt (top u h3)
    · rcases List.mem_cons.mp hu with rfl | h2
      · rw [ko_U_s, nv x (nh x h)] at hle
        have := i1 x
        omega
      · rw [nv u (nw u h2), nv x (nh x h)] at hle
        exact i7 u h2 x h hle
  · rcases List.mem_cons.mp hx with rfl | h
    · exact ⟨x, List.mem_cons_self, Nat.le_refl _, ko_R.rf x⟩
    · obtain ⟨y, y1, y2, y3⟩ := i8 x h
      exact ⟨y, List.mem_cons_of_mem _ y1, by rw [nv y (nw y y1), nv x (nh x h)]; exact y2, y3⟩
  · have key : u ≠ v → num x ≠ 0 ∨ x = v := by
      intro e
      rw [nv u e] at hu
      by_cases e2 : u = w
      · rw [e2, tdw] at hi
        rw [e2] at hx
        by_cases e3 : i = td w
        · rw [e3, hs] at hx
          exact Or.inr (Option.some.inj hx).symm
        · exact Or.inl (i9 w (i3 w hwh) i (by omega) x hx)
      · rw [tdn u e e2] at hi
        exact Or.inl (i9 u hu i hi x hx)
    by_cases e : u = v
    · rw [e, tdv] at hi
      omega
    · rcases key e with h1 | h1
      · by_cases e2 : x = v
        · rw [e2, ko_U_s]; omega
        · rw [nv x e2]; exact h1
      · rw [h1, ko_U_s]; omega
  · by_cases e : u = v
    · rw [e] at hw
      exact absurd List.mem_cons_self hw
    · rw [nv u e] at hu
      have e2 : u ≠ w := fun q => by
        rw [q] at hw
        exact hw (List.mem_cons_of_mem _ List.mem_cons_self)
      rw [tdn u e e2]
      exact i10 u hu (fun q => hw (List.mem_cons_of_mem _ q))
  · by_cases e : u = v
    · rw [e] at hw
      exact absurd List.mem_cons_self hw
    · rw [nv u e] at hu
      have h1 := i11 u hu (fun q => hw (List.mem_cons_of_mem _ q)) x hx
      have e2 : x ≠ v := fun q => by
        rw [q] at h1
        exact h1.1 hv
      refine ⟨by rw [nv x e2]; exact h1.1, fun q => ?_⟩
      rcases List.mem_cons.mp q with h2 | h2
      · exact e2 h2
      · exact h1.2 h2
  · rcases List.mem_cons.mp hu with rfl | h
    · rw [ko_U_s, ko_U_s]
      exact ⟨Nat.le_refl _, u, List.mem_cons_self, ko_U_s _ _ _, ko_R.rf u⟩
    · obtain ⟨a1, z, z1, z2, z3⟩ := i12 u h
      rw [ko_U_n low _ (nw u h), nv u (nw u h)]
      exact ⟨a1, z, List.mem_cons_of_mem _ z1, by rw [nv z (nh z z1)]; exact z2, z3⟩
  · by_cases e : x = v
    · rw [e, tdv] at hi
      omega
    · have hxh : x ∈ held := by
        rcases List.mem_cons.mp hx with h | h
        · exact absurd h e
        · exact h
      rcases List.mem_cons.mp hu with rfl | h
      · exfalso
        rw [ko_U_s, nv x e] at hle
        have := i1 x
        omega
      · rw [ko_U_n low _ (nw u h)]
        rw [nv u (nw u h), nv x e] at hle
        have lowu : low u ≤ num u := (i12 u h).1
        by_cases e2 : y = v
        · rw [e2, ko_U_s]
          have := i1 u
          omega
        · have hyh2 : y ∈ held := by
            rcases List.mem_cons.mp hyh with h2 | h2
            · exact absurd h2 e2
            · exact h2
          rw [nv y e2]
          refine i13 u h x hxh hle (fun w2 h2 h3 => ?_) i ?_ y hy hyh2
          · have h4 := hseg w2 (List.mem_cons_of_mem _ h2) (by rw [nv u (nw u h), nv w2 (nw w2 h2)]; exact h3)
            rw [nv x e, nv w2 (nw w2 h2)] at h4
            exact h4
          · by_cases e3 : x = w
            · rw [e3, tdw] at hi
              rw [e3]
              rw [e3] at hy
              by_cases e4 : i = td w
              · rw [e4, hs] at hy
                exact absurd (Option.some.inj hy).symm e2
              · omega
            · rw [tdn x e e3] at hi
              exact hi
/-- the walk's last node is left, and it is not the first of its set -/
theorem ko_I_merge {sc : Nat → Nat → Option Nat} {num low td : Nat → Nat} {cnt : Nat} {held walk : List Nat} {w : Nat} (h : ko_I sc num low td cnt held (w :: walk)) (h6 : 6 ≤ td w) (hl : low w < num w) :
    ∃ u rest, walk = u :: rest ∧ ko_I sc num (ko_U low u (min (low u) (low w))) td cnt held (u :: rest) := by
  obtain ⟨i1, i2, i3, i4, i5, i6, i7, i8, i9, i10, i11, i12, i13⟩ := h
  have top : ∀ u ∈ walk, num u < num w := (List.pairwise_cons.mp i6).1
  have hwh : w ∈ held := i5 w List.mem_cons_self
  obtain ⟨lw, z, z1, z2, z3⟩ := i12 w List.mem_cons_self
  obtain ⟨y, y1, y2, y3⟩ := i8 z z1
  have yw : y ∈ walk := by
    rcases List.mem_cons.mp y1 with e | e
    · rw [e] at y2; omega
    · exact e
  cases walk with
  | nil => cases yw
  | cons u rest =>
    have top2 : ∀ x ∈ rest, num x < num u := (List.pairwise_cons.mp (List.pairwise_cons.mp i6).2).1
    have uw : num u < num w := top u List.mem_cons_self
    refine ⟨u, rest, rfl, i1, i2, i3, i4, fun v hv => i5 v (List.mem_cons_of_mem _ hv), (List.pairwise_cons.mp i6).2, fun a ha => i7 a (List.mem_cons_of_mem _ ha), fun x hx => ?_, i9, fun v hv hw => ?_, i11, fun a ha => ?_, fun a ha x hx hle hseg i hi v hv hvh => ?_⟩
    · obtain ⟨b, b1, b2, b3⟩ := i8 x hx
      rcases List.mem_cons.mp b1 with e | e
      · rw [e] at b2 b3
        exact ⟨y, yw, by omega, b3.tr (z3.tr y3)⟩
      · exact ⟨b, e, b2, b3⟩
    · by_cases e : v = w
      · rw [e]; exact h6
      · refine i10 v hv (fun q => ?_)
        rcases List.mem_cons.mp q with h1 | h1
        · exact e h1
        · exact hw h1
    · obtain ⟨a1, z', b1, b2, b3⟩ := i12 a (List.mem_cons_of_mem _ ha)
      by_cases e : a = u
      · subst e
        rw [ko_U_s]
        refine ⟨Nat.le_trans (Nat.min_le_left _ _) a1, ?_⟩
        by_cases e2 : low a ≤ low w
        · exact ⟨z', b1, by rw [Nat.min_eq_left e2]; exact b2, b3⟩
        · exact ⟨z, z1, by rw [Nat.min_eq_right (by omega)]; exact z2, (i7 a (List.mem_cons_of_mem _ List.mem_cons_self) w hwh (Nat.le_of_lt uw)).tr z3⟩
      · rw [ko_U_n low _ e]
        exact ⟨a1, z', b1, b2, b3⟩
    · by_cases e : a = u
      · subst e
        rw [ko_U_s]
        by_cases e2 : num x < num w
        · refine Nat.le_trans (Nat.min_le_left _ _) (i13 a (List.mem_cons_of_mem _ ha) x hx hle (fun w2 h2 h3 => ?_) i hi v hv hvh)
          rcases List.mem_cons.mp h2 with h4 | h4
          · rw [h4]; exact e2
          · exact hseg w2 h4 h3
        · refine Nat.le_trans (Nat.min_le_right _ _) (i13 w List.mem_cons_self x hx (by omega) (fun w2 h2 h3 => ?_) i hi v hv hvh)
          exfalso
          rcases List.mem_cons.mp h2 with h4 | h4
          · rw [h4] at h3; omega
          · have := top w2 h4
            omega
      · rw [ko_U_n low _ e]
        have har : a ∈ rest := by
          rcases List.mem_cons.mp ha with h1 | h1
          · exact absurd h1 e
          · exact h1
        refine i13 a (List.mem_cons_of_mem _ ha) x hx hle (fun w2 h2 h3 => ?_) i hi v hv hvh
        rcases List.mem_cons.mp h2 with h4 | h4
        · rw [h4]
          exact Nat.lt_trans (hseg u List.mem_cons_self (top2 a har)) uw
        · exact hseg w2 h4 h3
/-- the walk's last node is left, and it is the first of its set: the set is let go; its nodes reach one another, and no other node reaches them and is reached -/
theorem ko_I_release {sc : Nat → Nat → Option Nat} {num low td : Nat → Nat} {cnt : Nat} {C rest walk : List Nat} {w : Nat} (h : ko_I sc num low td cnt (C ++ w :: rest) (w :: walk)) (h6 : 6 ≤ td w) (hl : low w = num w) :
    ko_I sc num low td cnt rest walk ∧ (∀ x ∈ C ++ [w], ∀ y, (ko_R sc x y ∧ ko_R sc y x) ↔ y ∈ C ++ [w]) := by
  obtain ⟨i1, i2, i3, i4, i5, i6, i7, i8, i9, i10, i11, i12, i13⟩ := h
  have top : ∀ u ∈ walk, num u < num w := (List.pairwise_cons.mp i6).1
  have hwh : w ∈ C ++ w :: rest := i5 w List.mem_cons_self
  obtain ⟨p1, p2, p3⟩ := List.pairwise_append.mp i4
  have upC : ∀ x ∈ C, num w < num x := fun x hx => p3 x hx w List.mem_cons_self
  have upR : ∀ x ∈ rest, num x < num w := (List.pairwise_cons.mp p2).1
  have inS : ∀ x, x ∈ C ++ w :: rest → num w ≤ num x → x ∈ C ++ [w] := by
    intro x hx hle
    rcases List.mem_append.mp hx with h1 | h1
    · exact List.mem_append_left _ h1
    · rcases List.mem_cons.mp h1 with h2 | h2
      · rw [h2]; exact List.mem_append_right _ List.mem_cons_self
      · have := upR x h2
        omega
  have Sle : ∀ x ∈ C ++ [w], num w ≤ num x := by
    intro x hx
    rcases List.mem_append.mp hx with h1 | h1
    · exact Nat.le_of_lt (upC x h1)
    · rw [List.mem_singleton.mp h1]; exact Nat.le_refl _
  have Sh : ∀ x ∈ C ++ [w], x ∈ C ++ w :: rest := by
    intro x hx
    rcases List.mem_append.mp hx with h1 | h1
    · exact List.mem_append_left _ h1
    · rw [List.mem_singleton.mp h1]; exact hwh
  have Snw : ∀ x ∈ C ++ [w], x ∉ walk := fun x hx hxw => by
    have := top x hxw
    have := Sle x hx
    omega
  have Std : ∀ x ∈ C ++ [w], 6 ≤ td x := by
    intro x hx
    by_cases e : x = w
    · rw [e]; exact h6
    · exact i10 x (i3 x (Sh x hx)) (fun q => by
        rcases List.mem_cons.mp q with h1 | h1
        · exact e h1
        · exact Snw x hx h1)
  -- a step from the set stays in it, or goes to a node that was let go before
  have step : ∀ x ∈ C ++ [w], ∀ y, ko_E sc x y → y ∈ C ++ [w] ∨ (num y ≠ 0 ∧ y ∉ C ++ w :: rest) := by
    intro x hx y hxy
    obtain ⟨i, hi, hs⟩ := hxy
    have h3 := i9 x (i3 x (Sh x hx)) i (Nat.lt_of_lt_of_le hi (Std x hx)) y hs
    by_cases hyh : y ∈ C ++ w :: rest
    · refine Or.inl (inS y hyh ?_)
      rw [← hl]
      refine i13 w List.mem_cons_self x (Sh x hx) (Sle x hx) (fun w2 h2 h4 => ?_) i (Nat.lt_of_lt_of_le hi (Std x hx)) y hs hyh
      exfalso
      rcases List.mem_cons.mp h2 with h5 | h5
      · rw [h5] at h4; omega
      · have := top w2 h5
        omega
    · exact Or.inr ⟨h3, hyh⟩
  have gone : ∀ a b, (num a ≠ 0 ∧ a ∉ C ++ w :: rest) → ko_E sc a b → (num b ≠ 0 ∧ b ∉ C ++ w :: rest) := fun a b ha hab => i11 a ha.1 ha.2 b hab
  have goneR : ∀ a b, (num a ≠ 0 ∧ a ∉ C ++ w :: rest) → ko_R sc a b → (num b ≠ 0 ∧ b ∉ C ++ w :: rest) := fun a b ha hab => ko_R.closed (S := fun z => num z ≠ 0 ∧ z ∉ C ++ w :: rest) gone hab ha
  have out : ∀ x ∈ C ++ [w], ∀ y, ko_R sc x y → y ∈ C ++ [w] ∨ (num y ≠ 0 ∧ y ∉ C ++ w :: rest) := by
    intro x hx y hxy
    refine ko_R.closed (S := fun z => z ∈ C ++ [w] ∨ (num z ≠ 0 ∧ z ∉ C ++ w :: rest)) (fun a b ha hab => ?_) hxy (Or.inl hx)
    rcases ha with ha | ha
    · exact step a ha b hab
    · exact Or.inr (gone a b ha hab)
  have toW : ∀ x ∈ C ++ [w], ko_R sc x w := by
    intro x hx
    obtain ⟨y, y1, y2, y3⟩ := i8 x (Sh x hx)
    rcases out x hx y y3 with h1 | h1
    · rcases List.mem_cons.mp y1 with e | e
      · rw [← e]; exact y3
      · exact absurd e (Snw y h1)
    · exact absurd (i5 y y1) h1.2
  have ofW : ∀ x ∈ C ++ [w], ko_R sc w x := fun x hx => i7 w List.mem_cons_self x (Sh x hx) (Sle x hx)
  refine ⟨⟨i1, i2, fun v hv => i3 v (List.mem_append_right _ (List.mem_cons_of_mem _ hv)), (List.pairwise_cons.mp p2).2, fun v hv => ?_, (List.pairwise_cons.mp i6).2, fun a ha x hx => i7 a (List.mem_cons_of_mem _ ha) x (List.mem_append_right _ (List.mem_cons_of_mem _ hx)), fun x hx => ?_, i9, fun v hv hw => ?_, fun v hv hvr x hx => ?_, fun a ha => ?_, fun a ha x hx hle hseg i hi v hv hvh => ?_⟩, fun x hx y => ⟨fun hy => ?_, fun hy => ⟨(toW x hx).tr (ofW y hy), (toW y hy).tr (ofW x hx)⟩⟩⟩
  · have h1 := i5 v (List.mem_cons_of_mem _ hv)
    have h2 := top v hv
    rcases List.mem_append.mp h1 with h3 | h3
    · have := upC v h3
      omega
    · rcases List.mem_cons.mp h3 with h4 | h4
      · rw [h4] at h2; omega
      · exact h4
  · obtain ⟨y, y1, y2, y3⟩ := i8 x (List.mem_append_right _ (List.mem_cons_of_mem _ hx))
    rcases List.mem_cons.mp y1 with e | e
    · rw [e] at y2
      have := upR x hx
      omega
    · exact ⟨y, e, y2, y3⟩
  · by_cases e : v = w
    · rw [e]; exact h6
    · exact i10 v hv (fun q => by
        rcases List.mem_cons.mp q with h1 | h1
        · exact e h1
        · exact hw h1)
  · have h0 : num x ≠ 0 ∧ (x ∈ C ++ [w] ∨ x ∉ C ++ w :: rest) := by
      by_cases hvS : v ∈ C ++ [w]
      · rcases step v hvS x hx with h1 | h1
        · exact ⟨i3 x (Sh x h1), Or.inl h1⟩
        · exact ⟨h1.1, Or.inr h1.2⟩
      · have hvn : v ∉ C ++ w :: rest := fun q => by
          rcases List.mem_append.mp q with h1 | h1
          · exact hvS (List.mem_append_left _ h1)
          · rcases List.mem_cons.mp h1 with h2 | h2
            · exact hvS (by rw [h2]; exact List.mem_append_right _ List.mem_cons_self)
            · exact hvr h2
        have h1 := i11 v hv hvn x hx
        exact ⟨h1.1, Or.inr h1.2⟩
    refine ⟨h0.1, fun q => ?_⟩
    rcases h0.2 with h1 | h1
    · have := Sle x h1
      have := upR x q
      omega
    · exact h1 (List.mem_append_right _ (List.mem_cons_of_mem _ q))
  · obtain ⟨a1, z, z1, z2, z3⟩ := i12 a (List.mem_cons_of_mem _ ha)
    refine ⟨a1, z, ?_, z2, z3⟩
    have h2 := top a ha
    rcases List.mem_append.mp z1 with h3 | h3
    · have := upC z h3
      omega
    · rcases List.mem_cons.mp h3 with h4 | h4
      · rw [h4] at z2; omega
      · exact h4
  · refine i13 a (List.mem_cons_of_mem _ ha) x (List.mem_append_right _ (List.mem_cons_of_mem _ hx)) hle (fun w2 h2 h3 => ?_) i hi v hv (List.mem_append_right _ (List.mem_cons_of_mem _ hvh))
    rcases List.mem_cons.mp h2 with h4 | h4
    · rw [h4]; exact upR x hx
    · exact hseg w2 h4 h3
  · rcases out x hx y hy.1 with h1 | h1
    · exact h1
    · exact absurd (Sh x hx) (goneR y x h1 hy.2).2
end
section
/-! WHERE A PATH CAN GO ON FOR EVER AND MEET EVERY GOAL AGAIN AND AGAIN: the greatest set, and the sets that all reach one another. Pure. -/
def gx_N (E : Nat → Nat → Prop) : Nat → Nat → Nat → Prop
  | 0, a, b => a = b
  | n + 1, a, b => ∃ c, E a c ∧ gx_N E n c b
def gx_R (E : Nat → Nat → Prop) (a b : Nat) : Prop := ∃ n, gx_N E n a b
def gx_P (E : Nat → Nat → Prop) (a b : Nat) : Prop := ∃ c, E a c ∧ gx_R E c b
theorem gx_R.rf {E : Nat → Nat → Prop} (a : Nat) : gx_R E a a := ⟨0, rfl⟩
theorem gx_N.tr {E : Nat → Nat → Prop} : ∀ (n : Nat) {m a b c : Nat}, gx_N E n a b → gx_N E m b c → gx_N E (n + m) a c
  | 0, m, a, b, c, h, h2 => by
    have e : a = b := h
    subst e
    rw [Nat.zero_add]
    exact h2
  | n + 1, m, a, b, c, h, h2 => by
    obtain ⟨d, h1, h3⟩ := h
    rw [show n + 1 + m = n + m + 1 by omega]
    exact ⟨d, h1, gx_N.tr n h3 h2⟩
theorem gx_R.tr {E : Nat → Nat → Prop} {a b c : Nat} (h : gx_R E a b) (h2 : gx_R E b c) : gx_R E a c := by
  obtain ⟨n, h⟩ := h
  obtain ⟨m, h2⟩ := h2
  exact ⟨n + m, gx_N.tr n h h2⟩
theorem gx_R.one {E : Nat → Nat → Prop} {a b : Nat} (h : E a b) : gx_R E a b := ⟨1, b, h, rfl⟩
theorem gx_R.cons {E : Nat → Nat → Prop} {a b c : Nat} (h : E a b) (h2 : gx_R E b c) : gx_R E a c := (gx_R.one h).tr h2
theorem gx_R.snoc {E : Nat → Nat → Prop} {a b c : Nat} (h : gx_R E a b) (h2 : E b c) : gx_R E a c := h.tr (gx_R.one h2)
theorem gx_P.r {E : Nat → Nat → Prop} {a b : Nat} (h : gx_P E a b) : gx_R E a b := by
  obtain ⟨c, h1, h2⟩ := h
  exact gx_R.cons h1 h2
theorem gx_P.tr {E : Nat → Nat → Prop} {a b c : Nat} (h : gx_P E a b) (h2 : gx_R E b c) : gx_P E a c := by
  obtain ⟨d, h1, h3⟩ := h
  exact ⟨d, h1, h3.tr h2⟩
theorem gx_R.trP {E : Nat → Nat → Prop} {a b c : Nat} (h : gx_R E a b) (h2 : gx_P E b c) : gx_P E a c := by
  obtain ⟨n, h⟩ := h
  cases n with
  | zero =>
    have e : a = b := h
    exact e ▸ h2
  | succ n =>
    obtain ⟨d, h1, h3⟩ := h
    exact ⟨d, h1, gx_R.tr ⟨n, h3⟩ h2.r⟩
theorem gx_R.mono {E E2 : Nat → Nat → Prop} (hE : ∀ a b, E a b → E2 a b) {a b : Nat} (h : gx_R E a b) : gx_R E2 a b := by
  obtain ⟨n, h⟩ := h
  induction n generalizing a with
  | zero => exact ⟨0, h⟩
  | succ n ih =>
    obtain ⟨c, h1, h2⟩ := h
    exact gx_R.cons (hE a c h1) (ih h2)
theorem gx_P.mono {E E2 : Nat → Nat → Prop} (hE : ∀ a b, E a b → E2 a b) {a b : Nat} (h : gx_P E a b) : gx_P E2 a b := by
  obtain ⟨c, h1, h2⟩ := h
  exact ⟨c, hE a c h1, h2.mono hE⟩
theorem gx_R.rev {E : Nat → Nat → Prop} {a b : Nat} (h : gx_R (fun x y => E y x) a b) : gx_R E b a := by
  obtain ⟨n, h⟩ := h
  induction n generalizing a with
  | zero =>
    have e : a = b := h
    exact e ▸ gx_R.rf a
  | succ n ih =>
    obtain ⟨c, h1, h2⟩ := h
    exact (ih h2).snoc h1
/-- a path all of whose ends reach b, where b is in a set that is closed backward, stays in the set -/
theorem gx_R.inside {E : Nat → Nat → Prop} {B : Nat → Prop} (hB : ∀ x y, E x y → B y → B x) {a b : Nat} (h : gx_R E a b) (hb : B b) : gx_R (fun x y => E x y ∧ B y) a b ∧ B a := by
  obtain ⟨n, h⟩ := h
  induction n generalizing a with
  | zero =>
    have e : a = b := h
    subst e
    exact ⟨gx_R.rf a, hb⟩
  | succ n ih =>
    obtain ⟨c, h1, h2⟩ := h
    obtain ⟨h3, h4⟩ := ih h2
    exact ⟨gx_R.cons ⟨h1, h4⟩ h3, hB a c h1 h4⟩
theorem gx_P.inside {E : Nat → Nat → Prop} {B : Nat → Prop} (hB : ∀ x y, E x y → B y → B x) {a b : Nat} (h : gx_P E a b) (hb : B b) : gx_P (fun x y => E x y ∧ B y) a b := by
  obtain ⟨c, h1, h2⟩ := h
  obtain ⟨h3, h4⟩ := gx_R.inside hB h2 hb
  exact ⟨c, ⟨h1, h4⟩, h3⟩
/-- how many below n -/
noncomputable def gx_C (p : Nat → Prop) : Nat → Nat
  | 0 => 0
  | n + 1 => gx_C p n + @ite Nat (p n) (Classical.propDecidable _) 1 0
theorem gx_C_le {p q : Nat → Prop} (h : ∀ x, p x → q x) : ∀ n, gx_C p n ≤ gx_C q n
  | 0 => Nat.le_refl _
  | n + 1 => by
    have h1 := gx_C_le h n
    unfold gx_C
    by_cases hp : p n
    · rw [if_pos hp, if_pos (h n hp)]
      omega
    · rw [if_neg hp]
      omega
theorem gx_C_lt {p q : Nat → Prop} (h : ∀ x, p x → q x) {v : Nat} (hq : q v) (hp : ¬ p v) : ∀ n, v < n → gx_C p n < gx_C q n
  | 0, hv => by omega
  | n + 1, hv => by
    unfold gx_C
    by_cases e : v = n
    · subst e
      have h1 := gx_C_le h v
      rw [if_neg hp, if_pos hq]
      omega
    · have h1 := gx_C_lt h hq hp n (by omega)
      by_cases hp2 : p n
      · rw [if_pos hp2, if_pos (h n hp2)]
        omega
      · rw [if_neg hp2]
        omega
theorem gx_C_all (n : Nat) (p : Nat → Prop) : gx_C p n ≤ n := by
  induction n with
  | zero => exact Nat.le_refl _
  | succ n ih =>
    unfold gx_C
    by_cases hp : p n
    · rw [if_pos hp]; omega
    · rw [if_neg hp]; omega
/-- a node of a set that all reach one another, with steps, and with every goal -/
def gx_K (E : Nat → Nat → Prop) (goal : Nat → Nat → Prop) (T v : Nat) : Prop := gx_P E v v ∧ ∀ k, k < T → ∃ u, gx_R E v u ∧ gx_R E u v ∧ goal k u
def gx_B (E : Nat → Nat → Prop) (goal : Nat → Nat → Prop) (T v : Nat) : Prop := ∃ w, gx_R E v w ∧ gx_K E goal T w
theorem gx_B_back {E : Nat → Nat → Prop} {goal : Nat → Nat → Prop} {T : Nat} : ∀ x y, E x y → gx_B E goal T y → gx_B E goal T x := by
  intro x y h h1
  obtain ⟨w, h2, h3⟩ := h1
  exact ⟨w, gx_R.cons h h2, h3⟩
theorem gx_B_one {E : Nat → Nat → Prop} {goal : Nat → Nat → Prop} {T v : Nat} (h : gx_B E goal T v) : ∃ w, E v w ∧ gx_B E goal T w := by
  obtain ⟨w, h1, h2⟩ := h
  obtain ⟨c, h3, h4⟩ := gx_R.trP h1 h2.1
  exact ⟨c, h3, w, h4, h2⟩
theorem gx_B_goal {E : Nat → Nat → Prop} {goal : Nat → Nat → Prop} {T v : Nat} (h : gx_B E goal T v) {k : Nat} (hk : k < T) : ∃ u, gx_P (fun x y => E x y ∧ gx_B E goal T y) v u ∧ goal k u := by
  obtain ⟨w, h1, h2⟩ := h
  obtain ⟨u, h3, h4, h5⟩ := h2.2 k hk
  refine ⟨u, gx_P.inside gx_B_back ((gx_R.trP h1 h2.1).tr h3) ⟨w, h4, h2⟩, h5⟩
/-- a set in which one can go on, and in it come to every goal: from it one reaches such a node -/
theorem gx_B_of {E : Nat → Nat → Prop} {goal : Nat → Nat → Prop} {T N : Nat} {F : Nat → Prop} (hN : ∀ v, F v → v < N) (h1 : ∀ v, F v → ∃ w, E v w ∧ F w) (h2 : ∀ k, k < T → ∀ v, F v → ∃ u, gx_P (fun x y => E x y ∧ F y) v u ∧ goal k u) : ∀ v, F v → gx_B E goal T v := by
  have main : ∀ (n v : Nat), gx_C (gx_R (fun x y => E x y ∧ F y) v) N ≤ n → F v → gx_B E goal T v := by
    intro n
    induction n with
    | zero =>
      intro v hc hv
      have h3 := gx_C_lt (p := fun _ => False) (q := gx_R (fun x y => E x y ∧ F y) v) (fun _ h => h.elim) (gx_R.rf v) (fun h => h) N (hN v hv)
      omega
    | succ n ih =>
      intro v hc hv
      by_cases hall : ∀ x, gx_R (fun x y => E x y ∧ F y) v x → gx_R (fun x y => E x y ∧ F y) x v
      · refine ⟨v, gx_R.rf v, ?_, fun k hk => ?_⟩
        · obtain ⟨w, h3, h4⟩ := h1 v hv
          exact ⟨w, h3, (hall w (gx_R.one ⟨h3, h4⟩)).mono (fun _ _ h => h.1)⟩
        · obtain ⟨u, h3, h4⟩ := h2 k hk v hv
          exact ⟨u, h3.r.mono (fun _ _ h => h.1), (hall u h3.r).mono (fun _ _ h => h.1), h4⟩
      · obtain ⟨x, hx⟩ := Classical.not_forall.mp hall
        obtain ⟨h3, h4⟩ := Classical.not_imp.mp hx
        have hF : F x := by
          obtain ⟨m, hm⟩ := h3
          clear hx h4 hc hall
          induction m generalizing v with
          | zero =>
            have e : v = x := hm
            exact e ▸ hv
          | succ m ihm =>
            obtain ⟨c, h5, h6⟩ := hm
            exact ihm c h5.2 h6
        have hlt := gx_C_lt (p := gx_R (fun x y => E x y ∧ F y) x) (q := gx_R (fun x y => E x y ∧ F y) v) (fun y h => h3.tr h) (gx_R.rf v) h4 N (hN v hv)
        obtain ⟨w, h5, h6⟩ := ih x (by omega) hF
        exact ⟨w, (h3.mono (fun _ _ h => h.1)).tr h5, h6⟩
  exact fun v hv => main _ v (Nat.le_refl _) hv
end
section
/-! Methods of a few rows: the class -/
/-- the answer says whether it holds -/
def zBo (p : Prop) (r : Option Value) : Prop := (p ∧ r = some (.int 1)) ∨ (¬ p ∧ r = some (.int 0))
theorem m_PC_length (σ : zS) : zM yPC_length cPC_length 1 (some .int) 0 0 0 [.ref 0] σ (fun r σ2 => r = some (.int (σ.1 0 1)) ∧ σ2 = σ) (fun _ _ => False) := by
  refine zM.of [some (.ref 0)] (by decide) 0 rfl (fun _ => Nat.le_of_ble_eq_true rfl) (fun Z hR => ?_)
  refine z_aload_n hR dPC_length_0 (n := 1) rfl rfl ?_
  refine z_getI hR dPC_length_1 (n := 4) rfl zgPC_67 (by decide) rfl rfl ?_
  refine z_zret hR dPC_length_4 rfl rfl (Nat.zero_le _) ?_
  exact ⟨rfl, rfl⟩
theorem m_PC_wipe (σ : zS) : zM yPC_wipe cPC_wipe 1 none 0 0 0 [.ref 0] σ (fun _ σ2 => σ2 = zwA σ 0 1 0) (fun _ _ => False) := by
  refine zM.of [some (.ref 0)] (by decide) 0 rfl (fun _ => Nat.le_of_ble_eq_true rfl) (fun Z hR => ?_)
  refine z_aload_n hR dPC_wipe_0 (n := 1) rfl rfl ?_
  refine z_iconst hR dPC_wipe_1 (v := 0) (n := 2) rfl rfl ?_
  refine z_putI hR dPC_wipe_2 (n := 5) rfl zpPC_67 (by decide) rfl rfl ?_
  refine z_vret hR dPC_wipe_5 rfl (Nat.zero_le _) ?_
  rfl
theorem m_PC_clear (σ : zS) : zM yPC_clear cPC_clear 1 none 0 0 0 [.ref 0] σ (fun _ σ2 => σ2 = zwA σ 8 1 0) (fun _ _ => False) := by
  refine zM.of [some (.ref 0)] (by decide) 0 rfl (fun _ => Nat.le_of_ble_eq_true rfl) (fun Z hR => ?_)
  refine z_aload_n hR dPC_clear_0 (n := 1) rfl rfl ?_
  refine z_getR hR dPC_clear_1 (n := 4) rfl zgPC_25 (by decide) rfl rfl ?_
  refine z_iconst hR dPC_clear_4 (v := 0) (n := 5) rfl rfl ?_
  refine z_putI hR dPC_clear_5 (n := 8) rfl zpPC_147 (by decide) rfl rfl ?_
  refine z_vret hR dPC_clear_8 rfl (Nat.zero_le _) ?_
  rfl
/-- is it a state: its number, or none -/
def zIs (s : Int32) (r : Option Value) : Prop := (∃ j : Nat, j < 6 ∧ s = nI j ∧ r = some (.int 1)) ∨ ((∀ j : Nat, j < 6 → s ≠ nI j) ∧ r = some (.int 0))
theorem zIs_no {s : Int32} (h : s < 0 ∨ nI 6 ≤ s) : ∀ j : Nat, j < 6 → s ≠ nI j := by
  intro j hj e
  subst e
  rcases h with h | h
  · exact nI_pos (by omega) h
  · exact nI_ge hj (by omega) h
theorem zIs_yes {s : Int32} (h1 : ¬ s < 0) (h7 : ¬ nI 6 ≤ s) : ∃ j : Nat, j < 6 ∧ s = nI j ∧ some (Value.int 1) = some (.int 1) := by
  rcases pk_ix s (n := 6) (by decide) with h | h | ⟨j, hj, e⟩
  · exact absurd h h1
  · exact absurd h h7
  · exact ⟨j, hj, e, rfl⟩
/-- a is linked to b, in the class's words -/
def zJ (σ : zS) (a b : Nat) : Prop := ((σ.1 44 a).toUInt32 >>> ((nI b).toUInt32 &&& Int32.toUInt32 31)).toInt32 &&& 1 = 1
theorem m_PC_isState (s : Int32) (σ : zS) : zM yPC_isState cPC_isState 1 (some .boolean) 0 0 0 [.int s] σ (fun r σ2 => σ2 = σ ∧ zIs s r) (fun _ _ => False) := by
  refine zM.of [some (.int s)] (by decide) 0 rfl (fun _ => Nat.le_of_ble_eq_true rfl) (fun Z hR => ?_)
  refine z_iload_n hR dPC_isState_0 (n := 1) rfl rfl ?_
  refine z_if_lt hR dPC_isState_1 (t := 14) (n := 4) rfl rfl (fun h1 => ?_) (fun h1 => ?_)
  · refine z_iconst hR dPC_isState_14 (v := 0) (n := 15) rfl rfl ?_
    refine z_zret hR dPC_isState_15 rfl rfl (Nat.zero_le _) ?_
    first | exact ⟨rfl, Or.inr ⟨zIs_no (Or.inl h1), rfl⟩⟩ | exact ⟨rfl, Or.inr ⟨zIs_no (Or.inr h7), rfl⟩⟩ | exact ⟨rfl, Or.inl (zIs_yes h1 h7)⟩
  · refine z_iload_n hR dPC_isState_4 (n := 5) rfl rfl ?_
    refine z_bipush hR dPC_isState_5 (v := 6) (n := 7) rfl rfl ?_
    refine z_icmp_ge hR dPC_isState_7 (t := 14) (n := 10) rfl rfl (fun h7 => ?_) (fun h7 => ?_)
    · refine z_iconst hR dPC_isState_14 (v := 0) (n := 15) rfl rfl ?_
      refine z_zret hR dPC_isState_15 rfl rfl (Nat.zero_le _) ?_
      first | exact ⟨rfl, Or.inr ⟨zIs_no (Or.inl h1), rfl⟩⟩ | exact ⟨rfl, Or.inr ⟨zIs_no (Or.inr h7), rfl⟩⟩ | exact ⟨rfl, Or.inl (zIs_yes h1 h7)⟩
    · refine z_iconst hR dPC_isState_10 (v := 1) (n := 11) rfl rfl ?_
      refine z_goto hR dPC_isState_11 (t := 15) rfl ?_
      refine z_zret hR dPC_isState_15 rfl rfl (Nat.zero_le _) ?_
      first | exact ⟨rfl, Or.inr ⟨zIs_no (Or.inl h1), rfl⟩⟩ | exact ⟨rfl, Or.inr ⟨zIs_no (Or.inr h7), rfl⟩⟩ | exact ⟨rfl, Or.inl (zIs_yes h1 h7)⟩
/-- the structure: marks at place 43, links at place 44 -/
theorem m_ST_joins (a b : Nat) (ha : a < 6) (hb : b < 6) (σ : zS) : zM yST_joins cST_joins 3 (some .boolean) 0 0 0 [.ref 42, .int (nI a), .int (nI b)] σ (fun r σ2 => σ2 = σ ∧ zBo (zJ σ a b) r) (fun _ _ => False) := by
  refine zM.of [some (.ref 42), some (.int (nI a)), some (.int (nI b))] (by decide) 0 rfl (fun _ => Nat.le_of_ble_eq_true rfl) (fun Z hR => ?_)
  refine z_aload_n hR dST_joins_0 (n := 1) rfl rfl ?_
  refine z_getR hR dST_joins_1 (n := 4) rfl zgST_15 (by decide) rfl rfl ?_
  refine z_iload_n hR dST_joins_4 (n := 5) rfl rfl ?_
  refine z_iald hR (a) dST_joins_5 (n := 6) rfl (by decide) rfl (by decide) rfl ha ?_
  refine z_iload_n hR dST_joins_6 (n := 7) rfl rfl ?_
  refine z_iushr hR dST_joins_7 (n := 8) rfl ?_
  refine z_iconst hR dST_joins_8 (v := 1) (n := 9) rfl rfl ?_
  refine z_iand hR dST_joins_9 (n := 10) rfl ?_
  refine z_iconst hR dST_joins_10 (v := 1) (n := 11) rfl rfl ?_
  refine z_icmp_ne hR dST_joins_11 (t := 18) (n := 14) rfl rfl (fun h11 => ?_) (fun h11 => ?_)
  · refine z_iconst hR dST_joins_18 (v := 0) (n := 19) rfl rfl ?_
    refine z_zret hR dST_joins_19 rfl rfl (Nat.zero_le _) ?_
    first | exact ⟨rfl, Or.inl ⟨h11, rfl⟩⟩ | exact ⟨rfl, Or.inr ⟨h11, rfl⟩⟩
  · refine z_iconst hR dST_joins_14 (v := 1) (n := 15) rfl rfl ?_
    refine z_goto hR dST_joins_15 (t := 19) rfl ?_
    refine z_zret hR dST_joins_19 rfl rfl (Nat.zero_le _) ?_
    first | exact ⟨rfl, Or.inl ⟨h11, rfl⟩⟩ | exact ⟨rfl, Or.inr ⟨h11, rfl⟩⟩
theorem m_PC_mark (s x : Int32) (σ : zS) : zM yPC_mark cPC_mark 3 (some .boolean) 1 20 0 [.ref 0, .int s, .int x] σ
    (fun r σ2 => (∃ j : Nat, j < 6 ∧ s = nI j ∧ ¬ x < 0 ∧ x ≤ 15 ∧ r = some (.int 1) ∧ σ2 = zwA (zwA σ 43 j x) 0 10 0) ∨ (((∀ j : Nat, j < 6 → s ≠ nI j) ∨ x < 0 ∨ ¬ x ≤ 15) ∧ r = some (.int 0) ∧ σ2 = σ)) (fun _ _ => False) := by
  refine zM.of [some (.ref 0), some (.int s), some (.int x)] (by decide) 0 rfl (fun _ => Nat.le_of_ble_eq_true rfl) (fun Z hR => ?_)
  refine z_iload_n hR dPC_mark_0 (n := 1) rfl rfl ?_
  refine z_callS1 hR dPC_mark_1 (n := 4) rfl zcPC_108 zkPC_isState (by decide) (Nat.le_of_ble_eq_true rfl) (Nat.zero_le _) (m_PC_isState s σ) (fun r1 s1 h1 => ?_)
  obtain ⟨rfl, h1 | h1⟩ := h1
  ·
    obtain ⟨j, hj, rfl, rfl⟩ := h1
    refine z_if_eq hR dPC_mark_4 (t := 17) (n := 7) rfl rfl (fun h4 => absurd h4 (by decide)) (fun _ => ?_)
    refine z_iload_n hR dPC_mark_7 (n := 8) rfl rfl ?_
    refine z_if_lt hR dPC_mark_8 (t := 17) (n := 11) rfl rfl (fun h8 => ?_) (fun h8 => ?_)
    · refine z_iconst hR dPC_mark_17 (v := 0) (n := 18) rfl rfl ?_
      refine z_zret hR dPC_mark_18 rfl rfl (Nat.zero_le _) ?_
      first | exact Or.inr ⟨Or.inr (Or.inl h8), rfl, rfl⟩ | exact Or.inr ⟨Or.inr (Or.inr h14), rfl, rfl⟩
    · refine z_iload_n hR dPC_mark_11 (n := 12) rfl rfl ?_
      refine z_bipush hR dPC_mark_12 (v := 15) (n := 14) rfl rfl ?_
      refine z_icmp_le hR dPC_mark_14 (t := 19) (n := 17) rfl rfl (fun h14 => ?_) (fun h14 => ?_)
      · refine z_aload_n hR dPC_mark_19 (n := 20) rfl rfl ?_
        refine z_getR hR dPC_mark_20 (n := 23) rfl zgPC_66 (by decide) rfl rfl ?_
        refine z_getR hR dPC_mark_23 (n := 26) rfl zgPC_112 (by decide) rfl rfl ?_
        refine z_iload_n hR dPC_mark_26 (n := 27) rfl rfl ?_
        refine z_iload_n hR dPC_mark_27 (n := 28) rfl rfl ?_
        refine z_iast hR (j) dPC_mark_28 (n := 29) rfl (by decide) rfl (by decide) rfl hj ?_
        refine z_aload_n hR dPC_mark_29 (n := 30) rfl rfl ?_
        refine z_iconst hR dPC_mark_30 (v := 0) (n := 31) rfl rfl ?_
        refine z_putZ hR dPC_mark_31 (n := 34) rfl zpPC_90 (by decide) rfl rfl (by first | exact Or.inl rfl | exact Or.inr rfl | assumption) ?_
        refine z_iconst hR dPC_mark_34 (v := 1) (n := 35) rfl rfl ?_
        refine z_zret hR dPC_mark_35 rfl rfl (Nat.zero_le _) ?_
        exact Or.inl ⟨j, hj, rfl, h8, h14, rfl, rfl⟩
      · refine z_iconst hR dPC_mark_17 (v := 0) (n := 18) rfl rfl ?_
        refine z_zret hR dPC_mark_18 rfl rfl (Nat.zero_le _) ?_
        first | exact Or.inr ⟨Or.inr (Or.inl h8), rfl, rfl⟩ | exact Or.inr ⟨Or.inr (Or.inr h14), rfl, rfl⟩
  ·
    obtain ⟨h1, rfl⟩ := h1
    refine z_if_eq hR dPC_mark_4 (t := 17) (n := 7) rfl rfl (fun _ => ?_) (fun h4 => absurd rfl h4)
    refine z_iconst hR dPC_mark_17 (v := 0) (n := 18) rfl rfl ?_
    refine z_zret hR dPC_mark_18 rfl rfl (Nat.zero_le _) ?_
    exact Or.inr ⟨Or.inl h1, rfl, rfl⟩
end
section
/-! A method with handlers: a call that may throw, and what is caught. The handlers' classes may be linked by the search itself. -/
section ZX
variable {E : CtlPost} {e : Env} {d : Bool} {acts : List Action} {s U : State} {f : JFrame} {b : Addr} {Q : Handler → Pre}
theorem zc_cold {x : ExceptionTableEntry} {t : List ExceptionTableEntry} {c : ClassId} {vm2 : Vm} {cell : Cell} (hx : covers x f.pc = true) (h0 : x.catchType ≠ 0) (hg : (Jvm.resolveClass f.method.cls x.catchType).Gives e.toSetting U.vm (.ok c) vm2) (hr : vm2.classReady f.method.cls x.catchType c) (hsz : vm2.classes.size ≤ U.vm.classes.size)
    (hcell : U.heap[b]? = some cell) (hobj : ∀ k, cell.vm ≠ .statics k) (hk : ∃ k, vm2.classes[cell.cls]? = some k) (hc : ∃ k, vm2.classes[c]? = some k) :
    wp (findHandler.go f b (x :: t)) Q E e d acts U ↔ if vm2.assignable cell.cls c = true then Q (.found x.handlerPc) d acts (U.setVm vm2) else wp (findHandler.go f b t) Q E e d acts (U.setVm vm2) := by
  obtain ⟨ha, ht⟩ := hg.op (op := VmOp.resolveClass f.method.cls x.catchType) rfl
  simp only [covers] at hx
  cases hfit : vm2.assignable cell.cls c <;>
    simp [findHandler.go, hx, h0, ha, ht, hsz, hcell, hobj, hk, hc, hfit, VmOp.dirties, VmOp.acts]
end ZX
def zFi (e : Env) (U : State) (f : JFrame) (b : Addr) (t : List ExceptionTableEntry) (h : Handler) (vm2 : Vm) : Prop := ∀ (Q : Handler → Pre) (E : CtlPost) (d : Bool) (acts : List Action), wp (findHandler.go f b t) Q E e d acts U ↔ Q h d acts (U.setVm vm2)
section ZY
variable {e : Env} {s U : State} {f : JFrame} {b : Addr} {args : Array Value} {own C C2 : String} {x : ExceptionTableEntry} {t : List ExceptionTableEntry} {cell : Cell}
theorem zc_one (hpl : e.platform.magicAccessors = ({} : Platform).magicAccessors) (hW : s.WarmedH U.vm) (hown : s.vm.findClass own = some f.method.cls) (hl : (Cond.classLink own x.catchType C).before args s = true) (hx : covers x f.pc = true) (h0 : x.catchType ≠ 0) (hcell : U.heap[b]? = some cell) (hvm : cell.vm = .none) (hcls : s.vm.findClass C2 = some cell.cls) :
    ∃ (c : ClassId) (vm2 : Vm), s.vm.findClass C = some c ∧ s.WarmedH vm2 ∧ ∀ (Q : Handler → Pre) (E : CtlPost) (d : Bool) (acts : List Action), wp (findHandler.go f b (x :: t)) Q E e d acts U ↔ if s.vm.assignable cell.cls c = true then Q (.found x.handlerPc) d acts (U.setVm vm2) else wp (findHandler.go f b t) Q E e d acts (U.setVm vm2) := by
  obtain ⟨c, hfc, hcl⟩ := Cond.classLink_spec hown hl e.platform hpl
  obtain ⟨hg₁, hwarm₁, hready₁⟩ := State.classEntry (e := e) hW hcl
  generalize U.vm.noted f.method.cls x.catchType (.cls c) = vm₁ at hg₁ hwarm₁ hready₁
  refine ⟨c, vm₁, hfc, hwarm₁, fun Q E d acts => ?_⟩
  have h1 := zc_cold (E := E) (d := d) (acts := acts) (Q := Q) (t := t) hx h0 hg₁ hready₁ (by rw [hwarm₁.2.1, hW.2.1]; exact Nat.le_refl _) hcell (fun k h => by rw [hvm] at h; cases h) (Vm.classAt_of_findClass (by rw [hwarm₁.alike.findClass]; exact hcls)) (Vm.classAt_of_findClass (by rw [hwarm₁.alike.findClass]; exact hfc))
  rw [hwarm₁.alike.assignable] at h1
  exact h1
theorem zc_take (hpl : e.platform.magicAccessors = ({} : Platform).magicAccessors) (hW : s.WarmedH U.vm) (hown : s.vm.findClass own = some f.method.cls) (hl : (Cond.classLink own x.catchType C).before args s = true) (hx : covers x f.pc = true) (h0 : x.catchType ≠ 0) (hcell : U.heap[b]? = some cell) (hvm : cell.vm = .none) (hcls : s.vm.findClass C = some cell.cls) (hca : (Cond.castable C C).before args s = true) :
    ∃ vm2 : Vm, s.WarmedH vm2 ∧ zFi e U f b (x :: t) (.found x.handlerPc) vm2 := by
  obtain ⟨c, vm2, hfc, hw, h1⟩ := zc_one (t := t) hpl hW hown hl hx h0 hcell hvm hcls
  obtain ⟨c3, c4, hc3, hc4, hasg⟩ := Cond.castable_spec hca
  cases hc3.symm.trans hc4
  cases hc3.symm.trans hfc
  cases hc3.symm.trans hcls
  refine ⟨vm2, hw, fun Q E d acts => ?_⟩
  rw [h1, if_pos hasg]
theorem zc_pass {h : Handler} (hpl : e.platform.magicAccessors = ({} : Platform).magicAccessors) (hW : s.WarmedH U.vm) (hown : s.vm.findClass own = some f.method.cls) (hl : (Cond.classLink own x.catchType C).before args s = true) (hx : covers x f.pc = true) (h0 : x.catchType ≠ 0) (hcell : U.heap[b]? = some cell) (hvm : cell.vm = .none) (hcls : s.vm.findClass C2 = some cell.cls) (hnc : va_Nc C2 C s)
    (rest : ∀ U2 : State, U2.heap = U.heap → s.WarmedH U2.vm → ∃ vm2 : Vm, s.WarmedH vm2 ∧ zFi e U2 f b t h vm2) : ∃ vm2 : Vm, s.WarmedH vm2 ∧ zFi e U f b (x :: t) h vm2 := by
  obtain ⟨c, vm1, hfc, hw, h1⟩ := zc_one (t := t) hpl hW hown hl hx h0 hcell hvm hcls
  obtain ⟨c3, c4, hc3, hc4, hasg⟩ := hnc
  cases hc3.symm.trans hcls
  cases hc4.symm.trans hfc
  obtain ⟨vm2, hw2, h2⟩ := rest (U.setVm vm1) rfl hw
  refine ⟨vm2, hw2, fun Q E d acts => ?_⟩
  rw [h1, if_neg (by rw [hasg]; decide)]
  exact h2 Q E d acts
theorem zc_step {r : List Frame} {vm2 : Vm} {pc : Nat} (hfind : ∀ (Q : Handler → Pre) (E : CtlPost) (d : Bool) (acts : List Action), wp (findHandler f b) Q E e d acts s ↔ Q (.found pc) d acts (s.setVm vm2)) :
    (stepThrowing e s b (.java f :: r)).Is ((s.setVm vm2).setFrames (.java { f with pc := pc, stack := [.ref b] } :: r)) [] := by
  simp only [stepThrowing, searchFrame, vmDo]
  generalize hr : Sem.go _ e false [] s = res
  obtain ⟨as, rfl, ha⟩ := Sem.eq_ok_of hr (a := Handler.found pc) (s' := s.setVm vm2) (acts' := []) (by simp [hfind _ _ _ _])
  exact ⟨rfl, ha⟩
theorem zc_caught {tb : Tables} {T target : State} {g : JFrame} {c : Code} {below : List Frame} {meth : Method} {vm2 : Vm} {pc : Nat} (h : At T g.method c below) (hm : T.vm.method? g.method = some meth) (hc : meth.code = some c) (hfind : zFi e ((T.setTop g).pushFrame (.throwing b)) g b c.exceptionTable.toList (.found pc) vm2)
    (hrest : Steps tb e below ((T.setVm vm2).setTop { g with pc := pc, stack := [.ref b] }) target) : Steps tb e below ((T.setTop g).pushFrame (.throwing b)) target := by
  obtain ⟨hgo, hw⟩ := h.throwing b
  refine Steps.head hgo hw ?_
  have hf2 : ∀ (Q : Handler → Pre) (E : CtlPost) (d : Bool) (acts : List Action), wp (findHandler g b) Q E e d acts ((T.setTop g).pushFrame (.throwing b)) ↔ Q (.found pc) d acts (((T.setTop g).pushFrame (.throwing b)).setVm vm2) := fun Q E d acts =>
    (W.findHandler_eq (by simpa [State.pushFrame, State.setFrames] using hm) hc).trans (hfind Q E d acts)
  rw [stepThread_throwing (frames_entered h.top _), (zc_step (s := (T.setTop g).pushFrame (.throwing b)) hf2).1]
  obtain ⟨g₀, hg⟩ := Option.isSome_iff_exists.mp h.top
  obtain ⟨r, hr⟩ := State.topJava?_eq_some.mp hg
  have hr2 : (T.setVm vm2).frames = .java g₀ :: r := hr
  rw [State.setTop_of_frames _ hr2] at hrest
  rw [State.pushFrame, State.setTop_of_frames _ hr, State.setFrames_setFrames]
  show Steps tb e below (((T.setVm vm2).setFrames _).setFrames _) target
  rw [State.setFrames_setFrames, hr]
  exact hrest
end ZY
end
section
/-! Calls of methods that may throw; methods with handlers -/
section ZI
variable {p : Program} {l : Launch} {e : Env} {R : Room} {s : State} {m : MethodId} {args : Array Value} {below : List Frame} {meth : Method} {c : Code} {U : State} {Ls : List Loc} {c0 s0 : Nat} {D : va_G} {ad : Nat → Nat} {ca : Nat → ClassId}
abbrev zAft (U t : State) : State := ({ U with heap := t.heap, slotsUsed := t.slotsUsed } : State).setVm t.vm
theorem z_invoke (X : Stand p l e R s m args below meth c U Ls c0 s0) {y : MethodName} {nLY frY loY mcY len : Nat} {av : List Value} {σ : zS} {po2 : Option Value → zS → Prop} {pt2 : Nat → zS → Prop} {hd : Cond} (hM : ∀ sz, MetFree l y (headSpec (hd :: zwd) (zrm frY loY mcY)) (va_Pc (av.map (zv ad)) (fun U => U.heap.size = sz ∧ zW D ad ca σ U)) (fun _ _ _ _ _ => True) (fun _ st o t => zQc D ad ca (va_A (zws ad ca σ) sz) st po2 pt2 o t ∧ ∃ L, zFE st t L mcY (6 * mcY) ∧ ∀ q ∈ L, va_A (zws ad ca σ) sz q.base)) {g : JFrame} {ig : Instr} {mk : MethodId} (hmk : ∃ methY cY, U.vm.method? mk = some methY ∧ methY.code = some cY ∧ cY.maxLocals = nLY) (hg : g.method = m) (hsize : g.locals.size = c.maxLocals) (hdg : decode c.code g.pc = .ok (ig, len)) (hw : 2 * g.monitorRoom + (g.stack.map fun v => v.category).sum ≤ 8) (hn : U.methodNamed? y = some mk)
    (hws : ∀ w ∈ hd :: zwd, w.before (av.map (zv ad)).toArray U = true) (hini : (Cond.initialized y.cls).before (av.map (zv ad)).toArray U = true) (hfr : frY + 1 ≤ R.frames ∧ 8 + (nLY + 11) + loY ≤ R.locals) (hcs : c0 + mcY ≤ R.cells ∧ s0 + 6 * mcY ≤ R.slots) (hz : zW D ad ca σ U) :
    ∃ (t : State) (L : List Loc), (∀ q ∈ L, va_A (zws ad ca σ) U.heap.size q.base) ∧ va_F (va_A (zws ad ca σ) U.heap.size) U t ∧ Stand p l e R s m args below meth c (zAft U t) (Ls ++ L) (c0 + mcY) (s0 + 6 * mcY) ∧
      ((∃ (r : Option Value) (σ2 : zS), zRv r ∧ po2 r σ2 ∧ va_P D vwCl (zws ad ca σ2) t.heap ∧ Steps p.tables e below (doInvoke e (U.setTop g) [] mk (av.map (zv ad)).toArray).1 ((zAft U t).setTop { g with pc := g.pc + len, stack := r.toList ++ g.stack })) ∨
       ∃ (x : Nat) (b : Addr) (cell : Cell) (σ2 : zS), pt2 x σ2 ∧ va_P D vwCl (zws ad ca σ2) t.heap ∧ U.heap.size ≤ b ∧ t.heap[b]? = some cell ∧ cell.vm = .none ∧ U.vm.findClass (zxc x) = some cell.cls ∧ Steps p.tables e below (doInvoke e (U.setTop g) [] mk (av.map (zv ad)).toArray).1 (((zAft U t).setTop g).pushFrame (.throwing b))) := by
  obtain ⟨methY, cY, hmY, hcY, hlY⟩ := hmk
  obtain ⟨kY, hkY, -⟩ := className_of_methodNamed hn
  have hinitY : kY.init = .initialized := Cond.initialized_spec (findClass_of_methodNamed hn) hkY hini
  have h : At U g.method c below := by rw [hg]; exact X.here
  have happ : (headSpec (hd :: zwd) (zrm frY loY mcY)).appliesLoose y e.platform (U.calling g mk (av.map (zv ad)).toArray) = true :=
    Spec.appliesLoose_calling (g := g) h hdg hn hkY hinitY (X.room_calling (g := g) (R' := zrm frY loY mcY) hsize hmY hcY hfr.1 (by rw [hlY]; have := hfr.2; show _ + (nLY + 11) + loY ≤ _; omega) hcs.1 hcs.2) (atoms_intro hws)
  obtain ⟨mid, hmid⟩ := h.above
  have hfrm : (U.setTop g).frames = (.java g :: mid) ++ below := by rw [State.frames_setTop' g h.top, hmid]; rfl
  obtain ⟨o, s₂, hsteps, -, hend, hq⟩ := Steps.callFree (hM U.heap.size) p X.admits X.cas X.clock (acts := []) hfrm happ (zW.blind (ad := ad) (av := av.map (zv ad)) (σ := σ) (D := D) (ca := ca) (sz := U.heap.size) _ U g mk ⟨rfl, rfl, hz⟩) trivial
  rw [State.frames_setTop' g h.top] at hend
  have hq' : zQc D ad ca (va_A (zws ad ca σ) U.heap.size) (U.calling g mk (av.map (zv ad)).toArray) po2 pt2 o s₂ ∧ ∃ L, zFE (U.calling g mk (av.map (zv ad)).toArray) s₂ L mcY (6 * mcY) ∧ ∀ q ∈ L, va_A (zws ad ca σ) U.heap.size q.base := hq
  obtain ⟨⟨hF, hq⟩, L, ⟨hW₂, e2, q2, q3, q4, q5, q6⟩, hL⟩ := hq'
  have e3 : s₂ = ({ (U.calling g mk (av.map (zv ad)).toArray).setFrames s₂.frames with heap := s₂.heap, slotsUsed := s₂.slotsUsed } : State).setVm s₂.vm := by
    have : s₂ = ({ s₂ with vm := (U.calling g mk (av.map (zv ad)).toArray).vm } : State).setVm s₂.vm := rfl
    rw [e2] at this
    exact this
  have hW' : U.WarmedH s₂.vm := hW₂
  obtain ⟨g₀, hg0⟩ := Option.isSome_iff_exists.mp h.top
  obtain ⟨r0, hr0⟩ := State.topJava?_eq_some.mp hg0
  have hsame : U.sameButNew ({ U with heap := s₂.heap, slotsUsed := s₂.slotsUsed } : State) L mcY (6 * mcY) := by
    refine ⟨?_, q2, q3, q4, q5, q6⟩
    obtain ⟨t, ht, -⟩ := State.frames_cons hr0
    show ({ U with heap := s₂.heap, slotsUsed := s₂.slotsUsed } : State) = { U.setFrames U.frames with heap := s₂.heap, slotsUsed := s₂.slotsUsed }
    rw [State.setFrames_self ht]
  have hr' : (zAft U s₂).frames = .java g₀ :: r0 := hr0
  have hX : Stand p l e R s m args below meth c (zAft U s₂) (Ls ++ L) (c0 + mcY) (s0 + 6 * mcY) :=
    ⟨X.admits, X.cas, X.clock, X.frames, X.room, X.hears, X.method, X.code, (X.here.setHeapUsed s₂.heap s₂.slotsUsed).setVm hW'.alike, X.tail, State.WarmedH.trans X.warmed hW', X.limits, X.bytes, X.same.trans (hsame.setVm s.vm)⟩
  refine ⟨s₂, L, hL, hF, hX, ?_⟩
  rcases hq with ⟨r, σ2, ho, hrv, hpo, hP2⟩ | ⟨x, b, cell, σ2, ho, hpt, hP2, hb, hcell, hvm, hcls⟩
  · subst ho
    obtain ⟨c₂, i₂, len₂, hc₂, hd₂, hf₂⟩ := hend
    have hcc : c₂ = c := by
      have h1 : s₂.code? g.method = U.code? g.method := by
        rw [State.code?_eq, State.code?_eq, hW'.alike.method?]
      exact Option.some.inj (hc₂.symm.trans (h1.trans h.code))
    subst hcc
    have hlen : len₂ = len := by rw [hdg] at hd₂; cases hd₂; rfl
    subst hlen
    have hs₂ : s₂ = (zAft U s₂).setTop { g with pc := g.pc + len₂, stack := r.toList ++ g.stack } := by
      refine e3.trans ?_
      rw [hf₂, State.calling_eq h.top, State.setFrames_setFrames, State.setTop_of_frames _ hr', hr0]
      rfl
    refine Or.inl ⟨r, σ2, hrv, hpo, hP2, ?_⟩
    rw [← hs₂]
    exact hsteps
  · subst ho
    have hf₂ : s₂.frames = .throwing b :: .java g :: U.frames.tail := hend
    have hs₂ : s₂ = ((zAft U s₂).setTop g).pushFrame (.throwing b) := by
      refine e3.trans ?_
      rw [hf₂, State.calling_eq h.top, State.setFrames_setFrames, State.pushFrame, State.frames_setTop _ hr', State.setTop_of_frames _ hr', State.setFrames_setFrames, hr0]
      rfl
    refine Or.inr ⟨x, b, cell, σ2, hpt, hP2, hb, hcell, hvm, hcls, ?_⟩
    rw [← hs₂]
    exact hsteps
end ZI
section ZV
variable {own : String} {cc : ByteArray} {nL fr lo mc : Nat} {ex : List ExceptionTableEntry} {ret : Option FieldType} {po : Option Value → zS → Prop} {pt : Nat → zS → Prop} {Z : Nat → Nat → List (Option Value) → List Value → zS → Prop}
/-- which handler takes the exception x at this pc: the entries before it are passed -/
def zTk (own : String) (pc : Nat) : List ExceptionTableEntry → Nat → Nat → Prop
  | [], _, _ => False
  | h :: t, x, hp => covers h pc = true ∧ h.catchType ≠ 0 ∧ ∃ y : Nat, Cond.classLink own h.catchType (zxc y) ∈ zwd ∧ ((y = x ∧ Cond.castable (zxc x) (zxc x) ∈ zNst ∧ h.handlerPc = hp) ∨ ((zxc x, zxc y) ∈ zNc ∧ zTk own pc t x hp))
theorem zTk_find {e : Env} {s : State} {args : Array Value} {f : JFrame} {b : Addr} {cell : Cell} {A : Nat → Prop} {H : Heap} {t0 : Nat} (hpl : e.platform.magicAccessors = ({} : Platform).magicAccessors) (hown : s.vm.findClass own = some f.method.cls) (hts : ∀ w ∈ zwd, w.before args s = true) (hE : zEn s H A t0) {x : Nat} (hvm : cell.vm = .none) (hcls : s.vm.findClass (zxc x) = some cell.cls) :
    ∀ (t : List ExceptionTableEntry) (hp : Nat) (U : State), zTk own f.pc t x hp → s.WarmedH U.vm → U.heap[b]? = some cell → ∃ vm2 : Vm, s.WarmedH vm2 ∧ zFi e U f b t (.found hp) vm2 := by
  intro t
  induction t with
  | nil => intro hp U h; exact h.elim
  | cons h t ih =>
    intro hp U hk hW hcell
    obtain ⟨h1, h2, y, h3, h4⟩ := hk
    rcases h4 with ⟨rfl, h5, rfl⟩ | ⟨h5, h6⟩
    · exact zc_take hpl hW hown (hts _ h3) h1 h2 hcell hvm hcls (va_Nw.use rfl (hE.1 _ h5))
    · exact zc_pass hpl hW hown (hts _ h3) h1 h2 hcell hvm hcls (hE.2.2.2.2.2.1 _ h5) (fun U2 e1 w => ih hp U2 h6 w (by rw [e1]; exact hcell))
theorem zLv_none {ls : Array Slot} {nL : Nat} {ad : Nat → Nat} {lv : List (Option Value)} {i : Nat} {v : Value} (h : lv_has ls nL ((i, v) :: (zLv ad 0 lv).filter (fun q => !(q.1 == i) && !(q.1 + 1 == i && q.2.category == 2)))) (ho : zLok lv i = true) : lv_has ls nL (zLv ad 0 (lv.set i none)) := by
  refine ⟨h.1, h.2.1, fun q hq => ?_⟩
  obtain ⟨j, w, rfl, hw⟩ := zLv_of ad _ _ _ hq
  apply h.2.2
  rw [List.getElem?_set] at hw
  by_cases e : i = j
  · subst e
    rw [if_pos rfl] at hw
    split at hw
    · cases hw
    · cases hw
  · rw [if_neg e] at hw
    refine List.mem_cons_of_mem _ (List.mem_filter.mpr ⟨zLv_mem ad _ 0 _ _ hw, ?_⟩)
    have h1 : (0 + j == i) = false := by simp; omega
    by_cases e2 : j + 1 = i
    · subst e2
      rw [h1, zLok_cat (ad := ad) ho hw, Bool.and_false]
      rfl
    · have h2 : (0 + j + 1 == i) = false := by simp; omega
      rw [h1, h2]
      rfl
/-- a call of a method that may throw what this method's handlers take: 'astore' is each handler's first row -/
theorem z_callVT (hR : zR own cc nL fr lo mc ex ret po pt Z) {k pc n i o ci N nLY frY loY mcY : Nat} {lv : List (Option Value)} {st : List Value} {σ : zS} {y : MethodName} {ccY : ByteArray} {retY : Option FieldType} {T : u_T} {rs : List (Option Nat)} {av : List Value} {po2 : Option Value → zS → Prop} {pt2 : Nat → zS → Prop}
    (d : decode cc pc = .ok (.invokevirtual i, 3)) (hn : pc + 3 = n) (hC : zCV own i y av.length) (hcd : Cond.code y ccY nLY retY ∈ zwd) (hf : frY + 1 ≤ fr ∧ 8 + (nLY + 11) + loY ≤ lo) (hw : (st.map fun v => v.category).sum ≤ 8) (ho : o < zN) (hs : zsh o = .inr (ci, rs)) (hcl : vwCl[ci]? = some (y.cls, T, N)) (hk : k + mcY ≤ mc)
    (hM : zM y ccY nLY retY frY loY mcY (.ref o :: av) σ po2 pt2) (kk : ∀ r σ2, po2 r σ2 → Z (k + mcY) n lv (r.toList ++ st) σ2)
    (kt : ∀ x σ2, pt2 x σ2 → ∃ (hp : Nat) (j : Fin 4), zTk own pc ex x hp ∧ decode cc hp = .ok (.astore_n j, 1) ∧ (j : Nat) < nL ∧ zLok lv j = true ∧ Z (k + mcY) (hp + 1) (lv.set j none) [] σ2) : Z k pc lv (av.reverse ++ .ref o :: st) σ := by
  obtain ⟨p, l, e, R, s, m, args, below, meth, c, D, ad, ca, A, hx, hb, hml, hown, hts, hE, hK, hD, hA, hret, hlk, hfr, hlo, hmc, htr, hex, hAc, rfl⟩ := hR
  intro ls H locs hl hP hS
  subst hn
  have est : (av.reverse ++ .ref o :: st).map (zv ad) = (av.map (zv ad)).reverse ++ .ref (ad o) :: st.map (zv ad) := by simp [zv]
  have hw2 : ((st.map (zv ad)).map fun v => v.category).sum ≤ 8 := by
    rw [List.map_map]
    have e9 : ((fun v : Value => v.category) ∘ zv ad) = fun v => v.category := funext fun v => zv_cat ad v
    rw [e9]
    exact hw
  obtain ⟨⟨hini, hd⟩, hin, hse, hlink⟩ := hC
  rw [est]
  intro T0 hT0 X
  have hpl : e.platform.magicAccessors = ({} : Platform).magicAccessors := by rw [X.admits.platform]
  have hgd : ∀ w ∈ Cond.code y ccY nLY retY :: zwd, ∀ (a2 : Array Value) (U : State), s.WarmedH U.vm → w.before a2 U = true := pay_in hts (zGoodIn hcd)
  obtain ⟨cellB, hcB, hoB, hclB⟩ := va_recv hK hP hcl (zws_obj ho hs)
  -- the instruction's own step
  have hgo : ∃ (mk : MethodId) (vm₁ : Vm), s.methodNamed? y = some mk ∧ s.WarmedH vm₁ ∧ (∀ target, (∀ acts, Steps p.tables e below (doInvoke e ((T0.setVm vm₁).setTop (F0 m pc ls (st.map (zv ad)))) acts mk (Value.ref (ad o) :: av.map (zv ad)).toArray).1 target) → Steps p.tables e below (T0.setTop (F0 m pc ls ((av.map (zv ad)).reverse ++ .ref (ad o) :: st.map (zv ad)))) target) := by
    obtain ⟨mk, methM, hnamed, hmethM, hstM, habM⟩ := Cond.instanceMethod_spec (hts _ hin)
    obtain ⟨methM', cM, hmethM', -, -, -, -, -, -, hsigM⟩ := Cond.code_spec hnamed (hts _ hcd)
    cases hmethM.symm.trans hmethM'
    obtain ⟨c2, r2, m2, q1, q2, q3, q4, kP, hkP, hkPi⟩ := Cond.selects_spec (hts _ hse)
    cases hclB.symm.trans q1
    cases (State.methodFound?_of_named hnamed ⟨hd.1, hd.2.1⟩).symm.trans q2
    cases hnamed.symm.trans q3
    have hselP : selectMethod e.platform s.vm cellB.cls mk = .method mk := by rw [Launch.admits_selectMethod X.admits]; exact q4
    have hlen : (av.map (zv ad)).length = methM.sig.parameters.length := by
      have h2 := hd.2.2
      rw [hsigM] at h2
      simp at h2
      simp [h2]
    rcases hlink with hlink | ⟨host, hlink⟩
    · obtain ⟨vm₁, X₁, hstep₁⟩ := X.invokevirtual hx hown (hts _ hlink) hnamed hmethM hstM hkP hkPi ⟨hd.1, hd.2.1⟩ (a := ad o) (cell := cellB) (by rw [hT0]; exact hcB)
        (fun z h => by rw [h] at hoB; cases hoB) hselP hmethM habM hkP hkPi (g := F0 m pc ls ((av.map (zv ad)).reverse ++ .ref (ad o) :: st.map (zv ad))) rfl (argsL := av.map (zv ad)) (rest := st.map (zv ad)) hlen rfl (by rw [hb]; exact d)
      exact ⟨mk, vm₁, hnamed, X₁.warmed, fun target h => hstep₁ target h⟩
    · obtain ⟨vm₁, X₁, hstep₁⟩ := X.invokevirtualNest hx hown (va_Nw.use rfl (hE.1 _ hlink)) hnamed hmethM hstM hkP hkPi ⟨hd.1, hd.2.1⟩ (a := ad o) (cell := cellB) (by rw [hT0]; exact hcB)
        (fun z h => by rw [h] at hoB; cases hoB) hselP hmethM habM hkP hkPi (g := F0 m pc ls ((av.map (zv ad)).reverse ++ .ref (ad o) :: st.map (zv ad))) rfl (argsL := av.map (zv ad)) (rest := st.map (zv ad)) hlen rfl (by rw [hb]; exact d)
      exact ⟨mk, vm₁, hnamed, X₁.warmed, fun target h => hstep₁ target h⟩
  obtain ⟨mk, vm₁, hnamed, hW1, hstep⟩ := hgo
  have X₁ := X.noted hW1
  have hmk1 : ∃ methY cY, (T0.setVm vm₁).vm.method? mk = some methY ∧ methY.code = some cY ∧ cY.maxLocals = nLY := by
    obtain ⟨methY, cY, hmY, hcY, -, hlY, -, -, -, -⟩ := Cond.code_spec (X₁.named hnamed) (hgd _ List.mem_cons_self #[] _ hW1)
    exact ⟨methY, cY, hmY, hcY, hlY⟩
  have hzW : zW D ad ca σ (T0.setVm vm₁) := zW_at hE hK (hD σ) hA hP hS hT0 hW1
  obtain ⟨t, L, hL, hF, X₂, hcase⟩ := z_invoke X₁ (fun sz => hM l htr D ad ca sz) (nLY := nLY) (g := F0 m pc ls (st.map (zv ad))) (ig := .invokevirtual i) (len := 3) (mk := mk) hmk1 rfl (by rw [hml]; exact hl.1) (by rw [hb]; exact d) (by show 2 * 0 + ((st.map (zv ad)).map fun v => v.category).sum ≤ 8; omega) (X₁.named hnamed) (fun w h => hgd w h _ _ hW1) (hgd _ (List.mem_cons_of_mem _ hini) _ _ hW1) ⟨by omega, by omega⟩ ⟨by omega, by omega⟩ hzW
  have hsz0 : (T0.setVm vm₁).heap = H := hT0
  have hsub := zA_sub (hD σ) hA hS
  rw [hsz0] at hL hF
  have hz : H.size ≤ t.heap.size := by have := hF.1; rw [hsz0] at this; exact this
  have hS2 : va_S A s.heap (zAft (T0.setVm vm₁) t).heap (locs ++ L) := by
    refine ⟨Nat.le_trans hS.1 hz, fun q h1 h2 => ?_, fun q hq => ?_⟩
    · have h3 := hF.2 q (by rw [hsz0]; exact Nat.lt_of_lt_of_le h1 hS.1) (fun z => h2 (hsub q z))
      show t.heap[q]? = _
      rw [h3, hsz0]
      exact hS.2.1 q h1 h2
    · rcases List.mem_append.mp hq with h | h
      · exact hS.2.2 q h
      · exact hsub _ (hL q h)
  have e6 : 6 * k + 6 * mcY = 6 * (k + mcY) := by omega
  rw [e6] at X₂
  rcases hcase with ⟨r, σ2, hrv, hpo, hP2, hst⟩ | ⟨x, b, cell, σ2, hpt, hP2, hbn, hcell, hcvm, hcls, hst⟩
  · obtain ⟨t2, a1, b1⟩ := kk r σ2 hpo ls (zAft (T0.setVm vm₁) t).heap (locs ++ L) hl hP2 hS2 (zAft (T0.setVm vm₁) t) rfl X₂
    refine ⟨t2, hstep t2 (fun acts => ?_), b1⟩
    rw [doInvoke_state]
    refine hst.trans ?_
    have e3 : (r.toList ++ st).map (zv ad) = r.toList ++ st.map (zv ad) := by
      rcases hrv with rfl | ⟨q, rfl⟩
      · rfl
      · rfl
    rw [e3] at a1
    exact a1
  · obtain ⟨hp, j, htk, hda, hj, hok, hZ⟩ := kt x σ2 hpt
    have hcls2 : s.vm.findClass (zxc x) = some cell.cls := by rw [← hW1.alike.findClass]; exact hcls
    obtain ⟨vm2, hW2, hfi⟩ := zTk_find (f := F0 m pc ls (st.map (zv ad))) (b := b) hpl hown hts hE hcvm hcls2 ex hp (((zAft (T0.setVm vm₁) t).setTop (F0 m pc ls (st.map (zv ad)))).pushFrame (.throwing b)) htk (by rw [Stand.throwing_vm]; exact X₂.warmed) (by rw [Stand.throwing_heap]; exact hcell)
    have X₃ := X₂.noted hW2
    have key : W p l e R s m args below meth c ((zAft (T0.setVm vm₁) t).setVm vm2).heap (locs ++ L) (k + mcY) (6 * (k + mcY)) (zQ below D ad ca A s po pt mc) (F0 m hp ls [.ref b]) := by
      refine lv_astore_n hx hb hda rfl hl hj rfl (fun ls1 h1 => ?_)
      exact hZ ls1 _ (locs ++ L) (zLv_none h1 hok) hP2 hS2
    obtain ⟨t2, a1, b1⟩ := key ((zAft (T0.setVm vm₁) t).setVm vm2) rfl X₃
    refine ⟨t2, hstep t2 (fun acts => ?_), b1⟩
    rw [doInvoke_state]
    refine hst.trans ?_
    rw [← hex] at hfi
    exact zc_caught (T := zAft (T0.setVm vm₁) t) X₂.here X₂.method' X₂.code hfi a1
end ZV
/-- a contract of a method with handlers; it never throws -/
def zMW (y : MethodName) (cc : ByteArray) (nL : Nat) (ret : Option FieldType) (hh : List (Nat × Nat × Nat × Nat)) (fr lo mc : Nat) (av : List Value) (σ : zS) (po : Option Value → zS → Prop) : Prop :=
  ∀ (l : Launch), l.stackTraces = false → ∀ (D : va_G) (ad : Nat → Nat) (ca : Nat → ClassId) (sz : Nat), MetFree l y (headSpec (.codeWith y cc nL ret hh :: zwd) (zrm fr lo mc)) (va_Pc (av.map (zv ad)) (fun U => U.heap.size = sz ∧ zW D ad ca σ U)) (fun _ _ _ _ _ => True)
    (fun _ st o t => zQc D ad ca (va_A (zws ad ca σ) sz) st po (fun _ _ => False) o t ∧ ∃ L, zFE st t L mc (6 * mc) ∧ ∀ q ∈ L, va_A (zws ad ca σ) sz q.base)
def zEx (q : Nat × Nat × Nat × Nat) : ExceptionTableEntry := ⟨q.1, q.2.1, q.2.2.1, q.2.2.2⟩
theorem zMW.of {y : MethodName} {cc : ByteArray} {nL : Nat} {ret : Option FieldType} {hh : List (Nat × Nat × Nat × Nat)} {fr lo mc : Nat} {av : List Value} {σ : zS} {po : Option Value → zS → Prop} (lv : List (Option Value)) (hy : plainName y.cls = true) (n : Nat) (hlv : zarg av ++ List.replicate n none = lv) (hlen : ∀ ad : Nat → Nat, (lg_sl (av.map (zv ad))).length ≤ nL)
    (h : ∀ Z, zR y.cls cc nL fr lo mc (hh.map zEx) ret po (fun _ _ => False) Z → Z 0 0 lv [] σ) : zMW y cc nL ret hh fr lo mc av σ po := by
  intro l htr D ad ca sz
  refine MetFree.of_bodyS (code := cc) (maxLocals := nL) (ret := ret) hy ?_ ?_
  · intro args s m h1 hn
    obtain ⟨m9, meth, c, hn9, h1, h2, h3, h4, -, h5, h6, -⟩ := Cond.codeWith_spec (atoms_spec (ws := .codeWith y cc nL ret hh :: zwd) h1 _ List.mem_cons_self)
    cases hn.symm.trans hn9
    exact ⟨meth, c, h1, h2, h3, h4, h5, h6⟩
  · intro p e s m args below meth c s₁ B hml hv _
    obtain ⟨rfl, hsz, hP, hK, hD, hE⟩ := hv
    subst hsz
    have hts := atoms_spec (ws := .codeWith y cc nL ret hh :: zwd) B.pre
    have hh0 : s₁.heap = s.heap := by rw [B.state]; rfl
    have hl := lv_entry (av.map (zv ad)) (n := nL) (hlen ad)
    have hex : c.exceptionTable.toList = hh.map zEx := by
      obtain ⟨m9, meth9, c9, hn9, h1, h2, h3, h4, h5, -, -, -⟩ := Cond.codeWith_spec (hts _ List.mem_cons_self)
      cases B.named.symm.trans hn9
      cases B.method.symm.trans h1
      cases (Stand.of_body B).code.symm.trans h2
      rw [← h5, List.map_map]
      have e1 : (zEx ∘ fun h : ExceptionTableEntry => (h.startPc, h.endPc, h.handlerPc, h.catchType)) = id := funext fun h => rfl
      rw [e1, List.map_id]
    obtain ⟨t, a1, o, b1, b2, b3, b4⟩ := h _ ⟨p, l, e, (headSpec (.codeWith y cc nL ret hh :: zwd) (zrm fr lo mc)).room, s, m, _, below, meth, c, D, ad, ca, va_A (zws ad ca σ) s.heap.size, B.exec, B.bytes, hml, findClass_of_methodNamed B.named, fun w hw => hts w (List.mem_cons_of_mem _ hw), hE, hK, fun σ2 => zD_eq (hD.self (sz := s.heap.size)) σ2, fun q hq => Or.inr hq, B.returns, B.notSynchronized, Nat.le_refl _, Nat.le_refl _, ⟨Nat.le_refl _, Nat.le_refl _⟩, htr, hex, zA_none hP, rfl⟩
      _ s.heap [] ⟨hl.1, hl.2.1, fun q hq => hl.2.2 q (zarg_in ad av 0 n q (by rw [hlv]; exact hq))⟩ hP va_S.rf s₁ hh0 (Stand.of_body B)
    rw [lg_entry_eq]
    exact ⟨t, o, a1, b1, b2, b3, b4⟩
section ZQ2
variable {own : String} {cc : ByteArray} {nL fr lo mc : Nat} {ex : List ExceptionTableEntry} {ret : Option FieldType} {po : Option Value → zS → Prop} {pt : Nat → zS → Prop} {Z : Nat → Nat → List (Option Value) → List Value → zS → Prop}
/-- a static call of a method with handlers -/
theorem z_callSW (hR : zR own cc nL fr lo mc ex ret po pt Z) {k pc n i nLY frY loY mcY : Nat} {lv : List (Option Value)} {st : List Value} {σ : zS} {y : MethodName} {ccY : ByteArray} {retY : Option FieldType} {hh : List (Nat × Nat × Nat × Nat)} {av : List Value} {po2 : Option Value → zS → Prop}
    (d : decode cc pc = .ok (.invokestatic i, 3)) (hn : pc + 3 = n) (hC : zCS own i y av.length) (hcd : Cond.codeWith y ccY nLY retY hh ∈ zwd) (hf : frY + 1 ≤ fr ∧ 8 + (nLY + 11) + loY ≤ lo) (hw : (st.map fun v => v.category).sum ≤ 8) (hk : k + mcY ≤ mc)
    (hM : zMW y ccY nLY retY hh frY loY mcY av σ po2) (kk : ∀ r σ2, po2 r σ2 → Z (k + mcY) n lv (r.toList ++ st) σ2) : Z k pc lv (av.reverse ++ st) σ := by
  obtain ⟨p, l, e, R, s, m, args, below, meth, c, D, ad, ca, A, hx, hb, hml, hown, hts, hE, hK, hD, hA, hret, hlk, hfr, hlo, hmc, htr, hex, hAc, rfl⟩ := hR
  intro ls H locs hl hP hS
  subst hn
  have est : (av.reverse ++ st).map (zv ad) = (av.map (zv ad)).reverse ++ st.map (zv ad) := by simp
  have hw2 : ((st.map (zv ad)).map fun v => v.category).sum ≤ 8 := by
    rw [List.map_map]
    have e9 : ((fun v : Value => v.category) ∘ zv ad) = fun v => v.category := funext fun v => zv_cat ad v
    rw [e9]
    exact hw
  obtain ⟨⟨hini, hd⟩, hst, hlink⟩ := hC
  rw [est]
  intro T0 hT0 X
  have hgd : ∀ w ∈ Cond.codeWith y ccY nLY retY hh :: zwd, ∀ (a2 : Array Value) (U : State), s.WarmedH U.vm → w.before a2 U = true := by
    refine pay_in hts (fun w hw => ?_)
    have h1 : w ∈ zwd := by
      rcases List.mem_cons.mp hw with rfl | h2
      · exact hcd
      · exact h2
    exact ⟨h1, zgood w h1⟩
  have hgo : ∃ (mk : MethodId) (vm₁ : Vm), s.methodNamed? y = some mk ∧ s.WarmedH vm₁ ∧ (∀ target, (∀ acts, Steps p.tables e below (doInvoke e ((T0.setVm vm₁).setTop (F0 m pc ls (st.map (zv ad)))) acts mk (av.map (zv ad)).toArray).1 target) → Steps p.tables e below (T0.setTop (F0 m pc ls ((av.map (zv ad)).reverse ++ st.map (zv ad)))) target) := by
    obtain ⟨mk, methM, cM, hnamed, hmethM, -, -, -, -, -, -, hsigM⟩ := Cond.codeWith_spec (hts _ hcd)
    have hstatic : methM.isStatic = true := Cond.static_spec hnamed hmethM (hts _ hst)
    obtain ⟨kP, hkP, -⟩ := className_of_methodNamed hnamed
    have hinitP : kP.init = .initialized := Cond.initialized_spec (findClass_of_methodNamed hnamed) hkP (hts _ hini)
    have hlen : (av.map (zv ad)).length = methM.sig.parameters.length := by
      have h2 := hd.2.2
      rw [hsigM] at h2
      simp at h2
      simp [h2]
    rcases hlink with hlink | ⟨host, hlink⟩
    · obtain ⟨vm₁, X₁, hstep₁⟩ := X.invokestatic hx hown (hts _ hlink) hnamed hmethM hstatic hkP hinitP ⟨hd.1, hd.2.1⟩ (g := F0 m pc ls ((av.map (zv ad)).reverse ++ st.map (zv ad))) rfl (argsL := av.map (zv ad)) (rest := st.map (zv ad)) hlen rfl (by rw [hb]; exact d)
      exact ⟨mk, vm₁, hnamed, X₁.warmed, fun target h => hstep₁ target h⟩
    · obtain ⟨vm₁, X₁, hstep₁⟩ := X.invokestaticNest hx hown (va_Nw.use rfl (hE.1 _ hlink)) hnamed hmethM hstatic hkP hinitP ⟨hd.1, hd.2.1⟩ (g := F0 m pc ls ((av.map (zv ad)).reverse ++ st.map (zv ad))) rfl (argsL := av.map (zv ad)) (rest := st.map (zv ad)) hlen rfl (by rw [hb]; exact d)
      exact ⟨mk, vm₁, hnamed, X₁.warmed, fun target h => hstep₁ target h⟩
  obtain ⟨mk, vm₁, hnamed, hW1, hstep⟩ := hgo
  have X₁ := X.noted hW1
  have hmk1 : ∃ methY cY, (T0.setVm vm₁).vm.method? mk = some methY ∧ methY.code = some cY ∧ cY.maxLocals = nLY := by
    obtain ⟨m9, methY, cY, hn9, hmY, hcY, -, hlY, -⟩ := Cond.codeWith_spec (hgd _ List.mem_cons_self #[] (T0.setVm vm₁) hW1)
    cases (X₁.named hnamed).symm.trans hn9
    exact ⟨methY, cY, hmY, hcY, hlY⟩
  have hzW : zW D ad ca σ (T0.setVm vm₁) := zW_at hE hK (hD σ) hA hP hS hT0 hW1
  obtain ⟨t, L, hL, hF, X₂, hcase⟩ := z_invoke X₁ (fun sz => hM l htr D ad ca sz) (nLY := nLY) (g := F0 m pc ls (st.map (zv ad))) (ig := .invokestatic i) (len := 3) (mk := mk) hmk1 rfl (by rw [hml]; exact hl.1) (by rw [hb]; exact d) (by show 2 * 0 + ((st.map (zv ad)).map fun v => v.category).sum ≤ 8; omega) (X₁.named hnamed) (fun w h => hgd w h _ _ hW1) (hgd _ (List.mem_cons_of_mem _ hini) _ _ hW1) ⟨by omega, by omega⟩ ⟨by omega, by omega⟩ hzW
  have hsz0 : (T0.setVm vm₁).heap = H := hT0
  have hsub := zA_sub (hD σ) hA hS
  rw [hsz0] at hL hF
  have hz : H.size ≤ t.heap.size := by have := hF.1; rw [hsz0] at this; exact this
  have hS2 : va_S A s.heap (zAft (T0.setVm vm₁) t).heap (locs ++ L) := by
    refine ⟨Nat.le_trans hS.1 hz, fun q h1 h2 => ?_, fun q hq => ?_⟩
    · have h3 := hF.2 q (by rw [hsz0]; exact Nat.lt_of_lt_of_le h1 hS.1) (fun z => h2 (hsub q z))
      show t.heap[q]? = _
      rw [h3, hsz0]
      exact hS.2.1 q h1 h2
    · rcases List.mem_append.mp hq with h | h
      · exact hS.2.2 q h
      · exact hsub _ (hL q h)
  have e6 : 6 * k + 6 * mcY = 6 * (k + mcY) := by omega
  rw [e6] at X₂
  rcases hcase with ⟨r, σ2, hrv, hpo, hP2, hst⟩ | ⟨x, b, cell, σ2, hpt, -⟩
  · obtain ⟨t2, a1, b1⟩ := kk r σ2 hpo ls (zAft (T0.setVm vm₁) t).heap (locs ++ L) hl hP2 hS2 (zAft (T0.setVm vm₁) t) rfl X₂
    refine ⟨t2, hstep t2 (fun acts => ?_), b1⟩
    rw [doInvoke_state]
    refine hst.trans ?_
    have e3 : (r.toList ++ st).map (zv ad) = r.toList ++ st.map (zv ad) := by
      rcases hrv with rfl | ⟨q, rfl⟩
      · rfl
      · rfl
    rw [e3] at a1
    exact a1
  · exact hpt.elim
end ZQ2
end
section
/-! HOW THE WORLD IS MADE: constructors. A world under construction: cells by place, arrays of zeros, objects with their fields. -/
abbrev yE : Type := (Nat × Nat) ⊕ (Nat × List Value)
abbrev yW : Type := List (Nat × yE)
def ycell (ad : Nat → Nat) (ca : Nat → ClassId) (e : yE) : va_E := match e with
  | .inl q => if q.1 = 3 then .inl (ca q.1, q.2, .inr (.inl (fun _ => 0))) else .inl (ca q.1, q.2, .inl (fun _ => 0))
  | .inr q => .inr (q.1, q.2.map (zv ad))
def yws (ad : Nat → Nat) (ca : Nat → ClassId) (w : yW) : va_W := w.map (fun q => (ad q.1, ycell ad ca q.2))
def yrefs (v : Value) : List Nat := match v with
  | .ref a => [a]
  | _ => []
def ycr (e : yE) : List Nat := match e with
  | .inl _ => []
  | .inr r => r.2.flatMap yrefs
/-- the places that are named -/
def yall (lv : List (Option Value)) (st : List Value) (w : yW) : List Nat := lv.flatMap (fun q => match q with | some v => yrefs v | none => []) ++ (st.flatMap yrefs ++ w.flatMap (fun q => q.1 :: ycr q.2))
theorem zv_same {ad ad2 : Nat → Nat} {v : Value} (h : ∀ a ∈ yrefs v, ad2 a = ad a) : zv ad2 v = zv ad v := by
  cases v with
  | ref a =>
    show Value.ref _ = Value.ref _
    rw [h a List.mem_cons_self]
  | _ => rfl
theorem zvs_same {ad ad2 : Nat → Nat} : ∀ {st : List Value}, (∀ a ∈ st.flatMap yrefs, ad2 a = ad a) → st.map (zv ad2) = st.map (zv ad)
  | [], _ => rfl
  | v :: t, h => by
    rw [List.map_cons, List.map_cons, zv_same (fun a ha => h a (by simp [ha])), zvs_same (fun a ha => h a (by
      rw [List.flatMap_cons]
      exact List.mem_append_right _ ha))]
theorem zLv_same {ad ad2 : Nat → Nat} : ∀ (lv : List (Option Value)) (i : Nat), (∀ a ∈ lv.flatMap (fun q => match q with | some v => yrefs v | none => []), ad2 a = ad a) → zLv ad2 i lv = zLv ad i lv
  | [], _, _ => rfl
  | none :: t, i, h => zLv_same t (i + 1) (fun a ha => h a (by rw [List.flatMap_cons]; exact List.mem_append_right _ ha))
  | some v :: t, i, h => by
    have h1 := zLv_same (ad := ad) (ad2 := ad2) t (i + 1) (fun a ha => h a (by rw [List.flatMap_cons]; exact List.mem_append_right _ ha))
    have h2 : zv ad2 v = zv ad v := zv_same (fun a ha => h a (by rw [List.flatMap_cons]; exact List.mem_append_left _ ha))
    simp only [zLv, h1, h2]
theorem yws_same {ad ad2 : Nat → Nat} {ca : Nat → ClassId} : ∀ {w : yW}, (∀ a ∈ w.flatMap (fun q => q.1 :: ycr q.2), ad2 a = ad a) → yws ad2 ca w = yws ad ca w
  | [], _ => rfl
  | q :: t, h => by
    have h1 : yws ad2 ca t = yws ad ca t := yws_same (fun a ha => h a (by rw [List.flatMap_cons]; exact List.mem_append_right _ ha))
    have h2 : ad2 q.1 = ad q.1 := h q.1 (by rw [List.flatMap_cons]; exact List.mem_append_left _ List.mem_cons_self)
    have h3 : ycell ad2 ca q.2 = ycell ad ca q.2 := by
      obtain ⟨o, e⟩ := q
      cases e with
      | inl r => rfl
      | inr r =>
        show (Sum.inr (r.1, r.2.map (zv ad2)) : va_E) = Sum.inr (r.1, r.2.map (zv ad))
        rw [zvs_same (fun a ha => h a (by
          rw [List.flatMap_cons]
          exact List.mem_append_left _ (List.mem_cons_of_mem _ ha)))]
    show (ad2 q.1, ycell ad2 ca q.2) :: yws ad2 ca t = (ad q.1, ycell ad ca q.2) :: yws ad ca t
    rw [h1, h2, h3]
theorem yws_at {ad : Nat → Nat} {ca : Nat → ClassId} {w : yW} {i : Nat} {q : Nat × yE} (h : w[i]? = some q) : (yws ad ca w)[i]? = some (ad q.1, ycell ad ca q.2) := by
  rw [yws, List.getElem?_map, h]
  rfl
/-- the world in a state, while it is made -/
def yU (D : va_G) (ca : Nat → ClassId) (ad : Nat → Nat) (w : yW) (U : State) : Prop := va_P D vwCl (yws ad ca w) U.heap ∧ va_K D vwCl (ztys ca) U ∧ va_D (fun _ => True) (yws ad ca w) ∧ ∀ x ∈ zNst, va_Nw x U
abbrev yrm (fr lo mc ms : Nat) : Room := { frames := fr, cells := mc, slots := ms, locals := lo }
def yQ (D : va_G) (ca : Nat → ClassId) (ad : Nat → Nat) (sz : Nat) (w w1 : yW) : Array Value → State → Outcome → State → Prop :=
  va_Qv (fun ad2 : Nat → Nat => ∀ q ∈ w, ad2 q.1 = ad q.1) (fun ad2 t => va_P D vwCl (yws ad2 ca w1) t.heap ∧ va_D (va_A (yws ad ca w) sz) (yws ad2 ca w1)) (va_A (yws ad ca w) sz)
def yM (y : MethodName) (cc : ByteArray) (nL fr lo mc ms : Nat) (av : List Value) (w w1 : yW) : Prop := ∀ (l : Launch) (D : va_G) (ca : Nat → ClassId) (ad : Nat → Nat) (sz : Nat),
  Met l y (.code y cc nL none :: zwd) (yrm fr lo mc ms) (va_Pc (av.map (zv ad)) (fun U => U.heap.size = sz ∧ yU D ca ad w U)) (yQ D ca ad sz w w1) mc ms (va_A (yws ad ca w) sz)
def yR (own : String) (cc : ByteArray) (nL fr lo mc ms : Nat) (w0 w1 : yW) (Y : Nat → Nat → Nat → List (Option Value) → List Value → yW → Prop) : Prop :=
  ∃ (p : Program) (l : Launch) (e : Env) (R : Room) (s : State) (m : MethodId) (args : Array Value) (below : List Frame) (meth : Method) (c : Code) (D : va_G) (ca : Nat → ClassId) (ad0 : Nat → Nat),
    p.tables.exec = Jvm.exec ∧ c.code = cc ∧ c.maxLocals = nL ∧ s.vm.findClass own = some m.cls ∧ (∀ w ∈ zwd, w.before args s = true) ∧ (∀ w ∈ zNst, va_Nw w s) ∧ va_K D vwCl (ztys ca) s ∧ meth.sig.returnType = none ∧ meth.locks = false ∧ meth.name = "<init>" ∧ fr ≤ R.frames ∧ lo ≤ R.locals ∧ (mc ≤ R.cells ∧ ms ≤ R.slots) ∧
    Y = fun k n pc lv st w => ∀ (ad : Nat → Nat), (∀ q ∈ w0, ad q.1 = ad0 q.1) → ∀ (ls : Array Slot) (H : Heap) (locs : List Loc), lv_has ls nL (zLv ad 0 lv) → va_P D vwCl (yws ad ca w) H → va_D (va_A (yws ad0 ca w0) s.heap.size) (yws ad ca w) → va_S (va_A (yws ad0 ca w0) s.heap.size) s.heap H locs →
      W p l e R s m args below meth c H locs k n (MQ below (yQ D ca ad0 s.heap.size w0 w1) args s mc ms (va_A (yws ad0 ca w0) s.heap.size)) (F0 m pc ls (st.map (zv ad)))
theorem yM.of {y : MethodName} {cc : ByteArray} {nL fr lo mc ms : Nat} {av : List Value} {w w1 : yW} (lv : List (Option Value)) (hy : plainName y.cls = true) (hyn : y.name = "<init>") (n : Nat) (hlv : zarg av ++ List.replicate n none = lv) (hlen : ∀ ad : Nat → Nat, (lg_sl (av.map (zv ad))).length ≤ nL)
    (h : ∀ Y, yR y.cls cc nL fr lo mc ms w w1 Y → Y 0 0 0 lv [] w) : yM y cc nL fr lo mc ms av w w1 := by
  intro l D ca ad sz
  refine Met.ofW (cc := cc) (maxL := nL) (ret := none) hy rfl ?_
  intro p e s m args below meth c s₁ B hml hv
  obtain ⟨rfl, hsz, hP, hK, hD, hN⟩ := hv
  subst hsz
  have hts := atoms_spec (ws := .code y cc nL none :: zwd) B.pre
  have hl := lv_entry (av.map (zv ad)) (n := nL) (hlen ad)
  have hnm : meth.name = "<init>" := by rw [(name_of_methodNamed B.named B.method).1]; exact hyn
  rw [lg_entry_eq]
  exact h _ ⟨p, l, e, (headSpec (.code y cc nL none :: zwd) (yrm fr lo mc ms)).room, s, m, _, below, meth, c, D, ca, ad, B.exec, B.bytes, hml, findClass_of_methodNamed B.named, fun w hw => hts w (List.mem_cons_of_mem _ hw), hN, hK, B.returns, B.notSynchronized, hnm, Nat.le_refl _, Nat.le_refl _, ⟨Nat.le_refl _, Nat.le_refl _⟩, rfl⟩
    ad (fun _ _ => rfl) _ s.heap [] ⟨hl.1, hl.2.1, fun q hq => hl.2.2 q (zarg_in ad av 0 n q (by rw [hlv]; exact hq))⟩ hP hD.self va_S.rf
/-- a field that a constructor sets -/
def yPt (own : String) (i ci j : Nat) (ty : FieldType) (fin : Bool) : Prop := ∃ (C : String) (T : u_T) (N : Nat) (ty0 : Nat → FieldType), vwCl[ci]? = some (C, T, N) ∧ j < N ∧ (∀ w ∈ u_ws C T N, w ∈ zwd) ∧ Cond.fieldLink own i (T j).1 (T j).2.1 (T j).2.2.1 ∈ zwd ∧
  (∀ k, k < N → parseFieldDescriptor (T k).2.2.1 = some (ty0 k)) ∧ (∀ a, a < N → ∀ b, b < N → a ≠ b → (T a).2.1 ≠ (T b).2.1) ∧ (T j).2.2.2 = fin ∧ (T j).1 = own ∧ parseFieldDescriptor (T j).2.2.1 = some ty
section YR
variable {own : String} {cc : ByteArray} {nL fr lo mc ms : Nat} {w0 w1 : yW} {Y : Nat → Nat → Nat → List (Option Value) → List Value → yW → Prop} {k n pc : Nat} {lv : List (Option Value)} {st : List Value} {w : yW}
theorem y_aload (hR : yR own cc nL fr lo mc ms w0 w1 Y) {i : Fin 4} {x : Nat} (d : decode cc pc = .ok (.aload_n i, 1)) (hv : lv[(i : Nat)]? = some (some (.ref x))) (kk : Y k n (pc + 1) lv (.ref x :: st) w) : Y k n pc lv st w := by
  obtain ⟨p, l, e, R, s, m, args, below, meth, c, D, ca, ad0, hx, hb, hml, hown, hts, hN, hK, hret, hlk, hin, hfr, hlo, hmc, rfl⟩ := hR
  intro ad had ls H locs hl hP hD hS
  exact lv_aload_n hx hb d rfl (zLv_at hl hv) (kk ad had ls H locs hl hP hD hS)
theorem y_iload (hR : yR own cc nL fr lo mc ms w0 w1 Y) {i : Fin 4} {x : Int32} (d : decode cc pc = .ok (.iload_n i, 1)) (hv : lv[(i : Nat)]? = some (some (.int x))) (kk : Y k n (pc + 1) lv (.int x :: st) w) : Y k n pc lv st w := by
  obtain ⟨p, l, e, R, s, m, args, below, meth, c, D, ca, ad0, hx, hb, hml, hown, hts, hN, hK, hret, hlk, hin, hfr, hlo, hmc, rfl⟩ := hR
  intro ad had ls H locs hl hP hD hS
  exact lv_iload_n hx hb d rfl (zLv_at hl hv) (kk ad had ls H locs hl hP hD hS)
theorem y_iconst (hR : yR own cc nL fr lo mc ms w0 w1 Y) {i : Int} {v : Int32} (d : decode cc pc = .ok (.iconst i, 1)) (hv : Int32.ofInt i = v) (kk : Y k n (pc + 1) lv (.int v :: st) w) : Y k n pc lv st w := by
  obtain ⟨p, l, e, R, s, m, args, below, meth, c, D, ca, ad0, hx, hb, hml, hown, hts, hN, hK, hret, hlk, hin, hfr, hlo, hmc, rfl⟩ := hR
  intro ad had ls H locs hl hP hD hS
  exact lv_iconst hx hb d hv (kk ad had ls H locs hl hP hD hS)
theorem y_bipush (hR : yR own cc nL fr lo mc ms w0 w1 Y) {i : Int} {v : Int32} (d : decode cc pc = .ok (.bipush i, 2)) (hv : (Int8.ofInt i).toInt32 = v) (kk : Y k n (pc + 2) lv (.int v :: st) w) : Y k n pc lv st w := by
  obtain ⟨p, l, e, R, s, m, args, below, meth, c, D, ca, ad0, hx, hb, hml, hown, hts, hN, hK, hret, hlk, hin, hfr, hlo, hmc, rfl⟩ := hR
  intro ad had ls H locs hl hP hD hS
  exact lv_bipush hx hb d hv (kk ad had ls H locs hl hP hD hS)
theorem y_sipush (hR : yR own cc nL fr lo mc ms w0 w1 Y) {i : Int} {v : Int32} (d : decode cc pc = .ok (.sipush i, 3)) (hv : (Int16.ofInt i).toInt32 = v) (kk : Y k n (pc + 3) lv (.int v :: st) w) : Y k n pc lv st w := by
  obtain ⟨p, l, e, R, s, m, args, below, meth, c, D, ca, ad0, hx, hb, hml, hown, hts, hN, hK, hret, hlk, hin, hfr, hlo, hmc, rfl⟩ := hR
  intro ad had ls H locs hl hP hD hS
  exact lv_sipush hx hb d hv (kk ad had ls H locs hl hP hD hS)
theorem y_dup (hR : yR own cc nL fr lo mc ms w0 w1 Y) {x : Nat} (d : decode cc pc = .ok (.dup, 1)) (kk : Y k n (pc + 1) lv (.ref x :: .ref x :: st) w) : Y k n pc lv (.ref x :: st) w := by
  obtain ⟨p, l, e, R, s, m, args, below, meth, c, D, ca, ad0, hx, hb, hml, hown, hts, hN, hK, hret, hlk, hin, hfr, hlo, hmc, rfl⟩ := hR
  intro ad had ls H locs hl hP hD hS
  exact lv_dup hx hb d rfl (kk ad had ls H locs hl hP hD hS)
theorem y_objInit (hR : yR own cc nL fr lo mc ms w0 w1 Y) {i x : Nat} (d : decode cc pc = .ok (.invokespecial i, 3)) (h1 : Cond.methodLink own i objectInit ∈ zwd) (h2 : Cond.instanceMethod objectInit ∈ zwd) (h3 : Cond.code objectInit ⟨#[0xb1]⟩ 1 none ∈ zwd) (hst : st = []) (hf : 1 ≤ fr ∧ 12 ≤ lo) (kk : Y k n (pc + 3) lv st w) : Y k n pc lv (.ref x :: st) w := by
  obtain ⟨p, l, e, R, s, m, args, below, meth, c, D, ca, ad0, hx, hb, hml, hown, hts, hN, hK, hret, hlk, hin, hfr, hlo, hmc, rfl⟩ := hR
  intro ad had ls H locs hl hP hD hS
  subst hst
  exact W.objInit hx hb hown (hts _ h1) (hts _ h2) (hts _ h3) rfl (by rw [hml]; exact hl.1) rfl d (by omega) (by show 2 * 0 + 0 + 12 ≤ _; omega) (kk ad had ls H locs hl hP hD hS)
theorem y_ret (hR : yR own cc nL fr lo mc ms w0 w1 Y) (d : decode cc pc = .ok (.return_, 1)) (hk : k ≤ mc) (hn : n ≤ ms) (hw : w = w1) : Y k n pc lv [] w := by
  obtain ⟨p, l, e, R, s, m, args, below, meth, c, D, ca, ad0, hx, hb, hml, hown, hts, hN, hK, hret, hlk, hin, hfr, hlo, hmc, rfl⟩ := hR
  intro ad had ls H locs hl hP hD hS
  subst hw
  refine W.widen (k := mc) (n := ms) hk hn ?_
  exact W.vret hx hb hret (fun t ht hW => ⟨⟨ad, rfl, had, by rw [ht]; exact hP, hD⟩, hS.F ht⟩) hS.2.2 d hlk
theorem y_getR (hR : yR own cc nL fr lo mc ms w0 w1 Y) {i ci j o q x : Nat} {fs : List Value} (d : decode cc pc = .ok (.getfield i, 3)) (hG : zG own i ci j) (hq : w[q]? = some (o, .inr (ci, fs))) (hj : fs[j]? = some (.ref x)) (kk : Y k n (pc + 3) lv (.ref x :: st) w) : Y k n pc lv (.ref o :: st) w := by
  obtain ⟨p, l, e, R, s, m, args, below, meth, c, D, ca, ad0, hx, hb, hml, hown, hts, hN, hK, hret, hlk, hin, hfr, hlo, hmc, rfl⟩ := hR
  intro ad had ls H locs hl hP hD hS
  obtain ⟨C, T, N, hc, hj2, hin2, hl2⟩ := hG
  have he : (yws ad ca w)[q]? = some (ad o, .inr (ci, fs.map (zv ad))) := yws_at hq
  have hv : (fs.map (zv ad))[j]? = some (.ref (ad x)) := by rw [List.getElem?_map, hj]; rfl
  rcases hl2 with hl2 | ⟨host, hl2⟩
  · exact va_get hx hb hts hin2 hown hK hP q he hc j hj2 (hts _ hl2) (fun _ h => h) hv d (kk ad had ls H locs hl hP hD hS)
  · exact va_getN hx hb hts hin2 hown hK hP q he hc j hj2 (va_Nw.use rfl (hN _ hl2)) (fun _ h => h) hv d (kk ad had ls H locs hl hP hD hS)
theorem y_putF (hR : yR own cc nL fr lo mc ms w0 w1 Y) {i ci j o q : Nat} {fs : List Value} {v : Value} {ty : FieldType} (d : decode cc pc = .ok (.putfield i, 3)) (hG : yPt own i ci j ty true) (hq : w[q]? = some (o, .inr (ci, fs))) (hj : j < fs.length) (hvn : ∀ ad, narrow ty (zv ad v) = zv ad v) (hvf : ∀ ad, fits ty (zv ad v) = true) (kk : Y k n (pc + 3) lv st (w.set q (o, .inr (ci, fs.set j v)))) : Y k n pc lv (v :: .ref o :: st) w := by
  obtain ⟨p, l, e, R, s, m, args, below, meth, c, D, ca, ad0, hx, hb, hml, hown, hts, hN, hK, hret, hlk, hin, hfr, hlo, hmc, rfl⟩ := hR
  intro ad had ls H locs hl hP hD hS
  obtain ⟨C, T, N, ty0, hc, hjN, hin2, hl2, hty, hnm, hfin, hdecl, hd⟩ := hG
  have he : (yws ad ca w)[q]? = some (ad o, .inr (ci, fs.map (zv ad))) := yws_at hq
  have hlen : j < (fs.map (zv ad)).length := by simpa using hj
  have e1 : (yws ad ca w).set q (ad o, .inr (ci, (fs.map (zv ad)).set j (zv ad v))) = yws ad ca (w.set q (o, .inr (ci, fs.set j v))) := by
    rw [yws, yws, List.map_set, ← List.map_set]
    rfl
  have h1 : narrow ty (zv ad v) = zv ad v := hvn ad
  have h2 : fits ty (zv ad v) = true := hvf ad
  refine va_putF hx hb hts hin2 ty0 hty hnm hown hK hP hD hS q he hc j hjN (hts _ hl2) (fun _ h => h) hfin hin hdecl hd h1 h2 hlen d (fun H1 locs1 g1 g2 g3 => ?_)
  rw [e1] at g1 g2
  exact kk ad had ls H1 locs1 hl g1 g2 g3
theorem y_put (hR : yR own cc nL fr lo mc ms w0 w1 Y) {i ci j o q : Nat} {fs : List Value} {v : Value} {ty : FieldType} (d : decode cc pc = .ok (.putfield i, 3)) (hG : yPt own i ci j ty false) (hq : w[q]? = some (o, .inr (ci, fs))) (hj : j < fs.length) (hvn : ∀ ad, narrow ty (zv ad v) = zv ad v) (hvf : ∀ ad, fits ty (zv ad v) = true) (kk : Y k n (pc + 3) lv st (w.set q (o, .inr (ci, fs.set j v)))) : Y k n pc lv (v :: .ref o :: st) w := by
  obtain ⟨p, l, e, R, s, m, args, below, meth, c, D, ca, ad0, hx, hb, hml, hown, hts, hN, hK, hret, hlk, hin, hfr, hlo, hmc, rfl⟩ := hR
  intro ad had ls H locs hl hP hD hS
  obtain ⟨C, T, N, ty0, hc, hjN, hin2, hl2, hty, hnm, hfin, hdecl, hd⟩ := hG
  have he : (yws ad ca w)[q]? = some (ad o, .inr (ci, fs.map (zv ad))) := yws_at hq
  have hlen : j < (fs.map (zv ad)).length := by simpa using hj
  have e1 : (yws ad ca w).set q (ad o, .inr (ci, (fs.map (zv ad)).set j (zv ad v))) = yws ad ca (w.set q (o, .inr (ci, fs.set j v))) := by
    rw [yws, yws, List.map_set, ← List.map_set]
    rfl
  have h1 : narrow ty (zv ad v) = zv ad v := hvn ad
  have h2 : fits ty (zv ad v) = true := hvf ad
  refine va_put hx hb hts hin2 ty0 hty hnm hown hK hP hD hS q he hc j hjN (hts _ hl2) (fun _ h => h) hfin hd h1 h2 hlen d (fun H1 locs1 g1 g2 g3 => ?_)
  rw [e1] at g1 g2
  exact kk ad had ls H1 locs1 hl g1 g2 g3
theorem y_newa (hR : yR own cc nL fr lo mc ms w0 w1 Y) {kd N : Nat} {x : Int32} {at9 : ArrayType} (o : Nat) (d : decode cc pc = .ok (.newarray at9, 2)) (hat : (kd, newarray.typeOf at9) ∈ [(0, FieldType.int), (1, .char), (2, .boolean), (3, .long)]) (harr : Cond.arrayClass (newarray.typeOf at9) ∈ zwd) (hx0 : x = nI N) (hN : N ≤ 4096) (hfr2 : (yall lv st w).contains o = false) (hno : (w0.map (fun q => q.1)).contains o = false) (hk : k + 1 ≤ mc) (hn : n + N ≤ ms) (kk : Y (k + 1) (n + N) (pc + 2) lv (.ref o :: st) (w ++ [(o, .inl (kd, N))])) : Y k n pc lv (.int x :: st) w := by
  obtain ⟨p, l, e, R, s, m, args, below, meth, c, D, ca, ad0, hx, hb, hml, hown, hts, hN, hK, hret, hlk, hin, hfr, hlo, hmc, rfl⟩ := hR
  intro ad had ls H locs hl hP hD hS
  subst hx0
  have hfr3 : ∀ a ∈ yall lv st w, va_up ad o H.size a = ad a := fun a ha => va_up_ne ad _ (fun e => by
    subst e
    rw [List.contains_iff_mem.mpr ha] at hfr2
    cases hfr2)
  have main : ∀ (ty : FieldType) (a0 : vp_A), newarray.typeOf at9 = ty → (∀ cA : ClassId, vp_cell cA a0 = arrV cA N (fun _ => defaultValue ty)) → (∀ ad2 : Nat → Nat, ycell ad2 ca (.inl (kd, N)) = .inl (ca kd, a0)) → (ztys ca)[kd]? = some (ca kd, ty) → N * componentBytes ty ≤ 536870912 → (∀ (cA : ClassId), va_RA s cA ty → va_RA s (ca kd) ty → cA = ca kd) → W p l e R s m args below meth c H locs k n (MQ below (yQ D ca ad0 s.heap.size w0 w1) args s mc ms (va_A (yws ad0 ca w0) s.heap.size)) (F0 m pc ls (.int (nI N) :: st.map (zv ad))) := by
    intro ty a0 hty ha0 hcell htk hby heq
    refine va_newaK hx hb (hts _ harr) rfl d rfl (nI_pos (by omega)) (nI_clamp (by omega)) (by rw [hty]; exact hby) (by omega) (by omega) rfl (fun H1 cA e1 z1 o1 hAr hNm => ?_)
    rw [hty] at e1 hAr
    have hRA : va_RA s cA ty := by
      rw [← hty]
      cases at9 <;> exact hNm
    have hcA : cA = ca kd := heq cA hRA (hK.2 kd _ htk).2
    subst hcA
    have hk2 : ∀ (k2 : Nat) (x : Nat × va_E), (yws ad ca w)[k2]? = some x → H1[x.1]? = H[x.1]? := fun k2 x hx2 => o1 x.1 ((hP k2 x hx2).lt)
    have ew : yws (va_up ad o H.size) ca w = yws ad ca w := yws_same (fun a ha => hfr3 a (List.mem_append_right _ (List.mem_append_right _ ha)))
    have ew2 : yws (va_up ad o H.size) ca (w ++ [(o, .inl (kd, N))]) = yws ad ca w ++ [(H.size, .inl (ca kd, a0))] := by
      rw [yws, List.map_append]
      show yws (va_up ad o H.size) ca w ++ [(va_up ad o H.size o, ycell (va_up ad o H.size) ca (.inl (kd, N)))] = _
      rw [ew, va_up_self, hcell]
    have eS : ((Value.ref o :: st)).map (zv (va_up ad o H.size)) = .ref H.size :: st.map (zv ad) := by
      rw [List.map_cons, zvs_same (fun a ha => hfr3 a (List.mem_append_right _ (List.mem_append_left _ ha)))]
      show Value.ref (va_up ad o H.size o) :: _ = _
      rw [va_up_self]
    have kk2 := kk (va_up ad o H.size) (fun q hq => by
      rw [va_up_ne ad _ (fun e => by
        have h9 : (w0.map (fun q => q.1)).contains o = true := List.contains_iff_mem.mpr (e ▸ List.mem_map_of_mem hq)
        rw [h9] at hno
        cases hno)]
      exact had q hq) ls H1 locs (by rw [zLv_same lv 0 (fun a ha => hfr3 a (List.mem_append_left _ ha))]; exact hl)
      (by
        rw [ew2]
        refine (hP.kept hk2).app (fun k3 x hx3 => ?_)
        have hz : k3 < 1 := (List.getElem?_eq_some_iff.mp hx3).1
        rw [show k3 = 0 by omega] at hx3
        cases hx3
        show H1[H.size]? = some (vp_cell _ _)
        rw [ha0]
        exact e1)
      (by rw [ew2]; exact hD.push hP rfl (Or.inr hS.1))
      ⟨Nat.le_trans hS.1 (by omega), fun x h1 h2 => (o1 x (Nat.lt_of_lt_of_le h1 hS.1)).trans (hS.2.1 x h1 h2), hS.2.2⟩
    rw [eS] at kk2
    exact kk2
  simp only [List.mem_cons, Prod.mk.injEq, List.not_mem_nil, or_false] at hat
  rcases hat with ⟨rfl, e9⟩ | ⟨rfl, e9⟩ | ⟨rfl, e9⟩ | ⟨rfl, e9⟩
  · exact main .int (N, .inl (fun _ => 0)) e9 (fun _ => rfl) (fun _ => rfl) rfl (by show N * 4 ≤ _; omega) (fun cA h1 h2 => Option.some.inj (h1.symm.trans h2))
  · exact main .char (N, .inl (fun _ => 0)) e9 (fun _ => rfl) (fun _ => rfl) rfl (by show N * 2 ≤ _; omega) (fun cA h1 h2 => Option.some.inj (h1.symm.trans h2))
  · exact main .boolean (N, .inl (fun _ => 0)) e9 (fun _ => rfl) (fun _ => rfl) rfl (by show N * 1 ≤ _; omega) (fun cA h1 h2 => Option.some.inj (h1.symm.trans h2))
  · exact main .long (N, .inr (.inl (fun _ => 0))) e9 (fun _ => rfl) (fun _ => rfl) rfl (by show N * 8 ≤ _; omega) (fun cA h1 h2 => Option.some.inj (h1.symm.trans h2))
end YR
end
section
/-! Making: new objects, calls of constructors -/
theorem yws_app (ad : Nat → Nat) (ca : Nat → ClassId) (a b : yW) : yws ad ca (a ++ b) = yws ad ca a ++ yws ad ca b := List.map_append
section YN
variable {own : String} {cc : ByteArray} {nL fr lo mc ms : Nat} {w0 w1 : yW} {Y : Nat → Nat → Nat → List (Option Value) → List Value → yW → Prop} {k n pc : Nat} {lv : List (Option Value)} {st : List Value} {w : yW}
/-- what the tables say of a class whose objects are made -/
def yNw (own : String) (i ci N : Nat) (fs : List Value) : Prop := ∃ (C : String) (T : u_T) (ty : Nat → FieldType), vwCl[ci]? = some (C, T, N) ∧ Cond.classLink own i C ∈ zwd ∧ Cond.instantiable C N ∈ zwd ∧ Cond.initialized C ∈ zwd ∧ (∀ w ∈ u_ws C T N, w ∈ zwd) ∧ (∀ k, k < N → parseFieldDescriptor (T k).2.2.1 = some (ty k)) ∧ (∀ j, j < N → defaultValue (ty j) = vp_V fs j) ∧ (∀ ad, fs.map (zv ad) = fs)
theorem y_new (hR : yR own cc nL fr lo mc ms w0 w1 Y) {i ci N : Nat} {fs : List Value} (o : Nat) (d : decode cc pc = .ok (.new i, 3)) (hG : yNw own i ci N fs) (hfr2 : (yall lv st w).contains o = false) (hno : (w0.map (fun q => q.1)).contains o = false) (hk : k + 1 ≤ mc) (hn : n + N ≤ ms) (kk : Y (k + 1) (n + N) (pc + 3) lv (.ref o :: st) (w ++ [(o, .inr (ci, fs))])) : Y k n pc lv st w := by
  obtain ⟨p, l, e, R, s, m, args, below, meth, c, D, ca, ad0, hx, hb, hml, hown, hts, hN, hK, hret, hlk, hin, hfr, hlo, hmc, rfl⟩ := hR
  intro ad had ls H locs hl hP hD hS
  obtain ⟨C, T, ty, hc, h1, h2, h3, hin2, hty, hfs, hz⟩ := hG
  refine va_new hx hb hts hin2 ty hty hown (hts _ h1) (hts _ h2) (hts _ h3) hK hP hD hS (fun q hq => Or.inr hq) hc hfs (by omega) (by omega) d (fun q H1 g1 g2 g3 => ?_)
  have hfr3 : ∀ a ∈ yall lv st w, va_up ad o q a = ad a := fun a ha => va_up_ne ad _ (fun e => by
    subst e
    rw [List.contains_iff_mem.mpr ha] at hfr2
    cases hfr2)
  have ew : yws (va_up ad o q) ca w = yws ad ca w := yws_same (fun a ha => hfr3 a (List.mem_append_right _ (List.mem_append_right _ ha)))
  have ew2 : yws (va_up ad o q) ca (w ++ [(o, .inr (ci, fs))]) = yws ad ca w ++ [(q, .inr (ci, fs))] := by
    rw [yws, List.map_append]
    show yws (va_up ad o q) ca w ++ [(va_up ad o q o, (Sum.inr (ci, fs.map (zv (va_up ad o q))) : va_E))] = _
    rw [ew, va_up_self, hz]
  have eS : ((Value.ref o :: st)).map (zv (va_up ad o q)) = .ref q :: st.map (zv ad) := by
    rw [List.map_cons, zvs_same (fun a ha => hfr3 a (List.mem_append_right _ (List.mem_append_left _ ha)))]
    show Value.ref (va_up ad o q o) :: _ = _
    rw [va_up_self]
  have kk2 := kk (va_up ad o q) (fun q2 hq => by
    rw [va_up_ne ad _ (fun e => by
      have h9 : (w0.map (fun q => q.1)).contains o = true := List.contains_iff_mem.mpr (e ▸ List.mem_map_of_mem hq)
      rw [h9] at hno
      cases hno)]
    exact had q2 hq) ls H1 locs (by rw [zLv_same lv 0 (fun a ha => hfr3 a (List.mem_append_left _ ha))]; exact hl) (by rw [ew2]; exact g1) (by rw [ew2]; exact g2) g3
  rw [eS] at kk2
  exact kk2
/-- what the tables say of a constructor's call -/
def yCo (own : String) (i : Nat) (y : MethodName) (n : Nat) : Prop := y.name = "<init>" ∧ zCo y n ∧ Cond.instanceMethod y ∈ zwd ∧ (Cond.methodLink own i y ∈ zwd ∨ ∃ host, Cond.methodLinkNest own i y host ∈ zNst)
theorem yU.blind {av : List Value} {D : va_G} {ad : Nat → Nat} {ca : Nat → ClassId} {w : yW} {sz : Nat} : FrameBlind (va_Pc av (fun U => U.heap.size = sz ∧ yU D ca ad w U)) := by
  intro a U g mk h
  obtain ⟨h0, h1, h2, h3, h4, h5⟩ := h
  exact ⟨h0, h1, h2, va_K.moved (u := U) (U := U.calling g mk a) (Vm.Alike.refl U.vm) h3, h4, fun x hx => va_Nw.same (u := U) (U := U.calling g mk a) (zNst_on x hx) rfl (h5 x hx)⟩
theorem zNw_warm {s U : State} (hW : s.WarmedH U.vm) (h : ∀ x ∈ zNst, va_Nw x s) : ∀ x ∈ zNst, va_Nw x U := by
  intro w hw
  have h1 := zNst_is w hw
  have h2 := h w hw
  cases w with
  | fieldLinkNest a i b n d h => exact va_Nw.warmF hW h2
  | methodLinkNest a i x h => exact va_Nw.warmM hW h2
  | declares x => exact va_Nw.warmD hW h2
  | castable a b => exact va_Nw.warmC hW h2
  | _ => cases h1
/-- a constructor's call: the object stands at q in the world; the rest (at the places isR) stays; what comes back stands behind it -/
theorem y_call (hR : yR own cc nL fr lo mc ms w0 w1 Y) {i o q nLY frY loY mcY msY : Nat} {y : MethodName} {ccY : ByteArray} {av : List Value} {eo : yE} {wr w2 : yW} (isR : List Nat) (d : decode cc pc = .ok (.invokespecial i, 3)) (hC : yCo own i y av.length) (hcd : Cond.code y ccY nLY none ∈ zwd) (hM : yM y ccY nLY frY loY mcY msY (.ref o :: av) [(o, eo)] w2) (hf : frY + 1 ≤ fr ∧ 8 + (nLY + 11) + loY ≤ lo) (hw8 : (st.map fun v => v.category).sum ≤ 8)
    (hq : w[q]? = some (o, eo)) (hwr : isR.map (fun j => w[j]?) = wr.map some) (hnd : va_nd isR = true) (hdis : ∀ j ∈ isR, j ∉ [q])
    (hfr2 : (yall lv st wr).all (fun a => a == o || !(w2.map (fun z => z.1)).contains a) = true) (hcl2 : (w2.flatMap (fun z => z.1 :: ycr z.2)).all (fun a => (w2.map (fun z => z.1)).contains a) = true) (hw0 : (w0.map (fun z => z.1)).all (fun a => a == o || !(w2.map (fun z => z.1)).contains a) = true)
    (hk : k + mcY ≤ mc) (hn : n + msY ≤ ms) (kk : Y (k + mcY) (n + msY) (pc + 3) lv st (wr ++ w2)) : Y k n pc lv (av.reverse ++ .ref o :: st) w := by
  obtain ⟨p, l, e, R, s, m, args, below, meth, c, D, ca, ad0, hx, hb, hml, hown, hts, hN, hK, hret, hlk, hin, hfr, hlo, hmc, rfl⟩ := hR
  intro ad had ls H locs hl hP hD hS
  have est : (av.reverse ++ .ref o :: st).map (zv ad) = (av.map (zv ad)).reverse ++ .ref (ad o) :: st.map (zv ad) := by simp [zv]
  have hw9 : ((st.map (zv ad)).map fun v => v.category).sum ≤ 8 := by
    rw [List.map_map]
    have e9 : ((fun v : Value => v.category) ∘ zv ad) = fun v => v.category := funext fun v => zv_cat ad v
    rw [e9]
    exact hw8
  obtain ⟨hyn, ⟨hini, hd⟩, hinst, hlink⟩ := hC
  have hCq : [q].map (fun j => (yws ad ca w)[j]?) = (yws ad ca [(o, eo)]).map some := by
    show [(yws ad ca w)[q]?] = [some _]
    rw [yws_at hq]
  have hRr : isR.map (fun j => (yws ad ca w)[j]?) = (yws ad ca wr).map some := by
    have h1 : (fun j => (yws ad ca w)[j]?) = fun j => (w[j]?).map (fun z : Nat × yE => (ad z.1, ycell ad ca z.2)) := funext fun j => by rw [yws, List.getElem?_map]
    have h2 : isR.map (fun j => (w[j]?).map (fun z : Nat × yE => (ad z.1, ycell ad ca z.2))) = (isR.map (fun j => w[j]?)).map (fun z => z.map (fun z : Nat × yE => (ad z.1, ycell ad ca z.2))) := by rw [List.map_map]; rfl
    rw [h1, h2, hwr, List.map_map, yws, List.map_map]
    rfl
  have hPc := hP.sub (ws' := yws ad ca [(o, eo)]) [q] (by
    show [q].filterMap (fun i => (yws ad ca w)[i]?) = _
    simp only [List.filterMap_cons, List.filterMap_nil, yws_at hq]
    rfl)
  have hDc := hD.sub (ws' := yws ad ca [(o, eo)]) [q] rfl hCq
  have hFc := va_free (wc := yws ad ca [(o, eo)]) hD hS (fun q hq => Or.inr hq) [q] hCq
  have pv : PreS s H (va_Pc ((.ref o :: av).map (zv ad)) (fun U => U.heap.size = H.size ∧ yU D ca ad [(o, eo)] U)) (.ref (ad o) :: av.map (zv ad)) :=
    ⟨yU.blind, fun U hU hW => ⟨rfl, by rw [hU], by rw [hU]; exact hPc, va_K.moved hW.alike hK, hDc.weaken (fun _ _ _ _ => trivial), zNw_warm hW hN⟩⟩
  have hfr2' : frY + 1 ≤ R.frames ∧ 8 + (nLY + 11) + loY ≤ R.locals := ⟨by omega, by omega⟩
  have hrun : va_Run p l e R s m args below meth c H locs k n mcY msY (F0 m pc ls ((av.map (zv ad)).reverse ++ .ref (ad o) :: st.map (zv ad))) (st.map (zv ad)) (yQ D ca ad H.size [(o, eo)] w2 (Value.ref (ad o) :: av.map (zv ad)).toArray) (va_A (yws ad ca [(o, eo)]) H.size) := by
    rcases hlink with hlink | ⟨host, hlink⟩
    · exact va_runI (As := av.map (zv ad)) (rest := st.map (zv ad)) (n := av.length) ⟨hx, hb, hml, hown, hts⟩ (hM l D ca ad H.size) (cwI av.length hts (zGoodIn hcd) rfl rfl rfl (hts _ hini) (hts _ hlink) (hts _ hinst) hyn hd hfr2') pv rfl (by simp) hl.1 rfl (by show 2 * 0 + _ ≤ 8; omega) d ⟨by omega, by omega⟩
    · exact va_runIN (As := av.map (zv ad)) (rest := st.map (zv ad)) (n := av.length) ⟨hx, hb, hml, hown, hts⟩ (hM l D ca ad H.size) ⟨va_cnB av.length hts (zGoodIn hcd) rfl rfl rfl (hN _ hlink) (hts _ hini) hd hfr2', hyn, hts _ hinst⟩ pv rfl (by simp) hl.1 rfl (by show 2 * 0 + _ ≤ 8; omega) d ⟨by omega, by omega⟩
  rw [est]
  refine va_callv hrun hS (fun q _ h => hFc q h) hFc (fun ad2 t H1 locs1 ht hvm h5 hB hz1 hk1 hS1 => ?_)
  obtain ⟨hP1, hD1⟩ := hB
  rw [ht] at hP1
  obtain ⟨hPj, hDj⟩ := va_join (wr := yws ad ca wr) (w1 := yws ad2 ca w2) hP hD [q] isR hCq hRr hnd hdis hk1 hFc hP1 hD1
  -- the addresses of both
  have e0 : ad2 o = ad o := h5 (o, eo) List.mem_cons_self
  have agR : ∀ a ∈ yall lv st wr, (if (w2.map (fun z => z.1)).contains a then ad2 a else ad a) = ad a := by
    intro a ha
    have h1 := List.all_eq_true.mp hfr2 a ha
    by_cases h2 : a = o
    · subst h2
      split
      · exact e0
      · rfl
    · simp only [Bool.or_eq_true, beq_iff_eq, h2, false_or, Bool.not_eq_true'] at h1
      rw [h1]
      rfl
  have ag2 : ∀ a ∈ w2.flatMap (fun z => z.1 :: ycr z.2), (if (w2.map (fun z => z.1)).contains a then ad2 a else ad a) = ad2 a := by
    intro a ha
    have h1 := List.all_eq_true.mp hcl2 a ha
    rw [if_pos h1]
  have ag0 : ∀ z ∈ w0, (if (w2.map (fun z => z.1)).contains z.1 then ad2 z.1 else ad z.1) = ad0 z.1 := by
    intro z hz
    have h1 := List.all_eq_true.mp hw0 z.1 (List.mem_map_of_mem hz)
    by_cases h2 : z.1 = o
    · rw [h2]
      have h3 := had z hz
      rw [h2] at h3
      split
      · rw [e0]; exact h3
      · exact h3
    · simp only [Bool.or_eq_true, beq_iff_eq, h2, false_or, Bool.not_eq_true'] at h1
      rw [h1]
      exact had z hz
  have eW : yws (fun a => if (w2.map (fun z => z.1)).contains a then ad2 a else ad a) ca (wr ++ w2) = yws ad ca wr ++ yws ad2 ca w2 := by
    rw [yws_app, yws_same (ad := ad) (fun a ha => agR a (List.mem_append_right _ (List.mem_append_right _ ha))), yws_same (ad := ad2) ag2]
  have kk2 := kk (fun a => if (w2.map (fun z => z.1)).contains a then ad2 a else ad a) ag0 ls H1 locs1 (by rw [zLv_same (ad := ad) lv 0 (fun a ha => agR a (List.mem_append_left _ ha))]; exact hl) (by rw [eW]; exact hPj) (by rw [eW]; exact hDj) hS1
  rw [zvs_same (ad := ad) (fun a ha => agR a (List.mem_append_right _ (List.mem_append_left _ ha)))] at kk2
  exact kk2
end YN
end
